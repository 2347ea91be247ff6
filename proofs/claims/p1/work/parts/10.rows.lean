theorem ok6_here {S : HP} {x0 : Int} {r : Int × HP} (h : s6_here S x0 = some r) : 0 ≤ x0 ∧ x0.toNat < e_n S ∧ e_g S x0.toNat = 6 := (gd_some h).1
set_option maxRecDepth 100000 in
set_option maxHeartbeats 4000000 in
theorem c6_here (l : Launch) (D : va_G) (cA : Nat → ClassId) (B : Nat) (S S' : HP) (x0 : Int) (r : Int) (hsh : s6_here S x0 = some (r, S')) : Met l yX6_here (e_wu yX6_here cX6_here 1 (some .int)) ({ frames := 0, cells := 0, slots := 0, locals := 0 } : Room) (va_Pc [e_rv B (x0)] (fun U => e_PU D cA B S U)) (e_Qi D cA B r S') 0 0 (e_A B) := by
  refine Met.ofW (cc := cX6_here) (maxL := 1) (ret := (some .int)) (by decide +kernel) rfl ?_
  intro p e s m args below meth c s₁ Bd hml hv
  obtain ⟨rfl, hp⟩ := hv
  have hp : e_Pic D cA B S s s.heap := hp
  have hx := Bd.exec
  have hb := Bd.bytes
  have hrt := Bd.returns
  have hlk := Bd.notSynchronized
  have hown : s.vm.findClass RX6 = some m.cls := findClass_of_methodNamed Bd.named
  have hts : ∀ w ∈ e_tb, w.before ([e_rv B (x0)] : List Value).toArray s = true := fun w h => atoms_spec (ws := (e_wu yX6_here cX6_here 1 (some .int))) Bd.pre w (List.mem_cons_of_mem _ h)
  have E : e_En p s m ([e_rv B (x0)] : List Value).toArray meth c cX6_here RX6 1 (some .int) := ⟨hx, hb, hml, hown, hts, hlk, hrt⟩
  have hS : va_S (e_A B) s.heap s.heap [] := va_S.rf
  have hl := e_entry (vs := [e_rv B (x0)]) (n := 1) (Nat.le_of_ble_eq_true rfl) (e_cc (e_rv_cat _ _) e_cn)
  rw [lg_entry_eq]
  generalize (lg_sl [e_rv B (x0)] ++ List.replicate (1 - (lg_sl [e_rv B (x0)]).length) Slot.unset).toArray = ls at hl ⊢
  generalize ([e_rv B (x0)] : List Value).toArray = args at hts E ⊢
  have hl : e_lo ls 1 [(0, e_rv B (x0))] := hl
  have hsh := (gd_some hsh).2
  refine e_aload_n (B := B) (x := x0) hx hb dX6_here_0 rfl (hl.at 0 rfl) ?_
  obtain ⟨v1, h1, hsh⟩ := Option.bind_eq_some_iff.mp hsh
  refine e_getI (k := 0) hx hb hts in_X6 hown hp h1 rfl (by decide) (by decide) rfl (hts _ kf6_9) rfl dX6_here_1 ?_
  refine lv_bipush (v := iI (100)) hx hb dX6_here_4 (by decide +kernel) ?_
  refine e_imul hx hb dX6_here_6 ?_
  refine e_aload_n (B := B) (x := x0) hx hb dX6_here_7 rfl (hl.at 0 rfl) ?_
  obtain ⟨v8, h8, hsh⟩ := Option.bind_eq_some_iff.mp hsh
  refine e_getI (k := 1) hx hb hts in_X6 hown hp h8 rfl (by decide) (by decide) rfl (hts _ kf6_15) rfl dX6_here_8 ?_
  refine e_iadd hx hb dX6_here_11 ?_
  cases hsh
  exact e_iret hx hb hrt hlk hp hS dX6_here_12
theorem ok6_put {S : HP} {x0 : Int} {x1 : Int} {x2 : Int} {r : HP} (h : s6_put S x0 x1 x2 = some r) : 0 ≤ x0 ∧ x0.toNat < e_n S ∧ e_g S x0.toNat = 6 := (gd_some h).1
set_option maxRecDepth 100000 in
set_option maxHeartbeats 4000000 in
theorem c6_put (l : Launch) (D : va_G) (cA : Nat → ClassId) (B : Nat) (S S' : HP) (x0 : Int) (x1 : Int) (x2 : Int) (hsh : s6_put S x0 x1 x2 = some S') : Met l yX6_put (e_wu yX6_put cX6_put 3 none) ({ frames := 0, cells := 0, slots := 0, locals := 0 } : Room) (va_Pc [e_rv B (x0), .int (iI (x1)), .int (iI (x2))] (fun U => e_PU D cA B S U)) (e_Qv D cA B S') 0 0 (e_A B) := by
  refine Met.ofW (cc := cX6_put) (maxL := 3) (ret := none) (by decide +kernel) rfl ?_
  intro p e s m args below meth c s₁ Bd hml hv
  obtain ⟨rfl, hp⟩ := hv
  have hp : e_Pic D cA B S s s.heap := hp
  have hx := Bd.exec
  have hb := Bd.bytes
  have hrt := Bd.returns
  have hlk := Bd.notSynchronized
  have hown : s.vm.findClass RX6 = some m.cls := findClass_of_methodNamed Bd.named
  have hts : ∀ w ∈ e_tb, w.before ([e_rv B (x0), .int (iI (x1)), .int (iI (x2))] : List Value).toArray s = true := fun w h => atoms_spec (ws := (e_wu yX6_put cX6_put 3 none)) Bd.pre w (List.mem_cons_of_mem _ h)
  have E : e_En p s m ([e_rv B (x0), .int (iI (x1)), .int (iI (x2))] : List Value).toArray meth c cX6_put RX6 3 none := ⟨hx, hb, hml, hown, hts, hlk, hrt⟩
  have hS : va_S (e_A B) s.heap s.heap [] := va_S.rf
  have hl := e_entry (vs := [e_rv B (x0), .int (iI (x1)), .int (iI (x2))]) (n := 3) (Nat.le_of_ble_eq_true rfl) (e_cc (e_rv_cat _ _) (e_cc rfl (e_cc rfl e_cn)))
  rw [lg_entry_eq]
  generalize (lg_sl [e_rv B (x0), .int (iI (x1)), .int (iI (x2))] ++ List.replicate (3 - (lg_sl [e_rv B (x0), .int (iI (x1)), .int (iI (x2))]).length) Slot.unset).toArray = ls at hl ⊢
  generalize ([e_rv B (x0), .int (iI (x1)), .int (iI (x2))] : List Value).toArray = args at hts E ⊢
  have hl : e_lo ls 3 [(0, e_rv B (x0)), (1, .int (iI (x1))), (2, .int (iI (x2)))] := hl
  have hsh := (gd_some hsh).2
  refine e_aload_n (B := B) (x := x0) hx hb dX6_put_0 rfl (hl.at 0 rfl) ?_
  refine lv_iload_n hx hb dX6_put_1 rfl (hl.at 1 rfl) ?_
  obtain ⟨S2, h2, hsh⟩ := Option.bind_eq_some_iff.mp hsh
  refine e_putI (k := 0) hx hb hts in_X6 tyX6 tyX6_ok nmX6 hown hp hS h2 rfl (by decide) (by decide) rfl (hts _ kf6_9) rfl rfl (by decide +kernel) dX6_put_2 (fun H locs hp hS => ?_)
  refine e_aload_n (B := B) (x := x0) hx hb dX6_put_5 rfl (hl.at 0 rfl) ?_
  refine lv_iload_n hx hb dX6_put_6 rfl (hl.at 2 rfl) ?_
  obtain ⟨S7, h7, hsh⟩ := Option.bind_eq_some_iff.mp hsh
  refine e_putI (k := 1) hx hb hts in_X6 tyX6 tyX6_ok nmX6 hown hp hS h7 rfl (by decide) (by decide) rfl (hts _ kf6_15) rfl rfl (by decide +kernel) dX6_put_7 (fun H locs hp hS => ?_)
  refine e_aload_n (B := B) (x := x0) hx hb dX6_put_10 rfl (hl.at 0 rfl) ?_
  refine lv_iload_n hx hb dX6_put_11 rfl (hl.at 2 rfl) ?_
  obtain ⟨S12, h12, hsh⟩ := Option.bind_eq_some_iff.mp hsh
  refine e_putI (k := 2) hx hb hts in_X6 tyX6 tyX6_ok nmX6 hown hp hS h12 rfl (by decide) (by decide) rfl (hts _ kf6_18) rfl rfl (by decide +kernel) dX6_put_12 (fun H locs hp hS => ?_)
  cases hsh
  exact e_vret hx hb hrt hlk hp hS dX6_put_15
theorem ok6_markOf {S : HP} {x0 : Int} {x1 : Int} {r : Int × HP} (h : s6_markOf S x0 x1 = some r) : 0 ≤ x0 ∧ x0.toNat < e_n S ∧ e_g S x0.toNat = 6 := (gd_some h).1
set_option maxRecDepth 100000 in
set_option maxHeartbeats 4000000 in
theorem w6_markOf_b25 {p : Program} {l : Launch} {e : Env} {s : State} {m : MethodId} {args : Array Value} {below : List Frame} {meth : Method} {c : Code} {D : va_G} {cA : Nat → ClassId} {B : Nat} {res : Int × HP} (E : e_En p s m args meth c cX6_markOf RX6 2 (some .int)) {ls : Array Slot} {H : Heap} {locs : List Loc} {S : HP} {y0 : Int} (hp : e_Pic D cA B S s H) (hS : va_S (e_A B) s.heap H locs) (hl : e_lo ls 2 []) (hsh : s6_markOf_b25 S y0 = some res) : W p l e ({ frames := 0, cells := 0, slots := 0, locals := 0 } : Room) s m args below meth c H locs 0 0 (MQ below (e_Qi D cA B res.1 res.2) args s 0 0 (e_A B)) (F0 m 25 ls [.int (iI (y0))]) := by
  obtain ⟨hx, hb, hml, hown, hts, hlk, hrt⟩ := id E
  unfold s6_markOf_b25 at hsh
  cases hsh
  exact e_iret hx hb hrt hlk hp hS dX6_markOf_25
set_option maxRecDepth 100000 in
set_option maxHeartbeats 4000000 in
theorem w6_markOf_b12 {p : Program} {l : Launch} {e : Env} {s : State} {m : MethodId} {args : Array Value} {below : List Frame} {meth : Method} {c : Code} {D : va_G} {cA : Nat → ClassId} {B : Nat} {res : Int × HP} (E : e_En p s m args meth c cX6_markOf RX6 2 (some .int)) {ls : Array Slot} {H : Heap} {locs : List Loc} {S : HP} (hp : e_Pic D cA B S s H) (hS : va_S (e_A B) s.heap H locs) (hl : e_lo ls 2 []) (hsh : s6_markOf_b12 S  = some res) : W p l e ({ frames := 0, cells := 0, slots := 0, locals := 0 } : Room) s m args below meth c H locs 0 0 (MQ below (e_Qi D cA B res.1 res.2) args s 0 0 (e_A B)) (F0 m 12 ls []) := by
  obtain ⟨hx, hb, hml, hown, hts, hlk, hrt⟩ := id E
  unfold s6_markOf_b12 at hsh
  refine lv_iconst (v := iI (-1)) hx hb dX6_markOf_12 rfl ?_
  refine lv_goto (tgt := 25) hx hb dX6_markOf_13 (by decide) ?_
  exact w6_markOf_b25 E hp hS (hl.sub [] rfl) hsh
set_option maxRecDepth 100000 in
set_option maxHeartbeats 4000000 in
theorem c6_markOf (l : Launch) (D : va_G) (cA : Nat → ClassId) (B : Nat) (S S' : HP) (x0 : Int) (x1 : Int) (r : Int) (hsh : s6_markOf S x0 x1 = some (r, S')) : Met l yX6_markOf (e_wu yX6_markOf cX6_markOf 2 (some .int)) ({ frames := 0, cells := 0, slots := 0, locals := 0 } : Room) (va_Pc [e_rv B (x0), .int (iI (x1))] (fun U => e_PU D cA B S U)) (e_Qi D cA B r S') 0 0 (e_A B) := by
  refine Met.ofW (cc := cX6_markOf) (maxL := 2) (ret := (some .int)) (by decide +kernel) rfl ?_
  intro p e s m args below meth c s₁ Bd hml hv
  obtain ⟨rfl, hp⟩ := hv
  have hp : e_Pic D cA B S s s.heap := hp
  have hx := Bd.exec
  have hb := Bd.bytes
  have hrt := Bd.returns
  have hlk := Bd.notSynchronized
  have hown : s.vm.findClass RX6 = some m.cls := findClass_of_methodNamed Bd.named
  have hts : ∀ w ∈ e_tb, w.before ([e_rv B (x0), .int (iI (x1))] : List Value).toArray s = true := fun w h => atoms_spec (ws := (e_wu yX6_markOf cX6_markOf 2 (some .int))) Bd.pre w (List.mem_cons_of_mem _ h)
  have E : e_En p s m ([e_rv B (x0), .int (iI (x1))] : List Value).toArray meth c cX6_markOf RX6 2 (some .int) := ⟨hx, hb, hml, hown, hts, hlk, hrt⟩
  have hS : va_S (e_A B) s.heap s.heap [] := va_S.rf
  have hl := e_entry (vs := [e_rv B (x0), .int (iI (x1))]) (n := 2) (Nat.le_of_ble_eq_true rfl) (e_cc (e_rv_cat _ _) (e_cc rfl e_cn))
  rw [lg_entry_eq]
  generalize (lg_sl [e_rv B (x0), .int (iI (x1))] ++ List.replicate (2 - (lg_sl [e_rv B (x0), .int (iI (x1))]).length) Slot.unset).toArray = ls at hl ⊢
  generalize ([e_rv B (x0), .int (iI (x1))] : List Value).toArray = args at hts E ⊢
  have hl : e_lo ls 2 [(0, e_rv B (x0)), (1, .int (iI (x1)))] := hl
  have hsh := (gd_some hsh).2
  refine lv_iload_n hx hb dX6_markOf_0 rfl (hl.at 1 rfl) ?_
  refine lv_bipush (v := iI (97)) hx hb dX6_markOf_1 (by decide +kernel) ?_
  refine e_icmp_lt (tgt := 12) hx hb dX6_markOf_3 (by decide) (fun c3 => ?_) (fun c3 => ?_)
  · rw [if_pos c3] at hsh
    exact w6_markOf_b12 E hp hS (hl.sub [] rfl) hsh
  · rw [if_neg c3] at hsh
    refine lv_iload_n hx hb dX6_markOf_6 rfl (hl.at 1 rfl) ?_
    refine lv_bipush (v := iI (122)) hx hb dX6_markOf_7 (by decide +kernel) ?_
    refine e_icmp_le (tgt := 16) hx hb dX6_markOf_9 (by decide) (fun c9 => ?_) (fun c9 => ?_)
    · rw [if_pos c9] at hsh
      refine e_aload_n (B := B) (x := x0) hx hb dX6_markOf_16 rfl (hl.at 0 rfl) ?_
      obtain ⟨v17, h17, hsh⟩ := Option.bind_eq_some_iff.mp hsh
      refine e_getR (k := 4) hx hb hts in_X6 hown hp h17 rfl (by decide) (by decide) rfl (hts _ kf6_24) rfl dX6_markOf_17 ?_
      refine lv_iload_n hx hb dX6_markOf_20 rfl (hl.at 1 rfl) ?_
      refine lv_bipush (v := iI (97)) hx hb dX6_markOf_21 (by decide +kernel) ?_
      refine e_isub hx hb dX6_markOf_23 ?_
      obtain ⟨v24, h24, hsh⟩ := Option.bind_eq_some_iff.mp hsh
      refine e_iald hx hb hp h24 dX6_markOf_24 ?_
      exact w6_markOf_b25 E hp hS (hl.sub [] rfl) hsh
    · rw [if_neg c9] at hsh
      exact w6_markOf_b12 E hp hS (hl.sub [] rfl) hsh
theorem ok6_setMark {S : HP} {x0 : Int} {x1 : Int} {r : HP} (h : s6_setMark S x0 x1 = some r) : 0 ≤ x0 ∧ x0.toNat < e_n S ∧ e_g S x0.toNat = 6 := (gd_some h).1
set_option maxRecDepth 100000 in
set_option maxHeartbeats 4000000 in
theorem w6_setMark_b33 {p : Program} {l : Launch} {e : Env} {s : State} {m : MethodId} {args : Array Value} {below : List Frame} {meth : Method} {c : Code} {D : va_G} {cA : Nat → ClassId} {B : Nat} {res : HP} (E : e_En p s m args meth c cX6_setMark RX6 2 none) {ls : Array Slot} {H : Heap} {locs : List Loc} {S : HP} (hp : e_Pic D cA B S s H) (hS : va_S (e_A B) s.heap H locs) (hl : e_lo ls 2 []) (hsh : s6_setMark_b33 S  = some res) : W p l e ({ frames := 0, cells := 0, slots := 0, locals := 0 } : Room) s m args below meth c H locs 0 0 (MQ below (e_Qv D cA B res) args s 0 0 (e_A B)) (F0 m 33 ls []) := by
  obtain ⟨hx, hb, hml, hown, hts, hlk, hrt⟩ := id E
  unfold s6_setMark_b33 at hsh
  cases hsh
  exact e_vret hx hb hrt hlk hp hS dX6_setMark_33
set_option maxRecDepth 100000 in
set_option maxHeartbeats 4000000 in
theorem c6_setMark (l : Launch) (D : va_G) (cA : Nat → ClassId) (B : Nat) (S S' : HP) (x0 : Int) (x1 : Int) (hsh : s6_setMark S x0 x1 = some S') : Met l yX6_setMark (e_wu yX6_setMark cX6_setMark 2 none) ({ frames := 0, cells := 0, slots := 0, locals := 0 } : Room) (va_Pc [e_rv B (x0), .int (iI (x1))] (fun U => e_PU D cA B S U)) (e_Qv D cA B S') 0 0 (e_A B) := by
  refine Met.ofW (cc := cX6_setMark) (maxL := 2) (ret := none) (by decide +kernel) rfl ?_
  intro p e s m args below meth c s₁ Bd hml hv
  obtain ⟨rfl, hp⟩ := hv
  have hp : e_Pic D cA B S s s.heap := hp
  have hx := Bd.exec
  have hb := Bd.bytes
  have hrt := Bd.returns
  have hlk := Bd.notSynchronized
  have hown : s.vm.findClass RX6 = some m.cls := findClass_of_methodNamed Bd.named
  have hts : ∀ w ∈ e_tb, w.before ([e_rv B (x0), .int (iI (x1))] : List Value).toArray s = true := fun w h => atoms_spec (ws := (e_wu yX6_setMark cX6_setMark 2 none)) Bd.pre w (List.mem_cons_of_mem _ h)
  have E : e_En p s m ([e_rv B (x0), .int (iI (x1))] : List Value).toArray meth c cX6_setMark RX6 2 none := ⟨hx, hb, hml, hown, hts, hlk, hrt⟩
  have hS : va_S (e_A B) s.heap s.heap [] := va_S.rf
  have hl := e_entry (vs := [e_rv B (x0), .int (iI (x1))]) (n := 2) (Nat.le_of_ble_eq_true rfl) (e_cc (e_rv_cat _ _) (e_cc rfl e_cn))
  rw [lg_entry_eq]
  generalize (lg_sl [e_rv B (x0), .int (iI (x1))] ++ List.replicate (2 - (lg_sl [e_rv B (x0), .int (iI (x1))]).length) Slot.unset).toArray = ls at hl ⊢
  generalize ([e_rv B (x0), .int (iI (x1))] : List Value).toArray = args at hts E ⊢
  have hl : e_lo ls 2 [(0, e_rv B (x0)), (1, .int (iI (x1)))] := hl
  have hsh := (gd_some hsh).2
  refine lv_iload_n hx hb dX6_setMark_0 rfl (hl.at 1 rfl) ?_
  refine lv_bipush (v := iI (97)) hx hb dX6_setMark_1 (by decide +kernel) ?_
  refine e_icmp_lt (tgt := 33) hx hb dX6_setMark_3 (by decide) (fun c3 => ?_) (fun c3 => ?_)
  · rw [if_pos c3] at hsh
    exact w6_setMark_b33 E hp hS (hl.sub [] rfl) hsh
  · rw [if_neg c3] at hsh
    refine lv_iload_n hx hb dX6_setMark_6 rfl (hl.at 1 rfl) ?_
    refine lv_bipush (v := iI (122)) hx hb dX6_setMark_7 (by decide +kernel) ?_
    refine e_icmp_gt (tgt := 33) hx hb dX6_setMark_9 (by decide) (fun c9 => ?_) (fun c9 => ?_)
    · rw [if_pos c9] at hsh
      exact w6_setMark_b33 E hp hS (hl.sub [] rfl) hsh
    · rw [if_neg c9] at hsh
      refine e_aload_n (B := B) (x := x0) hx hb dX6_setMark_12 rfl (hl.at 0 rfl) ?_
      obtain ⟨v13, h13, hsh⟩ := Option.bind_eq_some_iff.mp hsh
      refine e_getR (k := 4) hx hb hts in_X6 hown hp h13 rfl (by decide) (by decide) rfl (hts _ kf6_24) rfl dX6_setMark_13 ?_
      refine lv_iload_n hx hb dX6_setMark_16 rfl (hl.at 1 rfl) ?_
      refine lv_bipush (v := iI (97)) hx hb dX6_setMark_17 (by decide +kernel) ?_
      refine e_isub hx hb dX6_setMark_19 ?_
      refine e_aload_n (B := B) (x := x0) hx hb dX6_setMark_20 rfl (hl.at 0 rfl) ?_
      obtain ⟨v21, h21, hsh⟩ := Option.bind_eq_some_iff.mp hsh
      refine e_getI (k := 0) hx hb hts in_X6 hown hp h21 rfl (by decide) (by decide) rfl (hts _ kf6_9) rfl dX6_setMark_21 ?_
      refine lv_bipush (v := iI (100)) hx hb dX6_setMark_24 (by decide +kernel) ?_
      refine e_imul hx hb dX6_setMark_26 ?_
      refine e_aload_n (B := B) (x := x0) hx hb dX6_setMark_27 rfl (hl.at 0 rfl) ?_
      obtain ⟨v28, h28, hsh⟩ := Option.bind_eq_some_iff.mp hsh
      refine e_getI (k := 1) hx hb hts in_X6 hown hp h28 rfl (by decide) (by decide) rfl (hts _ kf6_15) rfl dX6_setMark_28 ?_
      refine e_iadd hx hb dX6_setMark_31 ?_
      obtain ⟨S32, h32, hsh⟩ := Option.bind_eq_some_iff.mp hsh
      refine e_iast hx hb hp hS h32 dX6_setMark_32 (fun H locs hp hS => ?_)
      exact w6_setMark_b33 E hp hS (hl.sub [] rfl) hsh
theorem ok6_keepJump {S : HP} {x0 : Int} {x1 : Int} {r : HP} (h : s6_keepJump S x0 x1 = some r) : 0 ≤ x0 ∧ x0.toNat < e_n S ∧ e_g S x0.toNat = 6 := (gd_some h).1
set_option maxRecDepth 100000 in
set_option maxHeartbeats 4000000 in
theorem w6_keepJump_b73 {p : Program} {l : Launch} {e : Env} {s : State} {m : MethodId} {args : Array Value} {below : List Frame} {meth : Method} {c : Code} {D : va_G} {cA : Nat → ClassId} {B : Nat} {res : HP} (E : e_En p s m args meth c cX6_keepJump RX6 4 none) {ls : Array Slot} {H : Heap} {locs : List Loc} {S : HP} {x0 : Int} {x1 : Int} {x2 : Int} (hp : e_Pic D cA B S s H) (hS : va_S (e_A B) s.heap H locs) (hl : e_lo ls 4 [(0, e_rv B (x0)), (1, .int (iI (x1))), (2, .int (iI (x2)))]) (hsh : s6_keepJump_b73 S x0 x1 x2 = some res) : W p l e ({ frames := 1, cells := 0, slots := 0, locals := 60 } : Room) s m args below meth c H locs 0 0 (MQ below (e_Qv D cA B res) args s 0 0 (e_A B)) (F0 m 73 ls []) := by
  obtain ⟨hx, hb, hml, hown, hts, hlk, hrt⟩ := id E
  unfold s6_keepJump_b73 at hsh
  refine e_aload_n (B := B) (x := x0) hx hb dX6_keepJump_73 rfl (hl.at 0 rfl) ?_
  obtain ⟨v74, h74, hsh⟩ := Option.bind_eq_some_iff.mp hsh
  refine e_getR (k := 5) hx hb hts in_X6 hown hp h74 rfl (by decide) (by decide) rfl (hts _ kf6_28) rfl dX6_keepJump_74 ?_
  refine lv_iload_n hx hb dX6_keepJump_77 rfl (hl.at 2 rfl) ?_
  refine lv_iload_n hx hb dX6_keepJump_78 rfl (hl.at 1 rfl) ?_
  obtain ⟨S79, h79, hsh⟩ := Option.bind_eq_some_iff.mp hsh
  refine e_iast hx hb hp hS h79 dX6_keepJump_79 (fun H locs hp hS => ?_)
  refine e_aload_n (B := B) (x := x0) hx hb dX6_keepJump_80 rfl (hl.at 0 rfl) ?_
  refine lv_iload_n hx hb dX6_keepJump_81 rfl (hl.at 2 rfl) ?_
  refine lv_iconst (v := iI (1)) hx hb dX6_keepJump_82 rfl ?_
  refine e_iadd hx hb dX6_keepJump_83 ?_
  obtain ⟨S84, h84, hsh⟩ := Option.bind_eq_some_iff.mp hsh
  refine e_putI (k := 6) hx hb hts in_X6 tyX6 tyX6_ok nmX6 hown hp hS h84 rfl (by decide) (by decide) rfl (hts _ kf6_31) rfl rfl (by decide +kernel) dX6_keepJump_84 (fun H locs hp hS => ?_)
  refine e_aload_n (B := B) (x := x0) hx hb dX6_keepJump_87 rfl (hl.at 0 rfl) ?_
  refine lv_iconst (v := iI (-1)) hx hb dX6_keepJump_88 rfl ?_
  obtain ⟨S89, h89, hsh⟩ := Option.bind_eq_some_iff.mp hsh
  refine e_putI (k := 7) hx hb hts in_X6 tyX6 tyX6_ok nmX6 hown hp hS h89 rfl (by decide) (by decide) rfl (hts _ kf6_34) rfl rfl (by decide +kernel) dX6_keepJump_89 (fun H locs hp hS => ?_)
  cases hsh
  exact e_vret hx hb hrt hlk hp hS dX6_keepJump_92
set_option maxRecDepth 100000 in
set_option maxHeartbeats 4000000 in
theorem w6_keepJump_b43 {p : Program} {l : Launch} {e : Env} {s : State} {m : MethodId} {args : Array Value} {below : List Frame} {meth : Method} {c : Code} {D : va_G} {cA : Nat → ClassId} {B : Nat} {res : HP} {k4 : HP → Int → Int → Int → Int → Option (HP)} (hk4 : ∀ {ls : Array Slot} {H : Heap} {locs : List Loc} {S : HP} {x0 : Int} {x1 : Int} {x2 : Int} {x3 : Int} (hp : e_Pic D cA B S s H) (hS : va_S (e_A B) s.heap H locs) (hl : e_lo ls 4 [(0, e_rv B (x0)), (1, .int (iI (x1))), (2, .int (iI (x2))), (3, .int (iI (x3)))]) (hsh : k4 S x0 x1 x2 x3 = some res), W p l e ({ frames := 1, cells := 0, slots := 0, locals := 60 } : Room) s m args below meth c H locs 0 0 (MQ below (e_Qv D cA B res) args s 0 0 (e_A B)) (F0 m 4 ls [])) (E : e_En p s m args meth c cX6_keepJump RX6 4 none) {ls : Array Slot} {H : Heap} {locs : List Loc} {S : HP} {x0 : Int} {x1 : Int} {x2 : Int} {x3 : Int} (hp : e_Pic D cA B S s H) (hS : va_S (e_A B) s.heap H locs) (hl : e_lo ls 4 [(0, e_rv B (x0)), (1, .int (iI (x1))), (2, .int (iI (x2))), (3, .int (iI (x3)))]) (hsh : s6_keepJump_b43 k4 S x0 x1 x2 x3 = some res) : W p l e ({ frames := 1, cells := 0, slots := 0, locals := 60 } : Room) s m args below meth c H locs 0 0 (MQ below (e_Qv D cA B res) args s 0 0 (e_A B)) (F0 m 43 ls []) := by
  obtain ⟨hx, hb, hml, hown, hts, hlk, hrt⟩ := id E
  unfold s6_keepJump_b43 at hsh
  refine e_iinc (n := 1) (x := x3) (lv' := [(3, .int (iI ((x3 + 1)))), (0, e_rv B (x0)), (1, .int (iI (x1))), (2, .int (iI (x2)))]) hx hb dX6_keepJump_43 hl (k := 3) rfl (by decide) rfl (fun ls hl => ?_)
  refine lv_goto (tgt := 4) hx hb dX6_keepJump_46 (by decide) ?_
  exact hk4 hp hS (hl.sub [1, 2, 3, 0] rfl) hsh
set_option maxRecDepth 100000 in
set_option maxHeartbeats 4000000 in
theorem w6_keepJump_l4 {p : Program} {l : Launch} {e : Env} {s : State} {m : MethodId} {args : Array Value} {below : List Frame} {meth : Method} {c : Code} {D : va_G} {cA : Nat → ClassId} {B : Nat} {res : HP} (E : e_En p s m args meth c cX6_keepJump RX6 4 none) : ∀ (f : Nat) {ls : Array Slot} {H : Heap} {locs : List Loc} {S : HP} {x0 : Int} {x1 : Int} {x2 : Int} {x3 : Int} (hp : e_Pic D cA B S s H) (hS : va_S (e_A B) s.heap H locs) (hl : e_lo ls 4 [(0, e_rv B (x0)), (1, .int (iI (x1))), (2, .int (iI (x2))), (3, .int (iI (x3)))]) (hsh : s6_keepJump_l4 f S x0 x1 x2 x3 = some res), W p l e ({ frames := 1, cells := 0, slots := 0, locals := 60 } : Room) s m args below meth c H locs 0 0 (MQ below (e_Qv D cA B res) args s 0 0 (e_A B)) (F0 m 4 ls []) := by
  obtain ⟨hx, hb, hml, hown, hts, hlk, hrt⟩ := id E
  intro f
  induction f with
  | zero => intro ls H locs S x0 x1 x2 x3 hp hS hl hsh; cases hsh
  | succ f ih =>
    intro ls H locs S x0 x1 x2 x3 hp hS hl hsh
    have hk4 : ∀ {ls : Array Slot} {H : Heap} {locs : List Loc} {S : HP} {x0 : Int} {x1 : Int} {x2 : Int} {x3 : Int} (hp : e_Pic D cA B S s H) (hS : va_S (e_A B) s.heap H locs) (hl : e_lo ls 4 [(0, e_rv B (x0)), (1, .int (iI (x1))), (2, .int (iI (x2))), (3, .int (iI (x3)))]) (hsh : (s6_keepJump_l4 f) S x0 x1 x2 x3 = some res), W p l e ({ frames := 1, cells := 0, slots := 0, locals := 60 } : Room) s m args below meth c H locs 0 0 (MQ below (e_Qv D cA B res) args s 0 0 (e_A B)) (F0 m 4 ls []) := ih
    generalize hkk : s6_keepJump_l4 f = k4 at hk4
    rw [s6_keepJump_l4] at hsh
    rw [hkk] at hsh
    try dsimp only at hsh
    refine lv_iload_n hx hb dX6_keepJump_4 rfl (hl.at 3 rfl) ?_
    refine e_aload_n (B := B) (x := x0) hx hb dX6_keepJump_5 rfl (hl.at 0 rfl) ?_
    obtain ⟨v6, h6, hsh⟩ := Option.bind_eq_some_iff.mp hsh
    refine e_getI (k := 6) hx hb hts in_X6 hown hp h6 rfl (by decide) (by decide) rfl (hts _ kf6_31) rfl dX6_keepJump_6 ?_
    refine e_icmp_ge (tgt := 49) hx hb dX6_keepJump_9 (by decide) (fun c9 => ?_) (fun c9 => ?_)
    · rw [if_pos c9] at hsh
      refine lv_iload_n hx hb dX6_keepJump_49 rfl (hl.at 2 rfl) ?_
      refine lv_bipush (v := iI (10)) hx hb dX6_keepJump_50 (by decide +kernel) ?_
      refine e_icmp_ne (tgt := 73) hx hb dX6_keepJump_52 (by decide) (fun c52 => ?_) (fun c52 => ?_)
      · rw [if_neg c52] at hsh
        exact w6_keepJump_b73 E hp hS (hl.sub [0, 1, 2] rfl) hsh
      · rw [if_pos c52] at hsh
        refine e_aload_n (B := B) (x := x0) hx hb dX6_keepJump_55 rfl (hl.at 0 rfl) ?_
        obtain ⟨v56, h56, hsh⟩ := Option.bind_eq_some_iff.mp hsh
        refine e_getR (k := 5) hx hb hts in_X6 hown hp h56 rfl (by decide) (by decide) rfl (hts _ kf6_28) rfl dX6_keepJump_56 ?_
        refine lv_iconst (v := iI (1)) hx hb dX6_keepJump_59 rfl ?_
        refine e_aload_n (B := B) (x := x0) hx hb dX6_keepJump_60 rfl (hl.at 0 rfl) ?_
        obtain ⟨v61, h61, hsh⟩ := Option.bind_eq_some_iff.mp hsh
        refine e_getR (k := 5) hx hb hts in_X6 hown hp h61 rfl (by decide) (by decide) rfl (hts _ kf6_28) rfl dX6_keepJump_61 ?_
        refine lv_iconst (v := iI (0)) hx hb dX6_keepJump_64 rfl ?_
        refine lv_bipush (v := iI (9)) hx hb dX6_keepJump_65 (by decide +kernel) ?_
        obtain ⟨S67, h67, hsh⟩ := Option.bind_eq_some_iff.mp hsh
        refine e_copy (t := 101) (t0 := 1) (rest := []) hx hb (hml.trans hl.size.symm) hown hts kl6_92 kM_acn kM_acs kM_aci hp hS h67 (by decide) (by decide) (by decide) rfl rfl (by have h9 := hS.1; rw [hp.2.2.1] at h9; omega) (Nat.le_of_ble_eq_true rfl) (Nat.le_trans (Nat.add_le_add_right (show _ ≤ 8 by simp [e_rv_cat, e_int_cat]) _) (by decide +kernel)) dX6_keepJump_67 (fun H locs hp hS => ?_)
        refine e_iinc (n := (-1)) (x := x2) (lv' := [(2, .int (iI ((x2 + (-1))))), (0, e_rv B (x0)), (1, .int (iI (x1))), (3, .int (iI (x3)))]) hx hb dX6_keepJump_70 hl (k := 2) rfl (by decide) rfl (fun ls hl => ?_)
        exact w6_keepJump_b73 E hp hS (hl.sub [1, 2, 0] rfl) hsh
    · rw [if_neg c9] at hsh
      refine e_aload_n (B := B) (x := x0) hx hb dX6_keepJump_12 rfl (hl.at 0 rfl) ?_
      obtain ⟨v13, h13, hsh⟩ := Option.bind_eq_some_iff.mp hsh
      refine e_getR (k := 5) hx hb hts in_X6 hown hp h13 rfl (by decide) (by decide) rfl (hts _ kf6_28) rfl dX6_keepJump_13 ?_
      refine lv_iload_n hx hb dX6_keepJump_16 rfl (hl.at 3 rfl) ?_
      obtain ⟨v17, h17, hsh⟩ := Option.bind_eq_some_iff.mp hsh
      refine e_iald hx hb hp h17 dX6_keepJump_17 ?_
      refine lv_bipush (v := iI (100)) hx hb dX6_keepJump_18 (by decide +kernel) ?_
      obtain ⟨v20, h20, hsh⟩ := Option.bind_eq_some_iff.mp hsh
      refine e_idiv hx hb h20 dX6_keepJump_20 ?_
      refine lv_iload_n hx hb dX6_keepJump_21 rfl (hl.at 1 rfl) ?_
      refine lv_bipush (v := iI (100)) hx hb dX6_keepJump_22 (by decide +kernel) ?_
      obtain ⟨v24, h24, hsh⟩ := Option.bind_eq_some_iff.mp hsh
      refine e_idiv hx hb h24 dX6_keepJump_24 ?_
      refine e_icmp_eq (tgt := 43) hx hb dX6_keepJump_25 (by decide) (fun c25 => ?_) (fun c25 => ?_)
      · rw [if_pos c25] at hsh
        exact w6_keepJump_b43 (hk4 := hk4) E hp hS (hl.sub [0, 1, 2, 3] rfl) hsh
      · rw [if_neg c25] at hsh
        refine e_aload_n (B := B) (x := x0) hx hb dX6_keepJump_28 rfl (hl.at 0 rfl) ?_
        obtain ⟨v29, h29, hsh⟩ := Option.bind_eq_some_iff.mp hsh
        refine e_getR (k := 5) hx hb hts in_X6 hown hp h29 rfl (by decide) (by decide) rfl (hts _ kf6_28) rfl dX6_keepJump_29 ?_
        refine lv_iload_n hx hb dX6_keepJump_32 rfl (hl.at 2 rfl) ?_
        refine e_aload_n (B := B) (x := x0) hx hb dX6_keepJump_33 rfl (hl.at 0 rfl) ?_
        obtain ⟨v34, h34, hsh⟩ := Option.bind_eq_some_iff.mp hsh
        refine e_getR (k := 5) hx hb hts in_X6 hown hp h34 rfl (by decide) (by decide) rfl (hts _ kf6_28) rfl dX6_keepJump_34 ?_
        refine lv_iload_n hx hb dX6_keepJump_37 rfl (hl.at 3 rfl) ?_
        obtain ⟨v38, h38, hsh⟩ := Option.bind_eq_some_iff.mp hsh
        refine e_iald hx hb hp h38 dX6_keepJump_38 ?_
        obtain ⟨S39, h39, hsh⟩ := Option.bind_eq_some_iff.mp hsh
        refine e_iast hx hb hp hS h39 dX6_keepJump_39 (fun H locs hp hS => ?_)
        refine e_iinc (n := 1) (x := x2) (lv' := [(2, .int (iI ((x2 + 1)))), (0, e_rv B (x0)), (1, .int (iI (x1))), (3, .int (iI (x3)))]) hx hb dX6_keepJump_40 hl (k := 2) rfl (by decide) rfl (fun ls hl => ?_)
        exact w6_keepJump_b43 (hk4 := hk4) E hp hS (hl.sub [1, 2, 0, 3] rfl) hsh
set_option maxRecDepth 100000 in
set_option maxHeartbeats 4000000 in
theorem c6_keepJump (l : Launch) (D : va_G) (cA : Nat → ClassId) (B : Nat) (S S' : HP) (x0 : Int) (x1 : Int) (hsh : s6_keepJump S x0 x1 = some S') : Met l yX6_keepJump (e_wu yX6_keepJump cX6_keepJump 4 none) ({ frames := 1, cells := 0, slots := 0, locals := 60 } : Room) (va_Pc [e_rv B (x0), .int (iI (x1))] (fun U => e_PU D cA B S U)) (e_Qv D cA B S') 0 0 (e_A B) := by
  refine Met.ofW (cc := cX6_keepJump) (maxL := 4) (ret := none) (by decide +kernel) rfl ?_
  intro p e s m args below meth c s₁ Bd hml hv
  obtain ⟨rfl, hp⟩ := hv
  have hp : e_Pic D cA B S s s.heap := hp
  have hx := Bd.exec
  have hb := Bd.bytes
  have hrt := Bd.returns
  have hlk := Bd.notSynchronized
  have hown : s.vm.findClass RX6 = some m.cls := findClass_of_methodNamed Bd.named
  have hts : ∀ w ∈ e_tb, w.before ([e_rv B (x0), .int (iI (x1))] : List Value).toArray s = true := fun w h => atoms_spec (ws := (e_wu yX6_keepJump cX6_keepJump 4 none)) Bd.pre w (List.mem_cons_of_mem _ h)
  have E : e_En p s m ([e_rv B (x0), .int (iI (x1))] : List Value).toArray meth c cX6_keepJump RX6 4 none := ⟨hx, hb, hml, hown, hts, hlk, hrt⟩
  have hS : va_S (e_A B) s.heap s.heap [] := va_S.rf
  have hl := e_entry (vs := [e_rv B (x0), .int (iI (x1))]) (n := 4) (Nat.le_of_ble_eq_true rfl) (e_cc (e_rv_cat _ _) (e_cc rfl e_cn))
  rw [lg_entry_eq]
  generalize (lg_sl [e_rv B (x0), .int (iI (x1))] ++ List.replicate (4 - (lg_sl [e_rv B (x0), .int (iI (x1))]).length) Slot.unset).toArray = ls at hl ⊢
  generalize ([e_rv B (x0), .int (iI (x1))] : List Value).toArray = args at hts E ⊢
  have hl : e_lo ls 4 [(0, e_rv B (x0)), (1, .int (iI (x1)))] := hl
  have hsh := (gd_some hsh).2
  refine lv_iconst (v := iI (0)) hx hb dX6_keepJump_0 rfl ?_
  refine e_istore_n (lv' := [(2, .int (iI (0))), (0, e_rv B (x0)), (1, .int (iI (x1)))]) hx hb dX6_keepJump_1 rfl hl (by decide) rfl (fun ls hl => ?_)
  refine lv_iconst (v := iI (0)) hx hb dX6_keepJump_2 rfl ?_
  refine e_istore_n (lv' := [(3, .int (iI (0))), (2, .int (iI (0))), (0, e_rv B (x0)), (1, .int (iI (x1)))]) hx hb dX6_keepJump_3 rfl hl (by decide) rfl (fun ls hl => ?_)
  exact w6_keepJump_l4 E 1000000 hp hS (hl.sub [2, 3, 1, 0] rfl) hsh
theorem ok6_otherAt {S : HP} {x0 : Int} {x1 : Int} {r : Int × HP} (h : s6_otherAt S x0 x1 = some r) : 0 ≤ x0 ∧ x0.toNat < e_n S ∧ e_g S x0.toNat = 6 := (gd_some h).1
set_option maxRecDepth 100000 in
set_option maxHeartbeats 4000000 in
theorem w6_otherAt_b22 {p : Program} {l : Launch} {e : Env} {s : State} {m : MethodId} {args : Array Value} {below : List Frame} {meth : Method} {c : Code} {D : va_G} {cA : Nat → ClassId} {B : Nat} {res : Int × HP} (E : e_En p s m args meth c cX6_otherAt RX6 2 (some .int)) {ls : Array Slot} {H : Heap} {locs : List Loc} {S : HP} {y0 : Int} (hp : e_Pic D cA B S s H) (hS : va_S (e_A B) s.heap H locs) (hl : e_lo ls 2 []) (hsh : s6_otherAt_b22 S y0 = some res) : W p l e ({ frames := 0, cells := 0, slots := 0, locals := 0 } : Room) s m args below meth c H locs 0 0 (MQ below (e_Qi D cA B res.1 res.2) args s 0 0 (e_A B)) (F0 m 22 ls [.int (iI (y0))]) := by
  obtain ⟨hx, hb, hml, hown, hts, hlk, hrt⟩ := id E
  unfold s6_otherAt_b22 at hsh
  cases hsh
  exact e_iret hx hb hrt hlk hp hS dX6_otherAt_22
set_option maxRecDepth 100000 in
set_option maxHeartbeats 4000000 in
theorem w6_otherAt_b12 {p : Program} {l : Launch} {e : Env} {s : State} {m : MethodId} {args : Array Value} {below : List Frame} {meth : Method} {c : Code} {D : va_G} {cA : Nat → ClassId} {B : Nat} {res : Int × HP} (E : e_En p s m args meth c cX6_otherAt RX6 2 (some .int)) {ls : Array Slot} {H : Heap} {locs : List Loc} {S : HP} (hp : e_Pic D cA B S s H) (hS : va_S (e_A B) s.heap H locs) (hl : e_lo ls 2 []) (hsh : s6_otherAt_b12 S  = some res) : W p l e ({ frames := 0, cells := 0, slots := 0, locals := 0 } : Room) s m args below meth c H locs 0 0 (MQ below (e_Qi D cA B res.1 res.2) args s 0 0 (e_A B)) (F0 m 12 ls []) := by
  obtain ⟨hx, hb, hml, hown, hts, hlk, hrt⟩ := id E
  unfold s6_otherAt_b12 at hsh
  refine lv_iconst (v := iI (-1)) hx hb dX6_otherAt_12 rfl ?_
  refine lv_goto (tgt := 22) hx hb dX6_otherAt_13 (by decide) ?_
  exact w6_otherAt_b22 E hp hS (hl.sub [] rfl) hsh
set_option maxRecDepth 100000 in
set_option maxHeartbeats 4000000 in
theorem c6_otherAt (l : Launch) (D : va_G) (cA : Nat → ClassId) (B : Nat) (S S' : HP) (x0 : Int) (x1 : Int) (r : Int) (hsh : s6_otherAt S x0 x1 = some (r, S')) : Met l yX6_otherAt (e_wu yX6_otherAt cX6_otherAt 2 (some .int)) ({ frames := 0, cells := 0, slots := 0, locals := 0 } : Room) (va_Pc [e_rv B (x0), .int (iI (x1))] (fun U => e_PU D cA B S U)) (e_Qi D cA B r S') 0 0 (e_A B) := by
  refine Met.ofW (cc := cX6_otherAt) (maxL := 2) (ret := (some .int)) (by decide +kernel) rfl ?_
  intro p e s m args below meth c s₁ Bd hml hv
  obtain ⟨rfl, hp⟩ := hv
  have hp : e_Pic D cA B S s s.heap := hp
  have hx := Bd.exec
  have hb := Bd.bytes
  have hrt := Bd.returns
  have hlk := Bd.notSynchronized
  have hown : s.vm.findClass RX6 = some m.cls := findClass_of_methodNamed Bd.named
  have hts : ∀ w ∈ e_tb, w.before ([e_rv B (x0), .int (iI (x1))] : List Value).toArray s = true := fun w h => atoms_spec (ws := (e_wu yX6_otherAt cX6_otherAt 2 (some .int))) Bd.pre w (List.mem_cons_of_mem _ h)
  have E : e_En p s m ([e_rv B (x0), .int (iI (x1))] : List Value).toArray meth c cX6_otherAt RX6 2 (some .int) := ⟨hx, hb, hml, hown, hts, hlk, hrt⟩
  have hS : va_S (e_A B) s.heap s.heap [] := va_S.rf
  have hl := e_entry (vs := [e_rv B (x0), .int (iI (x1))]) (n := 2) (Nat.le_of_ble_eq_true rfl) (e_cc (e_rv_cat _ _) (e_cc rfl e_cn))
  rw [lg_entry_eq]
  generalize (lg_sl [e_rv B (x0), .int (iI (x1))] ++ List.replicate (2 - (lg_sl [e_rv B (x0), .int (iI (x1))]).length) Slot.unset).toArray = ls at hl ⊢
  generalize ([e_rv B (x0), .int (iI (x1))] : List Value).toArray = args at hts E ⊢
  have hl : e_lo ls 2 [(0, e_rv B (x0)), (1, .int (iI (x1)))] := hl
  have hsh := (gd_some hsh).2
  refine lv_iload_n hx hb dX6_otherAt_0 rfl (hl.at 1 rfl) ?_
  refine e_if_lt (tgt := 12) hx hb dX6_otherAt_1 (by decide) (fun c1 => ?_) (fun c1 => ?_)
  · rw [if_pos c1] at hsh
    exact w6_otherAt_b12 E hp hS (hl.sub [] rfl) hsh
  · rw [if_neg c1] at hsh
    refine lv_iload_n hx hb dX6_otherAt_4 rfl (hl.at 1 rfl) ?_
    refine e_aload_n (B := B) (x := x0) hx hb dX6_otherAt_5 rfl (hl.at 0 rfl) ?_
    obtain ⟨v6, h6, hsh⟩ := Option.bind_eq_some_iff.mp hsh
    refine e_getI (k := 9) hx hb hts in_X6 hown hp h6 rfl (by decide) (by decide) rfl (hts _ kf6_40) rfl dX6_otherAt_6 ?_
    refine e_icmp_lt (tgt := 16) hx hb dX6_otherAt_9 (by decide) (fun c9 => ?_) (fun c9 => ?_)
    · rw [if_pos c9] at hsh
      refine e_aload_n (B := B) (x := x0) hx hb dX6_otherAt_16 rfl (hl.at 0 rfl) ?_
      obtain ⟨v17, h17, hsh⟩ := Option.bind_eq_some_iff.mp hsh
      refine e_getR (k := 8) hx hb hts in_X6 hown hp h17 rfl (by decide) (by decide) rfl (hts _ kf6_37) rfl dX6_otherAt_17 ?_
      refine lv_iload_n hx hb dX6_otherAt_20 rfl (hl.at 1 rfl) ?_
      obtain ⟨v21, h21, hsh⟩ := Option.bind_eq_some_iff.mp hsh
      refine e_iald hx hb hp h21 dX6_otherAt_21 ?_
      exact w6_otherAt_b22 E hp hS (hl.sub [] rfl) hsh
    · rw [if_neg c9] at hsh
      exact w6_otherAt_b12 E hp hS (hl.sub [] rfl) hsh
theorem ok6_addOther {S : HP} {x0 : Int} {x1 : Int} {r : HP} (h : s6_addOther S x0 x1 = some r) : 0 ≤ x0 ∧ x0.toNat < e_n S ∧ e_g S x0.toNat = 6 := (gd_some h).1
set_option maxRecDepth 100000 in
set_option maxHeartbeats 4000000 in
theorem w6_addOther_b29 {p : Program} {l : Launch} {e : Env} {s : State} {m : MethodId} {args : Array Value} {below : List Frame} {meth : Method} {c : Code} {D : va_G} {cA : Nat → ClassId} {B : Nat} {res : HP} (E : e_En p s m args meth c cX6_addOther RX6 2 none) {ls : Array Slot} {H : Heap} {locs : List Loc} {S : HP} (hp : e_Pic D cA B S s H) (hS : va_S (e_A B) s.heap H locs) (hl : e_lo ls 2 []) (hsh : s6_addOther_b29 S  = some res) : W p l e ({ frames := 0, cells := 0, slots := 0, locals := 0 } : Room) s m args below meth c H locs 0 0 (MQ below (e_Qv D cA B res) args s 0 0 (e_A B)) (F0 m 29 ls []) := by
  obtain ⟨hx, hb, hml, hown, hts, hlk, hrt⟩ := id E
  unfold s6_addOther_b29 at hsh
  cases hsh
  exact e_vret hx hb hrt hlk hp hS dX6_addOther_29
set_option maxRecDepth 100000 in
set_option maxHeartbeats 4000000 in
theorem c6_addOther (l : Launch) (D : va_G) (cA : Nat → ClassId) (B : Nat) (S S' : HP) (x0 : Int) (x1 : Int) (hsh : s6_addOther S x0 x1 = some S') : Met l yX6_addOther (e_wu yX6_addOther cX6_addOther 2 none) ({ frames := 0, cells := 0, slots := 0, locals := 0 } : Room) (va_Pc [e_rv B (x0), .int (iI (x1))] (fun U => e_PU D cA B S U)) (e_Qv D cA B S') 0 0 (e_A B) := by
  refine Met.ofW (cc := cX6_addOther) (maxL := 2) (ret := none) (by decide +kernel) rfl ?_
  intro p e s m args below meth c s₁ Bd hml hv
  obtain ⟨rfl, hp⟩ := hv
  have hp : e_Pic D cA B S s s.heap := hp
  have hx := Bd.exec
  have hb := Bd.bytes
  have hrt := Bd.returns
  have hlk := Bd.notSynchronized
  have hown : s.vm.findClass RX6 = some m.cls := findClass_of_methodNamed Bd.named
  have hts : ∀ w ∈ e_tb, w.before ([e_rv B (x0), .int (iI (x1))] : List Value).toArray s = true := fun w h => atoms_spec (ws := (e_wu yX6_addOther cX6_addOther 2 none)) Bd.pre w (List.mem_cons_of_mem _ h)
  have E : e_En p s m ([e_rv B (x0), .int (iI (x1))] : List Value).toArray meth c cX6_addOther RX6 2 none := ⟨hx, hb, hml, hown, hts, hlk, hrt⟩
  have hS : va_S (e_A B) s.heap s.heap [] := va_S.rf
  have hl := e_entry (vs := [e_rv B (x0), .int (iI (x1))]) (n := 2) (Nat.le_of_ble_eq_true rfl) (e_cc (e_rv_cat _ _) (e_cc rfl e_cn))
  rw [lg_entry_eq]
  generalize (lg_sl [e_rv B (x0), .int (iI (x1))] ++ List.replicate (2 - (lg_sl [e_rv B (x0), .int (iI (x1))]).length) Slot.unset).toArray = ls at hl ⊢
  generalize ([e_rv B (x0), .int (iI (x1))] : List Value).toArray = args at hts E ⊢
  have hl : e_lo ls 2 [(0, e_rv B (x0)), (1, .int (iI (x1)))] := hl
  have hsh := (gd_some hsh).2
  refine e_aload_n (B := B) (x := x0) hx hb dX6_addOther_0 rfl (hl.at 0 rfl) ?_
  obtain ⟨v1, h1, hsh⟩ := Option.bind_eq_some_iff.mp hsh
  refine e_getI (k := 9) hx hb hts in_X6 hown hp h1 rfl (by decide) (by decide) rfl (hts _ kf6_40) rfl dX6_addOther_1 ?_
  refine lv_bipush (v := iI (9)) hx hb dX6_addOther_4 (by decide +kernel) ?_
  refine e_icmp_ge (tgt := 29) hx hb dX6_addOther_6 (by decide) (fun c6 => ?_) (fun c6 => ?_)
  · rw [if_pos c6] at hsh
    exact w6_addOther_b29 E hp hS (hl.sub [] rfl) hsh
  · rw [if_neg c6] at hsh
    refine e_aload_n (B := B) (x := x0) hx hb dX6_addOther_9 rfl (hl.at 0 rfl) ?_
    obtain ⟨v10, h10, hsh⟩ := Option.bind_eq_some_iff.mp hsh
    refine e_getR (k := 8) hx hb hts in_X6 hown hp h10 rfl (by decide) (by decide) rfl (hts _ kf6_37) rfl dX6_addOther_10 ?_
    refine e_aload_n (B := B) (x := x0) hx hb dX6_addOther_13 rfl (hl.at 0 rfl) ?_
    obtain ⟨v14, h14, hsh⟩ := Option.bind_eq_some_iff.mp hsh
    refine e_getI (k := 9) hx hb hts in_X6 hown hp h14 rfl (by decide) (by decide) rfl (hts _ kf6_40) rfl dX6_addOther_14 ?_
    refine lv_iload_n hx hb dX6_addOther_17 rfl (hl.at 1 rfl) ?_
    obtain ⟨S18, h18, hsh⟩ := Option.bind_eq_some_iff.mp hsh
    refine e_iast hx hb hp hS h18 dX6_addOther_18 (fun H locs hp hS => ?_)
    refine e_aload_n (B := B) (x := x0) hx hb dX6_addOther_19 rfl (hl.at 0 rfl) ?_
    refine lv_dup hx hb dX6_addOther_20 (e_rv_cat _ _) ?_
    obtain ⟨v21, h21, hsh⟩ := Option.bind_eq_some_iff.mp hsh
    refine e_getI (k := 9) hx hb hts in_X6 hown hp h21 rfl (by decide) (by decide) rfl (hts _ kf6_40) rfl dX6_addOther_21 ?_
    refine lv_iconst (v := iI (1)) hx hb dX6_addOther_24 rfl ?_
    refine e_iadd hx hb dX6_addOther_25 ?_
    obtain ⟨S26, h26, hsh⟩ := Option.bind_eq_some_iff.mp hsh
    refine e_putI (k := 9) hx hb hts in_X6 tyX6 tyX6_ok nmX6 hown hp hS h26 rfl (by decide) (by decide) rfl (hts _ kf6_40) rfl rfl (by decide +kernel) dX6_addOther_26 (fun H locs hp hS => ?_)
    exact w6_addOther_b29 E hp hS (hl.sub [] rfl) hsh
theorem ok6_orderOthers {S : HP} {x0 : Int} {x1 : Int} {r : HP} (h : s6_orderOthers S x0 x1 = some r) : 0 ≤ x0 ∧ x0.toNat < e_n S ∧ e_g S x0.toNat = 6 := (gd_some h).1
set_option maxRecDepth 100000 in
set_option maxHeartbeats 4000000 in
theorem w6_orderOthers_b114 {p : Program} {l : Launch} {e : Env} {s : State} {m : MethodId} {args : Array Value} {below : List Frame} {meth : Method} {c : Code} {D : va_G} {cA : Nat → ClassId} {B : Nat} {res : HP} {k4 : HP → Int → Int → Int → Int → Option (HP)} (hk4 : ∀ {ls : Array Slot} {H : Heap} {locs : List Loc} {S : HP} {x0 : Int} {x1 : Int} {x2 : Int} {x3 : Int} (hp : e_Pic D cA B S s H) (hS : va_S (e_A B) s.heap H locs) (hl : e_lo ls 6 [(0, e_rv B (x0)), (1, .int (iI (x1))), (2, .int (iI (x2))), (3, .int (iI (x3)))]) (hsh : k4 S x0 x1 x2 x3 = some res), W p l e ({ frames := 1, cells := 0, slots := 0, locals := 60 } : Room) s m args below meth c H locs 0 0 (MQ below (e_Qv D cA B res) args s 0 0 (e_A B)) (F0 m 4 ls [])) (E : e_En p s m args meth c cX6_orderOthers RX6 6 none) {ls : Array Slot} {H : Heap} {locs : List Loc} {S : HP} {x0 : Int} {x1 : Int} {x2 : Int} {x3 : Int} (hp : e_Pic D cA B S s H) (hS : va_S (e_A B) s.heap H locs) (hl : e_lo ls 6 [(0, e_rv B (x0)), (1, .int (iI (x1))), (2, .int (iI (x2))), (3, .int (iI (x3)))]) (hsh : s6_orderOthers_b114 k4 S x0 x1 x2 x3 = some res) : W p l e ({ frames := 1, cells := 0, slots := 0, locals := 60 } : Room) s m args below meth c H locs 0 0 (MQ below (e_Qv D cA B res) args s 0 0 (e_A B)) (F0 m 114 ls []) := by
  obtain ⟨hx, hb, hml, hown, hts, hlk, hrt⟩ := id E
  unfold s6_orderOthers_b114 at hsh
  refine e_iinc (n := 1) (x := x3) (lv' := [(3, .int (iI ((x3 + 1)))), (0, e_rv B (x0)), (1, .int (iI (x1))), (2, .int (iI (x2)))]) hx hb dX6_orderOthers_114 hl (k := 3) rfl (by decide) rfl (fun ls hl => ?_)
  refine lv_goto (tgt := 4) hx hb dX6_orderOthers_117 (by decide) ?_
  exact hk4 hp hS (hl.sub [1, 2, 3, 0] rfl) hsh
set_option maxRecDepth 100000 in
set_option maxHeartbeats 4000000 in
theorem w6_orderOthers_b81 {p : Program} {l : Launch} {e : Env} {s : State} {m : MethodId} {args : Array Value} {below : List Frame} {meth : Method} {c : Code} {D : va_G} {cA : Nat → ClassId} {B : Nat} {res : HP} {k4 : HP → Int → Int → Int → Int → Option (HP)} (hk4 : ∀ {ls : Array Slot} {H : Heap} {locs : List Loc} {S : HP} {x0 : Int} {x1 : Int} {x2 : Int} {x3 : Int} (hp : e_Pic D cA B S s H) (hS : va_S (e_A B) s.heap H locs) (hl : e_lo ls 6 [(0, e_rv B (x0)), (1, .int (iI (x1))), (2, .int (iI (x2))), (3, .int (iI (x3)))]) (hsh : k4 S x0 x1 x2 x3 = some res), W p l e ({ frames := 1, cells := 0, slots := 0, locals := 60 } : Room) s m args below meth c H locs 0 0 (MQ below (e_Qv D cA B res) args s 0 0 (e_A B)) (F0 m 4 ls [])) (E : e_En p s m args meth c cX6_orderOthers RX6 6 none) {ls : Array Slot} {H : Heap} {locs : List Loc} {S : HP} {x0 : Int} {x1 : Int} {x2 : Int} {x3 : Int} {x4 : Int} {x5 : Int} (hp : e_Pic D cA B S s H) (hS : va_S (e_A B) s.heap H locs) (hl : e_lo ls 6 [(0, e_rv B (x0)), (1, .int (iI (x1))), (2, .int (iI (x2))), (3, .int (iI (x3))), (4, .int (iI (x4))), (5, .int (iI (x5)))]) (hsh : s6_orderOthers_b81 k4 S x0 x1 x2 x3 x4 x5 = some res) : W p l e ({ frames := 1, cells := 0, slots := 0, locals := 60 } : Room) s m args below meth c H locs 0 0 (MQ below (e_Qv D cA B res) args s 0 0 (e_A B)) (F0 m 81 ls []) := by
  obtain ⟨hx, hb, hml, hown, hts, hlk, hrt⟩ := id E
  unfold s6_orderOthers_b81 at hsh
  refine e_aload_n (B := B) (x := x0) hx hb dX6_orderOthers_81 rfl (hl.at 0 rfl) ?_
  obtain ⟨v82, h82, hsh⟩ := Option.bind_eq_some_iff.mp hsh
  refine e_getR (k := 8) hx hb hts in_X6 hown hp h82 rfl (by decide) (by decide) rfl (hts _ kf6_37) rfl dX6_orderOthers_82 ?_
  refine lv_iload hx hb dX6_orderOthers_85 (hl.at 5 rfl) ?_
  refine e_aload_n (B := B) (x := x0) hx hb dX6_orderOthers_87 rfl (hl.at 0 rfl) ?_
  obtain ⟨v88, h88, hsh⟩ := Option.bind_eq_some_iff.mp hsh
  refine e_getR (k := 8) hx hb hts in_X6 hown hp h88 rfl (by decide) (by decide) rfl (hts _ kf6_37) rfl dX6_orderOthers_88 ?_
  refine lv_iload hx hb dX6_orderOthers_91 (hl.at 5 rfl) ?_
  refine lv_iconst (v := iI (1)) hx hb dX6_orderOthers_93 rfl ?_
  refine e_iadd hx hb dX6_orderOthers_94 ?_
  refine lv_iload_n hx hb dX6_orderOthers_95 rfl (hl.at 2 rfl) ?_
  refine lv_iload hx hb dX6_orderOthers_96 (hl.at 5 rfl) ?_
  refine e_isub hx hb dX6_orderOthers_98 ?_
  obtain ⟨S99, h99, hsh⟩ := Option.bind_eq_some_iff.mp hsh
  refine e_copy (t := 101) (t0 := 1) (rest := []) hx hb (hml.trans hl.size.symm) hown hts kl6_92 kM_acn kM_acs kM_aci hp hS h99 (by decide) (by decide) (by decide) rfl rfl (by have h9 := hS.1; rw [hp.2.2.1] at h9; omega) (Nat.le_of_ble_eq_true rfl) (Nat.le_trans (Nat.add_le_add_right (show _ ≤ 8 by simp [e_rv_cat, e_int_cat]) _) (by decide +kernel)) dX6_orderOthers_99 (fun H locs hp hS => ?_)
  refine e_aload_n (B := B) (x := x0) hx hb dX6_orderOthers_102 rfl (hl.at 0 rfl) ?_
  obtain ⟨v103, h103, hsh⟩ := Option.bind_eq_some_iff.mp hsh
  refine e_getR (k := 8) hx hb hts in_X6 hown hp h103 rfl (by decide) (by decide) rfl (hts _ kf6_37) rfl dX6_orderOthers_103 ?_
  refine lv_iload hx hb dX6_orderOthers_106 (hl.at 5 rfl) ?_
  refine lv_iload hx hb dX6_orderOthers_108 (hl.at 4 rfl) ?_
  obtain ⟨S110, h110, hsh⟩ := Option.bind_eq_some_iff.mp hsh
  refine e_iast hx hb hp hS h110 dX6_orderOthers_110 (fun H locs hp hS => ?_)
  refine e_iinc (n := 1) (x := x2) (lv' := [(2, .int (iI ((x2 + 1)))), (0, e_rv B (x0)), (1, .int (iI (x1))), (3, .int (iI (x3))), (4, .int (iI (x4))), (5, .int (iI (x5)))]) hx hb dX6_orderOthers_111 hl (k := 2) rfl (by decide) rfl (fun ls hl => ?_)
  exact w6_orderOthers_b114 (hk4 := hk4) E hp hS (hl.sub [1, 2, 0, 3] rfl) hsh
set_option maxRecDepth 100000 in
set_option maxHeartbeats 4000000 in
theorem w6_orderOthers_b48 {p : Program} {l : Launch} {e : Env} {s : State} {m : MethodId} {args : Array Value} {below : List Frame} {meth : Method} {c : Code} {D : va_G} {cA : Nat → ClassId} {B : Nat} {res : HP} {k4 : HP → Int → Int → Int → Int → Option (HP)} (hk4 : ∀ {ls : Array Slot} {H : Heap} {locs : List Loc} {S : HP} {x0 : Int} {x1 : Int} {x2 : Int} {x3 : Int} (hp : e_Pic D cA B S s H) (hS : va_S (e_A B) s.heap H locs) (hl : e_lo ls 6 [(0, e_rv B (x0)), (1, .int (iI (x1))), (2, .int (iI (x2))), (3, .int (iI (x3)))]) (hsh : k4 S x0 x1 x2 x3 = some res), W p l e ({ frames := 1, cells := 0, slots := 0, locals := 60 } : Room) s m args below meth c H locs 0 0 (MQ below (e_Qv D cA B res) args s 0 0 (e_A B)) (F0 m 4 ls [])) (E : e_En p s m args meth c cX6_orderOthers RX6 6 none) {ls : Array Slot} {H : Heap} {locs : List Loc} {S : HP} {x0 : Int} {x1 : Int} {x2 : Int} {x3 : Int} {x4 : Int} {x5 : Int} (hp : e_Pic D cA B S s H) (hS : va_S (e_A B) s.heap H locs) (hl : e_lo ls 6 [(0, e_rv B (x0)), (1, .int (iI (x1))), (2, .int (iI (x2))), (3, .int (iI (x3))), (4, .int (iI (x4))), (5, .int (iI (x5)))]) (hsh : s6_orderOthers_b48 k4 S x0 x1 x2 x3 x4 x5 = some res) : W p l e ({ frames := 1, cells := 0, slots := 0, locals := 60 } : Room) s m args below meth c H locs 0 0 (MQ below (e_Qv D cA B res) args s 0 0 (e_A B)) (F0 m 48 ls []) := by
  obtain ⟨hx, hb, hml, hown, hts, hlk, hrt⟩ := id E
  unfold s6_orderOthers_b48 at hsh
  refine lv_iload hx hb dX6_orderOthers_48 (hl.at 4 rfl) ?_
  refine lv_iconst (v := iI (-1)) hx hb dX6_orderOthers_50 rfl ?_
  refine e_icmp_eq (tgt := 114) hx hb dX6_orderOthers_51 (by decide) (fun c51 => ?_) (fun c51 => ?_)
  · rw [if_pos c51] at hsh
    exact w6_orderOthers_b114 (hk4 := hk4) E hp hS (hl.sub [0, 1, 2, 3] rfl) hsh
  · rw [if_neg c51] at hsh
    refine lv_iload hx hb dX6_orderOthers_54 (hl.at 4 rfl) ?_
    refine lv_iload_n hx hb dX6_orderOthers_56 rfl (hl.at 1 rfl) ?_
    refine e_icmp_eq (tgt := 114) hx hb dX6_orderOthers_57 (by decide) (fun c57 => ?_) (fun c57 => ?_)
    · rw [if_pos c57] at hsh
      exact w6_orderOthers_b114 (hk4 := hk4) E hp hS (hl.sub [0, 1, 2, 3] rfl) hsh
    · rw [if_neg c57] at hsh
      refine lv_iload hx hb dX6_orderOthers_60 (hl.at 5 rfl) ?_
      refine lv_iload_n hx hb dX6_orderOthers_62 rfl (hl.at 2 rfl) ?_
      refine e_icmp_ge (tgt := 81) hx hb dX6_orderOthers_63 (by decide) (fun c63 => ?_) (fun c63 => ?_)
      · rw [if_pos c63] at hsh
        exact w6_orderOthers_b81 (hk4 := hk4) E hp hS (hl.sub [0, 1, 2, 3, 4, 5] rfl) hsh
      · rw [if_neg c63] at hsh
        refine e_aload_n (B := B) (x := x0) hx hb dX6_orderOthers_66 rfl (hl.at 0 rfl) ?_
        obtain ⟨v67, h67, hsh⟩ := Option.bind_eq_some_iff.mp hsh
        refine e_getR (k := 8) hx hb hts in_X6 hown hp h67 rfl (by decide) (by decide) rfl (hts _ kf6_37) rfl dX6_orderOthers_67 ?_
        refine lv_iload hx hb dX6_orderOthers_70 (hl.at 5 rfl) ?_
        obtain ⟨v72, h72, hsh⟩ := Option.bind_eq_some_iff.mp hsh
        refine e_iald hx hb hp h72 dX6_orderOthers_72 ?_
        refine lv_iload hx hb dX6_orderOthers_73 (hl.at 4 rfl) ?_
        refine e_icmp_ne (tgt := 81) hx hb dX6_orderOthers_75 (by decide) (fun c75 => ?_) (fun c75 => ?_)
        · rw [if_neg c75] at hsh
          exact w6_orderOthers_b81 (hk4 := hk4) E hp hS (hl.sub [0, 1, 2, 3, 4, 5] rfl) hsh
        · rw [if_pos c75] at hsh
          refine lv_goto (tgt := 114) hx hb dX6_orderOthers_78 (by decide) ?_
          exact w6_orderOthers_b114 (hk4 := hk4) E hp hS (hl.sub [0, 1, 2, 3] rfl) hsh
set_option maxRecDepth 100000 in
set_option maxHeartbeats 4000000 in
theorem w6_orderOthers_l23 {p : Program} {l : Launch} {e : Env} {s : State} {m : MethodId} {args : Array Value} {below : List Frame} {meth : Method} {c : Code} {D : va_G} {cA : Nat → ClassId} {B : Nat} {res : HP} {k4 : HP → Int → Int → Int → Int → Option (HP)} (hk4 : ∀ {ls : Array Slot} {H : Heap} {locs : List Loc} {S : HP} {x0 : Int} {x1 : Int} {x2 : Int} {x3 : Int} (hp : e_Pic D cA B S s H) (hS : va_S (e_A B) s.heap H locs) (hl : e_lo ls 6 [(0, e_rv B (x0)), (1, .int (iI (x1))), (2, .int (iI (x2))), (3, .int (iI (x3)))]) (hsh : k4 S x0 x1 x2 x3 = some res), W p l e ({ frames := 1, cells := 0, slots := 0, locals := 60 } : Room) s m args below meth c H locs 0 0 (MQ below (e_Qv D cA B res) args s 0 0 (e_A B)) (F0 m 4 ls [])) (E : e_En p s m args meth c cX6_orderOthers RX6 6 none) : ∀ (f : Nat) {ls : Array Slot} {H : Heap} {locs : List Loc} {S : HP} {x0 : Int} {x1 : Int} {x2 : Int} {x3 : Int} {x4 : Int} {x5 : Int} (hp : e_Pic D cA B S s H) (hS : va_S (e_A B) s.heap H locs) (hl : e_lo ls 6 [(0, e_rv B (x0)), (1, .int (iI (x1))), (2, .int (iI (x2))), (3, .int (iI (x3))), (4, .int (iI (x4))), (5, .int (iI (x5)))]) (hsh : s6_orderOthers_l23 k4 f S x0 x1 x2 x3 x4 x5 = some res), W p l e ({ frames := 1, cells := 0, slots := 0, locals := 60 } : Room) s m args below meth c H locs 0 0 (MQ below (e_Qv D cA B res) args s 0 0 (e_A B)) (F0 m 23 ls []) := by
  obtain ⟨hx, hb, hml, hown, hts, hlk, hrt⟩ := id E
  intro f
  induction f with
  | zero => intro ls H locs S x0 x1 x2 x3 x4 x5 hp hS hl hsh; cases hsh
  | succ f ih =>
    intro ls H locs S x0 x1 x2 x3 x4 x5 hp hS hl hsh
    have hk23 : ∀ {ls : Array Slot} {H : Heap} {locs : List Loc} {S : HP} {x0 : Int} {x1 : Int} {x2 : Int} {x3 : Int} {x4 : Int} {x5 : Int} (hp : e_Pic D cA B S s H) (hS : va_S (e_A B) s.heap H locs) (hl : e_lo ls 6 [(0, e_rv B (x0)), (1, .int (iI (x1))), (2, .int (iI (x2))), (3, .int (iI (x3))), (4, .int (iI (x4))), (5, .int (iI (x5)))]) (hsh : (s6_orderOthers_l23 k4 f) S x0 x1 x2 x3 x4 x5 = some res), W p l e ({ frames := 1, cells := 0, slots := 0, locals := 60 } : Room) s m args below meth c H locs 0 0 (MQ below (e_Qv D cA B res) args s 0 0 (e_A B)) (F0 m 23 ls []) := ih
    generalize hkk : s6_orderOthers_l23 k4 f = k23 at hk23
    rw [s6_orderOthers_l23] at hsh
    rw [hkk] at hsh
    try dsimp only at hsh
    refine lv_iload hx hb dX6_orderOthers_23 (hl.at 5 rfl) ?_
    refine e_if_le (tgt := 48) hx hb dX6_orderOthers_25 (by decide) (fun c25 => ?_) (fun c25 => ?_)
    · rw [if_pos c25] at hsh
      exact w6_orderOthers_b48 (hk4 := hk4) E hp hS (hl.sub [0, 1, 2, 3, 4, 5] rfl) hsh
    · rw [if_neg c25] at hsh
      refine e_aload_n (B := B) (x := x0) hx hb dX6_orderOthers_28 rfl (hl.at 0 rfl) ?_
      obtain ⟨v29, h29, hsh⟩ := Option.bind_eq_some_iff.mp hsh
      refine e_getR (k := 8) hx hb hts in_X6 hown hp h29 rfl (by decide) (by decide) rfl (hts _ kf6_37) rfl dX6_orderOthers_29 ?_
      refine lv_iload hx hb dX6_orderOthers_32 (hl.at 5 rfl) ?_
      refine lv_iconst (v := iI (1)) hx hb dX6_orderOthers_34 rfl ?_
      refine e_isub hx hb dX6_orderOthers_35 ?_
      obtain ⟨v36, h36, hsh⟩ := Option.bind_eq_some_iff.mp hsh
      refine e_iald hx hb hp h36 dX6_orderOthers_36 ?_
      refine lv_iload hx hb dX6_orderOthers_37 (hl.at 4 rfl) ?_
      refine e_icmp_lt (tgt := 48) hx hb dX6_orderOthers_39 (by decide) (fun c39 => ?_) (fun c39 => ?_)
      · rw [if_pos c39] at hsh
        exact w6_orderOthers_b48 (hk4 := hk4) E hp hS (hl.sub [0, 1, 2, 3, 4, 5] rfl) hsh
      · rw [if_neg c39] at hsh
        refine e_iinc (n := (-1)) (x := x5) (lv' := [(5, .int (iI ((x5 + (-1))))), (0, e_rv B (x0)), (1, .int (iI (x1))), (2, .int (iI (x2))), (3, .int (iI (x3))), (4, .int (iI (x4)))]) hx hb dX6_orderOthers_42 hl (k := 5) rfl (by decide) rfl (fun ls hl => ?_)
        refine lv_goto (tgt := 23) hx hb dX6_orderOthers_45 (by decide) ?_
        exact hk23 hp hS (hl.sub [1, 2, 3, 4, 5, 0] rfl) hsh
set_option maxRecDepth 100000 in
set_option maxHeartbeats 4000000 in
theorem w6_orderOthers_l4 {p : Program} {l : Launch} {e : Env} {s : State} {m : MethodId} {args : Array Value} {below : List Frame} {meth : Method} {c : Code} {D : va_G} {cA : Nat → ClassId} {B : Nat} {res : HP} (E : e_En p s m args meth c cX6_orderOthers RX6 6 none) : ∀ (f : Nat) {ls : Array Slot} {H : Heap} {locs : List Loc} {S : HP} {x0 : Int} {x1 : Int} {x2 : Int} {x3 : Int} (hp : e_Pic D cA B S s H) (hS : va_S (e_A B) s.heap H locs) (hl : e_lo ls 6 [(0, e_rv B (x0)), (1, .int (iI (x1))), (2, .int (iI (x2))), (3, .int (iI (x3)))]) (hsh : s6_orderOthers_l4 f S x0 x1 x2 x3 = some res), W p l e ({ frames := 1, cells := 0, slots := 0, locals := 60 } : Room) s m args below meth c H locs 0 0 (MQ below (e_Qv D cA B res) args s 0 0 (e_A B)) (F0 m 4 ls []) := by
  obtain ⟨hx, hb, hml, hown, hts, hlk, hrt⟩ := id E
  intro f
  induction f with
  | zero => intro ls H locs S x0 x1 x2 x3 hp hS hl hsh; cases hsh
  | succ f ih =>
    intro ls H locs S x0 x1 x2 x3 hp hS hl hsh
    have hk4 : ∀ {ls : Array Slot} {H : Heap} {locs : List Loc} {S : HP} {x0 : Int} {x1 : Int} {x2 : Int} {x3 : Int} (hp : e_Pic D cA B S s H) (hS : va_S (e_A B) s.heap H locs) (hl : e_lo ls 6 [(0, e_rv B (x0)), (1, .int (iI (x1))), (2, .int (iI (x2))), (3, .int (iI (x3)))]) (hsh : (s6_orderOthers_l4 f) S x0 x1 x2 x3 = some res), W p l e ({ frames := 1, cells := 0, slots := 0, locals := 60 } : Room) s m args below meth c H locs 0 0 (MQ below (e_Qv D cA B res) args s 0 0 (e_A B)) (F0 m 4 ls []) := ih
    generalize hkk : s6_orderOthers_l4 f = k4 at hk4
    rw [s6_orderOthers_l4] at hsh
    rw [hkk] at hsh
    try dsimp only at hsh
    refine lv_iload_n hx hb dX6_orderOthers_4 rfl (hl.at 3 rfl) ?_
    refine e_aload_n (B := B) (x := x0) hx hb dX6_orderOthers_5 rfl (hl.at 0 rfl) ?_
    obtain ⟨v6, h6, hsh⟩ := Option.bind_eq_some_iff.mp hsh
    refine e_getI (k := 9) hx hb hts in_X6 hown hp h6 rfl (by decide) (by decide) rfl (hts _ kf6_40) rfl dX6_orderOthers_6 ?_
    refine e_icmp_ge (tgt := 120) hx hb dX6_orderOthers_9 (by decide) (fun c9 => ?_) (fun c9 => ?_)
    · rw [if_pos c9] at hsh
      refine e_aload_n (B := B) (x := x0) hx hb dX6_orderOthers_120 rfl (hl.at 0 rfl) ?_
      refine lv_iload_n hx hb dX6_orderOthers_121 rfl (hl.at 2 rfl) ?_
      obtain ⟨S122, h122, hsh⟩ := Option.bind_eq_some_iff.mp hsh
      refine e_putI (k := 9) hx hb hts in_X6 tyX6 tyX6_ok nmX6 hown hp hS h122 rfl (by decide) (by decide) rfl (hts _ kf6_40) rfl rfl (by decide +kernel) dX6_orderOthers_122 (fun H locs hp hS => ?_)
      cases hsh
      exact e_vret hx hb hrt hlk hp hS dX6_orderOthers_125
    · rw [if_neg c9] at hsh
      refine e_aload_n (B := B) (x := x0) hx hb dX6_orderOthers_12 rfl (hl.at 0 rfl) ?_
      obtain ⟨v13, h13, hsh⟩ := Option.bind_eq_some_iff.mp hsh
      refine e_getR (k := 8) hx hb hts in_X6 hown hp h13 rfl (by decide) (by decide) rfl (hts _ kf6_37) rfl dX6_orderOthers_13 ?_
      refine lv_iload_n hx hb dX6_orderOthers_16 rfl (hl.at 3 rfl) ?_
      obtain ⟨v17, h17, hsh⟩ := Option.bind_eq_some_iff.mp hsh
      refine e_iald hx hb hp h17 dX6_orderOthers_17 ?_
      refine e_istore (lv' := [(4, .int (iI (v17))), (0, e_rv B (x0)), (1, .int (iI (x1))), (2, .int (iI (x2))), (3, .int (iI (x3)))]) hx hb dX6_orderOthers_18 hl (by decide) rfl (fun ls hl => ?_)
      refine lv_iload_n hx hb dX6_orderOthers_20 rfl (hl.at 3 rfl) ?_
      refine e_istore (lv' := [(5, .int (iI (x2))), (4, .int (iI (v17))), (0, e_rv B (x0)), (1, .int (iI (x1))), (2, .int (iI (x2))), (3, .int (iI (x3)))]) hx hb dX6_orderOthers_21 hl (by decide) rfl (fun ls hl => ?_)
      exact w6_orderOthers_l23 (hk4 := hk4) E 1000000 hp hS (hl.sub [2, 3, 4, 5, 1, 0] rfl) hsh
set_option maxRecDepth 100000 in
set_option maxHeartbeats 4000000 in
theorem c6_orderOthers (l : Launch) (D : va_G) (cA : Nat → ClassId) (B : Nat) (S S' : HP) (x0 : Int) (x1 : Int) (hsh : s6_orderOthers S x0 x1 = some S') : Met l yX6_orderOthers (e_wu yX6_orderOthers cX6_orderOthers 6 none) ({ frames := 1, cells := 0, slots := 0, locals := 60 } : Room) (va_Pc [e_rv B (x0), .int (iI (x1))] (fun U => e_PU D cA B S U)) (e_Qv D cA B S') 0 0 (e_A B) := by
  refine Met.ofW (cc := cX6_orderOthers) (maxL := 6) (ret := none) (by decide +kernel) rfl ?_
  intro p e s m args below meth c s₁ Bd hml hv
  obtain ⟨rfl, hp⟩ := hv
  have hp : e_Pic D cA B S s s.heap := hp
  have hx := Bd.exec
  have hb := Bd.bytes
  have hrt := Bd.returns
  have hlk := Bd.notSynchronized
  have hown : s.vm.findClass RX6 = some m.cls := findClass_of_methodNamed Bd.named
  have hts : ∀ w ∈ e_tb, w.before ([e_rv B (x0), .int (iI (x1))] : List Value).toArray s = true := fun w h => atoms_spec (ws := (e_wu yX6_orderOthers cX6_orderOthers 6 none)) Bd.pre w (List.mem_cons_of_mem _ h)
  have E : e_En p s m ([e_rv B (x0), .int (iI (x1))] : List Value).toArray meth c cX6_orderOthers RX6 6 none := ⟨hx, hb, hml, hown, hts, hlk, hrt⟩
  have hS : va_S (e_A B) s.heap s.heap [] := va_S.rf
  have hl := e_entry (vs := [e_rv B (x0), .int (iI (x1))]) (n := 6) (Nat.le_of_ble_eq_true rfl) (e_cc (e_rv_cat _ _) (e_cc rfl e_cn))
  rw [lg_entry_eq]
  generalize (lg_sl [e_rv B (x0), .int (iI (x1))] ++ List.replicate (6 - (lg_sl [e_rv B (x0), .int (iI (x1))]).length) Slot.unset).toArray = ls at hl ⊢
  generalize ([e_rv B (x0), .int (iI (x1))] : List Value).toArray = args at hts E ⊢
  have hl : e_lo ls 6 [(0, e_rv B (x0)), (1, .int (iI (x1)))] := hl
  have hsh := (gd_some hsh).2
  refine lv_iconst (v := iI (0)) hx hb dX6_orderOthers_0 rfl ?_
  refine e_istore_n (lv' := [(2, .int (iI (0))), (0, e_rv B (x0)), (1, .int (iI (x1)))]) hx hb dX6_orderOthers_1 rfl hl (by decide) rfl (fun ls hl => ?_)
  refine lv_iconst (v := iI (0)) hx hb dX6_orderOthers_2 rfl ?_
  refine e_istore_n (lv' := [(3, .int (iI (0))), (2, .int (iI (0))), (0, e_rv B (x0)), (1, .int (iI (x1)))]) hx hb dX6_orderOthers_3 rfl hl (by decide) rfl (fun ls hl => ?_)
  exact w6_orderOthers_l4 E 1000000 hp hS (hl.sub [2, 3, 1, 0] rfl) hsh
theorem ok6_closedOver {S : HP} {x0 : Int} {x1 : Int} {r : Int × HP} (h : s6_closedOver S x0 x1 = some r) : 0 ≤ x0 ∧ x0.toNat < e_n S ∧ e_g S x0.toNat = 6 := (gd_some h).1
set_option maxRecDepth 100000 in
set_option maxHeartbeats 4000000 in
theorem w6_closedOver_b77 {p : Program} {l : Launch} {e : Env} {s : State} {m : MethodId} {args : Array Value} {below : List Frame} {meth : Method} {c : Code} {D : va_G} {cA : Nat → ClassId} {B : Nat} {res : Int × HP} {k4 : HP → Int → Int → Int → Int → Option (Int × HP)} (hk4 : ∀ {ls : Array Slot} {H : Heap} {locs : List Loc} {S : HP} {x0 : Int} {x1 : Int} {x2 : Int} {x3 : Int} (hp : e_Pic D cA B S s H) (hS : va_S (e_A B) s.heap H locs) (hl : e_lo ls 4 [(0, e_rv B (x0)), (1, .int (iI (x1))), (2, .int (iI (x2))), (3, .int (iI (x3)))]) (hsh : k4 S x0 x1 x2 x3 = some res), W p l e ({ frames := 0, cells := 0, slots := 0, locals := 0 } : Room) s m args below meth c H locs 0 0 (MQ below (e_Qi D cA B res.1 res.2) args s 0 0 (e_A B)) (F0 m 4 ls [])) (E : e_En p s m args meth c cX6_closedOver RX6 4 (some .int)) {ls : Array Slot} {H : Heap} {locs : List Loc} {S : HP} {x0 : Int} {x1 : Int} {x2 : Int} {x3 : Int} (hp : e_Pic D cA B S s H) (hS : va_S (e_A B) s.heap H locs) (hl : e_lo ls 4 [(0, e_rv B (x0)), (1, .int (iI (x1))), (2, .int (iI (x2))), (3, .int (iI (x3)))]) (hsh : s6_closedOver_b77 k4 S x0 x1 x2 x3 = some res) : W p l e ({ frames := 0, cells := 0, slots := 0, locals := 0 } : Room) s m args below meth c H locs 0 0 (MQ below (e_Qi D cA B res.1 res.2) args s 0 0 (e_A B)) (F0 m 77 ls []) := by
  obtain ⟨hx, hb, hml, hown, hts, hlk, hrt⟩ := id E
  unfold s6_closedOver_b77 at hsh
  refine e_iinc (n := 1) (x := x3) (lv' := [(3, .int (iI ((x3 + 1)))), (0, e_rv B (x0)), (1, .int (iI (x1))), (2, .int (iI (x2)))]) hx hb dX6_closedOver_77 hl (k := 3) rfl (by decide) rfl (fun ls hl => ?_)
  refine lv_goto (tgt := 4) hx hb dX6_closedOver_80 (by decide) ?_
  exact hk4 hp hS (hl.sub [1, 2, 3, 0] rfl) hsh
set_option maxRecDepth 100000 in
set_option maxHeartbeats 4000000 in
theorem w6_closedOver_b75 {p : Program} {l : Launch} {e : Env} {s : State} {m : MethodId} {args : Array Value} {below : List Frame} {meth : Method} {c : Code} {D : va_G} {cA : Nat → ClassId} {B : Nat} {res : Int × HP} {k4 : HP → Int → Int → Int → Int → Option (Int × HP)} (hk4 : ∀ {ls : Array Slot} {H : Heap} {locs : List Loc} {S : HP} {x0 : Int} {x1 : Int} {x2 : Int} {x3 : Int} (hp : e_Pic D cA B S s H) (hS : va_S (e_A B) s.heap H locs) (hl : e_lo ls 4 [(0, e_rv B (x0)), (1, .int (iI (x1))), (2, .int (iI (x2))), (3, .int (iI (x3)))]) (hsh : k4 S x0 x1 x2 x3 = some res), W p l e ({ frames := 0, cells := 0, slots := 0, locals := 0 } : Room) s m args below meth c H locs 0 0 (MQ below (e_Qi D cA B res.1 res.2) args s 0 0 (e_A B)) (F0 m 4 ls [])) (E : e_En p s m args meth c cX6_closedOver RX6 4 (some .int)) {ls : Array Slot} {H : Heap} {locs : List Loc} {S : HP} {x0 : Int} {x1 : Int} {x3 : Int} (hp : e_Pic D cA B S s H) (hS : va_S (e_A B) s.heap H locs) (hl : e_lo ls 4 [(0, e_rv B (x0)), (1, .int (iI (x1))), (3, .int (iI (x3)))]) (hsh : s6_closedOver_b75 k4 S x0 x1 x3 = some res) : W p l e ({ frames := 0, cells := 0, slots := 0, locals := 0 } : Room) s m args below meth c H locs 0 0 (MQ below (e_Qi D cA B res.1 res.2) args s 0 0 (e_A B)) (F0 m 75 ls []) := by
  obtain ⟨hx, hb, hml, hown, hts, hlk, hrt⟩ := id E
  unfold s6_closedOver_b75 at hsh
  refine lv_iload_n hx hb dX6_closedOver_75 rfl (hl.at 2 rfl) ?_
  refine e_istore_n (lv' := [(2, .int (iI (x3))), (0, e_rv B (x0)), (1, .int (iI (x1))), (3, .int (iI (x3)))]) hx hb dX6_closedOver_76 rfl hl (by decide) rfl (fun ls hl => ?_)
  exact w6_closedOver_b77 (hk4 := hk4) E hp hS (hl.sub [1, 2, 0, 3] rfl) hsh
set_option maxRecDepth 100000 in
set_option maxHeartbeats 4000000 in
theorem w6_closedOver_l4 {p : Program} {l : Launch} {e : Env} {s : State} {m : MethodId} {args : Array Value} {below : List Frame} {meth : Method} {c : Code} {D : va_G} {cA : Nat → ClassId} {B : Nat} {res : Int × HP} (E : e_En p s m args meth c cX6_closedOver RX6 4 (some .int)) : ∀ (f : Nat) {ls : Array Slot} {H : Heap} {locs : List Loc} {S : HP} {x0 : Int} {x1 : Int} {x2 : Int} {x3 : Int} (hp : e_Pic D cA B S s H) (hS : va_S (e_A B) s.heap H locs) (hl : e_lo ls 4 [(0, e_rv B (x0)), (1, .int (iI (x1))), (2, .int (iI (x2))), (3, .int (iI (x3)))]) (hsh : s6_closedOver_l4 f S x0 x1 x2 x3 = some res), W p l e ({ frames := 0, cells := 0, slots := 0, locals := 0 } : Room) s m args below meth c H locs 0 0 (MQ below (e_Qi D cA B res.1 res.2) args s 0 0 (e_A B)) (F0 m 4 ls []) := by
  obtain ⟨hx, hb, hml, hown, hts, hlk, hrt⟩ := id E
  intro f
  induction f with
  | zero => intro ls H locs S x0 x1 x2 x3 hp hS hl hsh; cases hsh
  | succ f ih =>
    intro ls H locs S x0 x1 x2 x3 hp hS hl hsh
    have hk4 : ∀ {ls : Array Slot} {H : Heap} {locs : List Loc} {S : HP} {x0 : Int} {x1 : Int} {x2 : Int} {x3 : Int} (hp : e_Pic D cA B S s H) (hS : va_S (e_A B) s.heap H locs) (hl : e_lo ls 4 [(0, e_rv B (x0)), (1, .int (iI (x1))), (2, .int (iI (x2))), (3, .int (iI (x3)))]) (hsh : (s6_closedOver_l4 f) S x0 x1 x2 x3 = some res), W p l e ({ frames := 0, cells := 0, slots := 0, locals := 0 } : Room) s m args below meth c H locs 0 0 (MQ below (e_Qi D cA B res.1 res.2) args s 0 0 (e_A B)) (F0 m 4 ls []) := ih
    generalize hkk : s6_closedOver_l4 f = k4 at hk4
    rw [s6_closedOver_l4] at hsh
    rw [hkk] at hsh
    try dsimp only at hsh
    refine lv_iload_n hx hb dX6_closedOver_4 rfl (hl.at 3 rfl) ?_
    refine e_aload_n (B := B) (x := x0) hx hb dX6_closedOver_5 rfl (hl.at 0 rfl) ?_
    obtain ⟨v6, h6, hsh⟩ := Option.bind_eq_some_iff.mp hsh
    refine e_getI (k := 15) hx hb hts in_X6 hown hp h6 rfl (by decide) (by decide) rfl (hts _ kf6_59) rfl dX6_closedOver_6 ?_
    refine e_icmp_ge (tgt := 83) hx hb dX6_closedOver_9 (by decide) (fun c9 => ?_) (fun c9 => ?_)
    · rw [if_pos c9] at hsh
      refine lv_iload_n hx hb dX6_closedOver_83 rfl (hl.at 2 rfl) ?_
      cases hsh
      exact e_iret hx hb hrt hlk hp hS dX6_closedOver_84
    · rw [if_neg c9] at hsh
      refine e_aload_n (B := B) (x := x0) hx hb dX6_closedOver_12 rfl (hl.at 0 rfl) ?_
      obtain ⟨v13, h13, hsh⟩ := Option.bind_eq_some_iff.mp hsh
      refine e_getR (k := 14) hx hb hts in_X6 hown hp h13 rfl (by decide) (by decide) rfl (hts _ kf6_55) rfl dX6_closedOver_13 ?_
      refine lv_iload_n hx hb dX6_closedOver_16 rfl (hl.at 3 rfl) ?_
      obtain ⟨v17, h17, hsh⟩ := Option.bind_eq_some_iff.mp hsh
      refine e_bald hx hb hp h17 dX6_closedOver_17 ?_
      refine e_if_eq (tgt := 77) hx hb dX6_closedOver_18 (by decide) (fun c18 => ?_) (fun c18 => ?_)
      · rw [if_pos c18] at hsh
        exact w6_closedOver_b77 (hk4 := hk4) E hp hS (hl.sub [0, 1, 2, 3] rfl) hsh
      · rw [if_neg c18] at hsh
        refine e_aload_n (B := B) (x := x0) hx hb dX6_closedOver_21 rfl (hl.at 0 rfl) ?_
        obtain ⟨v22, h22, hsh⟩ := Option.bind_eq_some_iff.mp hsh
        refine e_getR (k := 12) hx hb hts in_X6 hown hp h22 rfl (by decide) (by decide) rfl (hts _ kf6_49) rfl dX6_closedOver_22 ?_
        refine lv_iload_n hx hb dX6_closedOver_25 rfl (hl.at 3 rfl) ?_
        obtain ⟨v26, h26, hsh⟩ := Option.bind_eq_some_iff.mp hsh
        refine e_iald hx hb hp h26 dX6_closedOver_26 ?_
        refine lv_iload_n hx hb dX6_closedOver_27 rfl (hl.at 1 rfl) ?_
        refine e_icmp_gt (tgt := 77) hx hb dX6_closedOver_28 (by decide) (fun c28 => ?_) (fun c28 => ?_)
        · rw [if_pos c28] at hsh
          exact w6_closedOver_b77 (hk4 := hk4) E hp hS (hl.sub [0, 1, 2, 3] rfl) hsh
        · rw [if_neg c28] at hsh
          refine lv_iload_n hx hb dX6_closedOver_31 rfl (hl.at 1 rfl) ?_
          refine e_aload_n (B := B) (x := x0) hx hb dX6_closedOver_32 rfl (hl.at 0 rfl) ?_
          obtain ⟨v33, h33, hsh⟩ := Option.bind_eq_some_iff.mp hsh
          refine e_getR (k := 13) hx hb hts in_X6 hown hp h33 rfl (by decide) (by decide) rfl (hts _ kf6_52) rfl dX6_closedOver_33 ?_
          refine lv_iload_n hx hb dX6_closedOver_36 rfl (hl.at 3 rfl) ?_
          obtain ⟨v37, h37, hsh⟩ := Option.bind_eq_some_iff.mp hsh
          refine e_iald hx hb hp h37 dX6_closedOver_37 ?_
          refine e_icmp_gt (tgt := 77) hx hb dX6_closedOver_38 (by decide) (fun c38 => ?_) (fun c38 => ?_)
          · rw [if_pos c38] at hsh
            exact w6_closedOver_b77 (hk4 := hk4) E hp hS (hl.sub [0, 1, 2, 3] rfl) hsh
          · rw [if_neg c38] at hsh
            refine lv_iload_n hx hb dX6_closedOver_41 rfl (hl.at 2 rfl) ?_
            refine lv_iconst (v := iI (-1)) hx hb dX6_closedOver_42 rfl ?_
            refine e_icmp_eq (tgt := 75) hx hb dX6_closedOver_43 (by decide) (fun c43 => ?_) (fun c43 => ?_)
            · rw [if_pos c43] at hsh
              exact w6_closedOver_b75 (hk4 := hk4) E hp hS (hl.sub [0, 1, 3] rfl) hsh
            · rw [if_neg c43] at hsh
              refine e_aload_n (B := B) (x := x0) hx hb dX6_closedOver_46 rfl (hl.at 0 rfl) ?_
              obtain ⟨v47, h47, hsh⟩ := Option.bind_eq_some_iff.mp hsh
              refine e_getR (k := 13) hx hb hts in_X6 hown hp h47 rfl (by decide) (by decide) rfl (hts _ kf6_52) rfl dX6_closedOver_47 ?_
              refine lv_iload_n hx hb dX6_closedOver_50 rfl (hl.at 3 rfl) ?_
              obtain ⟨v51, h51, hsh⟩ := Option.bind_eq_some_iff.mp hsh
              refine e_iald hx hb hp h51 dX6_closedOver_51 ?_
              refine e_aload_n (B := B) (x := x0) hx hb dX6_closedOver_52 rfl (hl.at 0 rfl) ?_
              obtain ⟨v53, h53, hsh⟩ := Option.bind_eq_some_iff.mp hsh
              refine e_getR (k := 12) hx hb hts in_X6 hown hp h53 rfl (by decide) (by decide) rfl (hts _ kf6_49) rfl dX6_closedOver_53 ?_
              refine lv_iload_n hx hb dX6_closedOver_56 rfl (hl.at 3 rfl) ?_
              obtain ⟨v57, h57, hsh⟩ := Option.bind_eq_some_iff.mp hsh
              refine e_iald hx hb hp h57 dX6_closedOver_57 ?_
              refine e_isub hx hb dX6_closedOver_58 ?_
              refine e_aload_n (B := B) (x := x0) hx hb dX6_closedOver_59 rfl (hl.at 0 rfl) ?_
              obtain ⟨v60, h60, hsh⟩ := Option.bind_eq_some_iff.mp hsh
              refine e_getR (k := 13) hx hb hts in_X6 hown hp h60 rfl (by decide) (by decide) rfl (hts _ kf6_52) rfl dX6_closedOver_60 ?_
              refine lv_iload_n hx hb dX6_closedOver_63 rfl (hl.at 2 rfl) ?_
              obtain ⟨v64, h64, hsh⟩ := Option.bind_eq_some_iff.mp hsh
              refine e_iald hx hb hp h64 dX6_closedOver_64 ?_
              refine e_aload_n (B := B) (x := x0) hx hb dX6_closedOver_65 rfl (hl.at 0 rfl) ?_
              obtain ⟨v66, h66, hsh⟩ := Option.bind_eq_some_iff.mp hsh
              refine e_getR (k := 12) hx hb hts in_X6 hown hp h66 rfl (by decide) (by decide) rfl (hts _ kf6_49) rfl dX6_closedOver_66 ?_
              refine lv_iload_n hx hb dX6_closedOver_69 rfl (hl.at 2 rfl) ?_
              obtain ⟨v70, h70, hsh⟩ := Option.bind_eq_some_iff.mp hsh
              refine e_iald hx hb hp h70 dX6_closedOver_70 ?_
              refine e_isub hx hb dX6_closedOver_71 ?_
              refine e_icmp_le (tgt := 77) hx hb dX6_closedOver_72 (by decide) (fun c72 => ?_) (fun c72 => ?_)
              · rw [if_pos c72] at hsh
                exact w6_closedOver_b77 (hk4 := hk4) E hp hS (hl.sub [0, 1, 2, 3] rfl) hsh
              · rw [if_neg c72] at hsh
                exact w6_closedOver_b75 (hk4 := hk4) E hp hS (hl.sub [0, 1, 3] rfl) hsh
set_option maxRecDepth 100000 in
set_option maxHeartbeats 4000000 in
theorem c6_closedOver (l : Launch) (D : va_G) (cA : Nat → ClassId) (B : Nat) (S S' : HP) (x0 : Int) (x1 : Int) (r : Int) (hsh : s6_closedOver S x0 x1 = some (r, S')) : Met l yX6_closedOver (e_wu yX6_closedOver cX6_closedOver 4 (some .int)) ({ frames := 0, cells := 0, slots := 0, locals := 0 } : Room) (va_Pc [e_rv B (x0), .int (iI (x1))] (fun U => e_PU D cA B S U)) (e_Qi D cA B r S') 0 0 (e_A B) := by
  refine Met.ofW (cc := cX6_closedOver) (maxL := 4) (ret := (some .int)) (by decide +kernel) rfl ?_
  intro p e s m args below meth c s₁ Bd hml hv
  obtain ⟨rfl, hp⟩ := hv
  have hp : e_Pic D cA B S s s.heap := hp
  have hx := Bd.exec
  have hb := Bd.bytes
  have hrt := Bd.returns
  have hlk := Bd.notSynchronized
  have hown : s.vm.findClass RX6 = some m.cls := findClass_of_methodNamed Bd.named
  have hts : ∀ w ∈ e_tb, w.before ([e_rv B (x0), .int (iI (x1))] : List Value).toArray s = true := fun w h => atoms_spec (ws := (e_wu yX6_closedOver cX6_closedOver 4 (some .int))) Bd.pre w (List.mem_cons_of_mem _ h)
  have E : e_En p s m ([e_rv B (x0), .int (iI (x1))] : List Value).toArray meth c cX6_closedOver RX6 4 (some .int) := ⟨hx, hb, hml, hown, hts, hlk, hrt⟩
  have hS : va_S (e_A B) s.heap s.heap [] := va_S.rf
  have hl := e_entry (vs := [e_rv B (x0), .int (iI (x1))]) (n := 4) (Nat.le_of_ble_eq_true rfl) (e_cc (e_rv_cat _ _) (e_cc rfl e_cn))
  rw [lg_entry_eq]
  generalize (lg_sl [e_rv B (x0), .int (iI (x1))] ++ List.replicate (4 - (lg_sl [e_rv B (x0), .int (iI (x1))]).length) Slot.unset).toArray = ls at hl ⊢
  generalize ([e_rv B (x0), .int (iI (x1))] : List Value).toArray = args at hts E ⊢
  have hl : e_lo ls 4 [(0, e_rv B (x0)), (1, .int (iI (x1)))] := hl
  have hsh := (gd_some hsh).2
  refine lv_iconst (v := iI (-1)) hx hb dX6_closedOver_0 rfl ?_
  refine e_istore_n (lv' := [(2, .int (iI ((-1)))), (0, e_rv B (x0)), (1, .int (iI (x1)))]) hx hb dX6_closedOver_1 rfl hl (by decide) rfl (fun ls hl => ?_)
  refine lv_iconst (v := iI (0)) hx hb dX6_closedOver_2 rfl ?_
  refine e_istore_n (lv' := [(3, .int (iI (0))), (2, .int (iI ((-1)))), (0, e_rv B (x0)), (1, .int (iI (x1)))]) hx hb dX6_closedOver_3 rfl hl (by decide) rfl (fun ls hl => ?_)
  exact w6_closedOver_l4 E 1000000 hp hS (hl.sub [2, 3, 1, 0] rfl) hsh
theorem ok6_topOf {S : HP} {x0 : Int} {x1 : Int} {r : Int × HP} (h : s6_topOf S x0 x1 = some r) : 0 ≤ x0 ∧ x0.toNat < e_n S ∧ e_g S x0.toNat = 6 := (gd_some h).1
set_option maxRecDepth 100000 in
set_option maxHeartbeats 4000000 in
theorem w6_topOf_b21 {p : Program} {l : Launch} {e : Env} {s : State} {m : MethodId} {args : Array Value} {below : List Frame} {meth : Method} {c : Code} {D : va_G} {cA : Nat → ClassId} {B : Nat} {res : Int × HP} (E : e_En p s m args meth c cX6_topOf RX6 3 (some .int)) {ls : Array Slot} {H : Heap} {locs : List Loc} {S : HP} {y0 : Int} (hp : e_Pic D cA B S s H) (hS : va_S (e_A B) s.heap H locs) (hl : e_lo ls 3 []) (hsh : s6_topOf_b21 S y0 = some res) : W p l e ({ frames := 1, cells := 0, slots := 0, locals := 23 } : Room) s m args below meth c H locs 0 0 (MQ below (e_Qi D cA B res.1 res.2) args s 0 0 (e_A B)) (F0 m 21 ls [.int (iI (y0))]) := by
  obtain ⟨hx, hb, hml, hown, hts, hlk, hrt⟩ := id E
  unfold s6_topOf_b21 at hsh
  cases hsh
  exact e_iret hx hb hrt hlk hp hS dX6_topOf_21
set_option maxRecDepth 100000 in
set_option maxHeartbeats 4000000 in
theorem c6_topOf (l : Launch) (D : va_G) (cA : Nat → ClassId) (B : Nat) (S S' : HP) (x0 : Int) (x1 : Int) (r : Int) (hsh : s6_topOf S x0 x1 = some (r, S')) : Met l yX6_topOf (e_wu yX6_topOf cX6_topOf 3 (some .int)) ({ frames := 1, cells := 0, slots := 0, locals := 23 } : Room) (va_Pc [e_rv B (x0), .int (iI (x1))] (fun U => e_PU D cA B S U)) (e_Qi D cA B r S') 0 0 (e_A B) := by
  refine Met.ofW (cc := cX6_topOf) (maxL := 3) (ret := (some .int)) (by decide +kernel) rfl ?_
  intro p e s m args below meth c s₁ Bd hml hv
  obtain ⟨rfl, hp⟩ := hv
  have hp : e_Pic D cA B S s s.heap := hp
  have hx := Bd.exec
  have hb := Bd.bytes
  have hrt := Bd.returns
  have hlk := Bd.notSynchronized
  have hown : s.vm.findClass RX6 = some m.cls := findClass_of_methodNamed Bd.named
  have hts : ∀ w ∈ e_tb, w.before ([e_rv B (x0), .int (iI (x1))] : List Value).toArray s = true := fun w h => atoms_spec (ws := (e_wu yX6_topOf cX6_topOf 3 (some .int))) Bd.pre w (List.mem_cons_of_mem _ h)
  have E : e_En p s m ([e_rv B (x0), .int (iI (x1))] : List Value).toArray meth c cX6_topOf RX6 3 (some .int) := ⟨hx, hb, hml, hown, hts, hlk, hrt⟩
  have hS : va_S (e_A B) s.heap s.heap [] := va_S.rf
  have hl := e_entry (vs := [e_rv B (x0), .int (iI (x1))]) (n := 3) (Nat.le_of_ble_eq_true rfl) (e_cc (e_rv_cat _ _) (e_cc rfl e_cn))
  rw [lg_entry_eq]
  generalize (lg_sl [e_rv B (x0), .int (iI (x1))] ++ List.replicate (3 - (lg_sl [e_rv B (x0), .int (iI (x1))]).length) Slot.unset).toArray = ls at hl ⊢
  generalize ([e_rv B (x0), .int (iI (x1))] : List Value).toArray = args at hts E ⊢
  have hl : e_lo ls 3 [(0, e_rv B (x0)), (1, .int (iI (x1)))] := hl
  have hsh := (gd_some hsh).2
  refine e_aload_n (B := B) (x := x0) hx hb dX6_topOf_0 rfl (hl.at 0 rfl) ?_
  refine lv_iload_n hx hb dX6_topOf_1 rfl (hl.at 1 rfl) ?_
  obtain ⟨⟨v2, S2⟩, h2, hsh⟩ := Option.bind_eq_some_iff.mp hsh
  have hsh : _ = _ := hsh
  try dsimp only at hsh
  have ok2 := ok6_closedOver h2
  refine e_callI (nL := 3) (mc := 0) (ms := 0) (T := TX6) (N := 16) (As := [.int (iI (x1))]) (rest := []) hx hb hml hown hts hp hS hl.size ok2.1 ok2.2.1 ok2.2.2 rfl (by decide) (c6_closedOver l D cA B S S2 (x0) (x1) v2 h2) rfl rfl kd6_closedOver (kl6_114) ks6_closedOver kv6_closedOver ki6 kh6_closedOver ⟨Nat.le_of_ble_eq_true rfl, Nat.le_of_ble_eq_true rfl⟩ rfl (by simp [e_rv_cat, e_int_cat]) ⟨Nat.le_refl _, Nat.le_refl _⟩ dX6_topOf_2 rfl (fun H locs hp hS => ?_)
  refine e_istore_n (lv' := [(2, .int (iI (v2))), (0, e_rv B (x0)), (1, .int (iI (x1)))]) hx hb dX6_topOf_5 rfl hl (by decide) rfl (fun ls hl => ?_)
  refine lv_iload_n hx hb dX6_topOf_6 rfl (hl.at 0 rfl) ?_
  refine lv_iconst (v := iI (-1)) hx hb dX6_topOf_7 rfl ?_
  refine e_icmp_ne (tgt := 15) hx hb dX6_topOf_8 (by decide) (fun c8 => ?_) (fun c8 => ?_)
  · rw [if_neg c8] at hsh
    refine e_aload_n (B := B) (x := x0) hx hb dX6_topOf_15 rfl (hl.at 1 rfl) ?_
    obtain ⟨v16, h16, hsh⟩ := Option.bind_eq_some_iff.mp hsh
    refine e_getR (k := 12) hx hb hts in_X6 hown hp h16 rfl (by decide) (by decide) rfl (hts _ kf6_49) rfl dX6_topOf_16 ?_
    refine lv_iload_n hx hb dX6_topOf_19 rfl (hl.at 0 rfl) ?_
    obtain ⟨v20, h20, hsh⟩ := Option.bind_eq_some_iff.mp hsh
    refine e_iald hx hb hp h20 dX6_topOf_20 ?_
    exact w6_topOf_b21 E hp hS (hl.sub [] rfl) hsh
  · rw [if_pos c8] at hsh
    refine lv_iload_n hx hb dX6_topOf_11 rfl (hl.at 2 rfl) ?_
    refine lv_goto (tgt := 21) hx hb dX6_topOf_12 (by decide) ?_
    exact w6_topOf_b21 E hp hS (hl.sub [] rfl) hsh
theorem ok6_endOf {S : HP} {x0 : Int} {x1 : Int} {r : Int × HP} (h : s6_endOf S x0 x1 = some r) : 0 ≤ x0 ∧ x0.toNat < e_n S ∧ e_g S x0.toNat = 6 := (gd_some h).1
set_option maxRecDepth 100000 in
set_option maxHeartbeats 4000000 in
theorem w6_endOf_b21 {p : Program} {l : Launch} {e : Env} {s : State} {m : MethodId} {args : Array Value} {below : List Frame} {meth : Method} {c : Code} {D : va_G} {cA : Nat → ClassId} {B : Nat} {res : Int × HP} (E : e_En p s m args meth c cX6_endOf RX6 3 (some .int)) {ls : Array Slot} {H : Heap} {locs : List Loc} {S : HP} {y0 : Int} (hp : e_Pic D cA B S s H) (hS : va_S (e_A B) s.heap H locs) (hl : e_lo ls 3 []) (hsh : s6_endOf_b21 S y0 = some res) : W p l e ({ frames := 1, cells := 0, slots := 0, locals := 23 } : Room) s m args below meth c H locs 0 0 (MQ below (e_Qi D cA B res.1 res.2) args s 0 0 (e_A B)) (F0 m 21 ls [.int (iI (y0))]) := by
  obtain ⟨hx, hb, hml, hown, hts, hlk, hrt⟩ := id E
  unfold s6_endOf_b21 at hsh
  cases hsh
  exact e_iret hx hb hrt hlk hp hS dX6_endOf_21
set_option maxRecDepth 100000 in
set_option maxHeartbeats 4000000 in
theorem c6_endOf (l : Launch) (D : va_G) (cA : Nat → ClassId) (B : Nat) (S S' : HP) (x0 : Int) (x1 : Int) (r : Int) (hsh : s6_endOf S x0 x1 = some (r, S')) : Met l yX6_endOf (e_wu yX6_endOf cX6_endOf 3 (some .int)) ({ frames := 1, cells := 0, slots := 0, locals := 23 } : Room) (va_Pc [e_rv B (x0), .int (iI (x1))] (fun U => e_PU D cA B S U)) (e_Qi D cA B r S') 0 0 (e_A B) := by
  refine Met.ofW (cc := cX6_endOf) (maxL := 3) (ret := (some .int)) (by decide +kernel) rfl ?_
  intro p e s m args below meth c s₁ Bd hml hv
  obtain ⟨rfl, hp⟩ := hv
  have hp : e_Pic D cA B S s s.heap := hp
  have hx := Bd.exec
  have hb := Bd.bytes
  have hrt := Bd.returns
  have hlk := Bd.notSynchronized
  have hown : s.vm.findClass RX6 = some m.cls := findClass_of_methodNamed Bd.named
  have hts : ∀ w ∈ e_tb, w.before ([e_rv B (x0), .int (iI (x1))] : List Value).toArray s = true := fun w h => atoms_spec (ws := (e_wu yX6_endOf cX6_endOf 3 (some .int))) Bd.pre w (List.mem_cons_of_mem _ h)
  have E : e_En p s m ([e_rv B (x0), .int (iI (x1))] : List Value).toArray meth c cX6_endOf RX6 3 (some .int) := ⟨hx, hb, hml, hown, hts, hlk, hrt⟩
  have hS : va_S (e_A B) s.heap s.heap [] := va_S.rf
  have hl := e_entry (vs := [e_rv B (x0), .int (iI (x1))]) (n := 3) (Nat.le_of_ble_eq_true rfl) (e_cc (e_rv_cat _ _) (e_cc rfl e_cn))
  rw [lg_entry_eq]
  generalize (lg_sl [e_rv B (x0), .int (iI (x1))] ++ List.replicate (3 - (lg_sl [e_rv B (x0), .int (iI (x1))]).length) Slot.unset).toArray = ls at hl ⊢
  generalize ([e_rv B (x0), .int (iI (x1))] : List Value).toArray = args at hts E ⊢
  have hl : e_lo ls 3 [(0, e_rv B (x0)), (1, .int (iI (x1)))] := hl
  have hsh := (gd_some hsh).2
  refine e_aload_n (B := B) (x := x0) hx hb dX6_endOf_0 rfl (hl.at 0 rfl) ?_
  refine lv_iload_n hx hb dX6_endOf_1 rfl (hl.at 1 rfl) ?_
  obtain ⟨⟨v2, S2⟩, h2, hsh⟩ := Option.bind_eq_some_iff.mp hsh
  have hsh : _ = _ := hsh
  try dsimp only at hsh
  have ok2 := ok6_closedOver h2
  refine e_callI (nL := 3) (mc := 0) (ms := 0) (T := TX6) (N := 16) (As := [.int (iI (x1))]) (rest := []) hx hb hml hown hts hp hS hl.size ok2.1 ok2.2.1 ok2.2.2 rfl (by decide) (c6_closedOver l D cA B S S2 (x0) (x1) v2 h2) rfl rfl kd6_closedOver (kl6_114) ks6_closedOver kv6_closedOver ki6 kh6_closedOver ⟨Nat.le_of_ble_eq_true rfl, Nat.le_of_ble_eq_true rfl⟩ rfl (by simp [e_rv_cat, e_int_cat]) ⟨Nat.le_refl _, Nat.le_refl _⟩ dX6_endOf_2 rfl (fun H locs hp hS => ?_)
  refine e_istore_n (lv' := [(2, .int (iI (v2))), (0, e_rv B (x0)), (1, .int (iI (x1)))]) hx hb dX6_endOf_5 rfl hl (by decide) rfl (fun ls hl => ?_)
  refine lv_iload_n hx hb dX6_endOf_6 rfl (hl.at 0 rfl) ?_
  refine lv_iconst (v := iI (-1)) hx hb dX6_endOf_7 rfl ?_
  refine e_icmp_ne (tgt := 15) hx hb dX6_endOf_8 (by decide) (fun c8 => ?_) (fun c8 => ?_)
  · rw [if_neg c8] at hsh
    refine e_aload_n (B := B) (x := x0) hx hb dX6_endOf_15 rfl (hl.at 1 rfl) ?_
    obtain ⟨v16, h16, hsh⟩ := Option.bind_eq_some_iff.mp hsh
    refine e_getR (k := 13) hx hb hts in_X6 hown hp h16 rfl (by decide) (by decide) rfl (hts _ kf6_52) rfl dX6_endOf_16 ?_
    refine lv_iload_n hx hb dX6_endOf_19 rfl (hl.at 0 rfl) ?_
    obtain ⟨v20, h20, hsh⟩ := Option.bind_eq_some_iff.mp hsh
    refine e_iald hx hb hp h20 dX6_endOf_20 ?_
    exact w6_endOf_b21 E hp hS (hl.sub [] rfl) hsh
  · rw [if_pos c8] at hsh
    refine lv_iload_n hx hb dX6_endOf_11 rfl (hl.at 2 rfl) ?_
    refine lv_goto (tgt := 21) hx hb dX6_endOf_12 (by decide) ?_
    exact w6_endOf_b21 E hp hS (hl.sub [] rfl) hsh
theorem ok6_rowFrom {S : HP} {x0 : Int} {x1 : Int} {x2 : Int} {x3 : Int} {r : Int × HP} (h : s6_rowFrom S x0 x1 x2 x3 = some r) : 0 ≤ x0 ∧ x0.toNat < e_n S ∧ e_g S x0.toNat = 6 := (gd_some h).1
set_option maxRecDepth 100000 in
set_option maxHeartbeats 4000000 in
theorem w6_rowFrom_b51 {p : Program} {l : Launch} {e : Env} {s : State} {m : MethodId} {args : Array Value} {below : List Frame} {meth : Method} {c : Code} {D : va_G} {cA : Nat → ClassId} {B : Nat} {res : Int × HP} (E : e_En p s m args meth c cX6_rowFrom RX6 6 (some .int)) {ls : Array Slot} {H : Heap} {locs : List Loc} {S : HP} (hp : e_Pic D cA B S s H) (hS : va_S (e_A B) s.heap H locs) (hl : e_lo ls 6 []) (hsh : s6_rowFrom_b51 S  = some res) : W p l e ({ frames := 2, cells := 0, slots := 0, locals := 45 } : Room) s m args below meth c H locs 0 0 (MQ below (e_Qi D cA B res.1 res.2) args s 0 0 (e_A B)) (F0 m 51 ls []) := by
  obtain ⟨hx, hb, hml, hown, hts, hlk, hrt⟩ := id E
  unfold s6_rowFrom_b51 at hsh
  refine lv_iconst (v := iI (-1)) hx hb dX6_rowFrom_51 rfl ?_
  cases hsh
  exact e_iret hx hb hrt hlk hp hS dX6_rowFrom_52
set_option maxRecDepth 100000 in
set_option maxHeartbeats 4000000 in
theorem w6_rowFrom_b38 {p : Program} {l : Launch} {e : Env} {s : State} {m : MethodId} {args : Array Value} {below : List Frame} {meth : Method} {c : Code} {D : va_G} {cA : Nat → ClassId} {B : Nat} {res : Int × HP} {k6 : HP → Int → Int → Int → Int → Int → Option (Int × HP)} (hk6 : ∀ {ls : Array Slot} {H : Heap} {locs : List Loc} {S : HP} {x0 : Int} {x2 : Int} {x3 : Int} {x4 : Int} {x5 : Int} (hp : e_Pic D cA B S s H) (hS : va_S (e_A B) s.heap H locs) (hl : e_lo ls 6 [(0, e_rv B (x0)), (2, .int (iI (x2))), (3, .int (iI (x3))), (4, .int (iI (x4))), (5, .int (iI (x5)))]) (hsh : k6 S x0 x2 x3 x4 x5 = some res), W p l e ({ frames := 2, cells := 0, slots := 0, locals := 45 } : Room) s m args below meth c H locs 0 0 (MQ below (e_Qi D cA B res.1 res.2) args s 0 0 (e_A B)) (F0 m 6 ls [])) (E : e_En p s m args meth c cX6_rowFrom RX6 6 (some .int)) {ls : Array Slot} {H : Heap} {locs : List Loc} {S : HP} {x0 : Int} {x2 : Int} {x3 : Int} {x5 : Int} {y0 : Int} (hp : e_Pic D cA B S s H) (hS : va_S (e_A B) s.heap H locs) (hl : e_lo ls 6 [(0, e_rv B (x0)), (2, .int (iI (x2))), (3, .int (iI (x3))), (5, .int (iI (x5)))]) (hsh : s6_rowFrom_b38 k6 S x0 x2 x3 x5 y0 = some res) : W p l e ({ frames := 2, cells := 0, slots := 0, locals := 45 } : Room) s m args below meth c H locs 0 0 (MQ below (e_Qi D cA B res.1 res.2) args s 0 0 (e_A B)) (F0 m 38 ls [.int (iI (y0))]) := by
  obtain ⟨hx, hb, hml, hown, hts, hlk, hrt⟩ := id E
  unfold s6_rowFrom_b38 at hsh
  refine e_istore (lv' := [(4, .int (iI (y0))), (0, e_rv B (x0)), (2, .int (iI (x2))), (3, .int (iI (x3))), (5, .int (iI (x5)))]) hx hb dX6_rowFrom_38 hl (by decide) rfl (fun ls hl => ?_)
  refine lv_iload hx hb dX6_rowFrom_40 (hl.at 0 rfl) ?_
  refine e_if_lt (tgt := 51) hx hb dX6_rowFrom_42 (by decide) (fun c42 => ?_) (fun c42 => ?_)
  · rw [if_pos c42] at hsh
    exact w6_rowFrom_b51 E hp hS (hl.sub [] rfl) hsh
  · rw [if_neg c42] at hsh
    refine lv_iload hx hb dX6_rowFrom_45 (hl.at 0 rfl) ?_
    refine lv_iload_n hx hb dX6_rowFrom_47 rfl (hl.at 3 rfl) ?_
    refine e_icmp_lt (tgt := 53) hx hb dX6_rowFrom_48 (by decide) (fun c48 => ?_) (fun c48 => ?_)
    · rw [if_pos c48] at hsh
      refine e_iinc (n := 1) (x := x5) (lv' := [(5, .int (iI ((x5 + 1)))), (4, .int (iI (y0))), (0, e_rv B (x0)), (2, .int (iI (x2))), (3, .int (iI (x3)))]) hx hb dX6_rowFrom_53 hl (k := 4) rfl (by decide) rfl (fun ls hl => ?_)
      refine lv_goto (tgt := 6) hx hb dX6_rowFrom_56 (by decide) ?_
      exact hk6 hp hS (hl.sub [2, 3, 4, 1, 0] rfl) hsh
    · rw [if_neg c48] at hsh
      exact w6_rowFrom_b51 E hp hS (hl.sub [] rfl) hsh
set_option maxRecDepth 100000 in
set_option maxHeartbeats 4000000 in
theorem w6_rowFrom_l6 {p : Program} {l : Launch} {e : Env} {s : State} {m : MethodId} {args : Array Value} {below : List Frame} {meth : Method} {c : Code} {D : va_G} {cA : Nat → ClassId} {B : Nat} {res : Int × HP} (E : e_En p s m args meth c cX6_rowFrom RX6 6 (some .int)) : ∀ (f : Nat) {ls : Array Slot} {H : Heap} {locs : List Loc} {S : HP} {x0 : Int} {x2 : Int} {x3 : Int} {x4 : Int} {x5 : Int} (hp : e_Pic D cA B S s H) (hS : va_S (e_A B) s.heap H locs) (hl : e_lo ls 6 [(0, e_rv B (x0)), (2, .int (iI (x2))), (3, .int (iI (x3))), (4, .int (iI (x4))), (5, .int (iI (x5)))]) (hsh : s6_rowFrom_l6 f S x0 x2 x3 x4 x5 = some res), W p l e ({ frames := 2, cells := 0, slots := 0, locals := 45 } : Room) s m args below meth c H locs 0 0 (MQ below (e_Qi D cA B res.1 res.2) args s 0 0 (e_A B)) (F0 m 6 ls []) := by
  obtain ⟨hx, hb, hml, hown, hts, hlk, hrt⟩ := id E
  intro f
  induction f with
  | zero => intro ls H locs S x0 x2 x3 x4 x5 hp hS hl hsh; cases hsh
  | succ f ih =>
    intro ls H locs S x0 x2 x3 x4 x5 hp hS hl hsh
    have hk6 : ∀ {ls : Array Slot} {H : Heap} {locs : List Loc} {S : HP} {x0 : Int} {x2 : Int} {x3 : Int} {x4 : Int} {x5 : Int} (hp : e_Pic D cA B S s H) (hS : va_S (e_A B) s.heap H locs) (hl : e_lo ls 6 [(0, e_rv B (x0)), (2, .int (iI (x2))), (3, .int (iI (x3))), (4, .int (iI (x4))), (5, .int (iI (x5)))]) (hsh : (s6_rowFrom_l6 f) S x0 x2 x3 x4 x5 = some res), W p l e ({ frames := 2, cells := 0, slots := 0, locals := 45 } : Room) s m args below meth c H locs 0 0 (MQ below (e_Qi D cA B res.1 res.2) args s 0 0 (e_A B)) (F0 m 6 ls []) := ih
    generalize hkk : s6_rowFrom_l6 f = k6 at hk6
    rw [s6_rowFrom_l6] at hsh
    rw [hkk] at hsh
    try dsimp only at hsh
    refine lv_iload hx hb dX6_rowFrom_6 (hl.at 4 rfl) ?_
    refine lv_iload_n hx hb dX6_rowFrom_8 rfl (hl.at 1 rfl) ?_
    refine e_abs (rest := [.int (iI (x5))]) hx hb (hml.trans hl.size.symm) hown hts kl6_117 kM_abs_s kM_i kM_abs_c (Nat.le_of_ble_eq_true rfl) (Nat.le_trans (Nat.add_le_add_right (show _ ≤ 8 by simp [e_rv_cat, e_int_cat]) 13) (Nat.le_of_ble_eq_true rfl)) (Nat.le_refl _) (Nat.le_refl _) dX6_rowFrom_9 ?_
    refine e_icmp_ge (tgt := 59) hx hb dX6_rowFrom_12 (by decide) (fun c12 => ?_) (fun c12 => ?_)
    · rw [if_pos c12] at hsh
      refine e_aload_n (B := B) (x := x0) hx hb dX6_rowFrom_59 rfl (hl.at 0 rfl) ?_
      refine lv_iload hx hb dX6_rowFrom_60 (hl.at 3 rfl) ?_
      obtain ⟨⟨v62, S62⟩, h62, hsh⟩ := Option.bind_eq_some_iff.mp hsh
      have hsh : _ = _ := hsh
      try dsimp only at hsh
      have ok62 := ok6_topOf h62
      refine e_callI (nL := 6) (mc := 0) (ms := 0) (T := TX6) (N := 16) (As := [.int (iI (x4))]) (rest := []) hx hb hml hown hts hp hS hl.size ok62.1 ok62.2.1 ok62.2.2 rfl (by decide) (c6_topOf l D cA B S S62 (x0) (x4) v62 h62) rfl rfl kd6_topOf (kl6_89) ks6_topOf kv6_topOf ki6 kh6_topOf ⟨Nat.le_of_ble_eq_true rfl, Nat.le_of_ble_eq_true rfl⟩ rfl (by simp [e_rv_cat, e_int_cat]) ⟨Nat.le_refl _, Nat.le_refl _⟩ dX6_rowFrom_62 rfl (fun H locs hp hS => ?_)
      cases hsh
      exact e_iret hx hb hrt hlk hp hS dX6_rowFrom_65
    · rw [if_neg c12] at hsh
      refine lv_iload_n hx hb dX6_rowFrom_15 rfl (hl.at 1 rfl) ?_
      refine e_if_le (tgt := 30) hx hb dX6_rowFrom_16 (by decide) (fun c16 => ?_) (fun c16 => ?_)
      · rw [if_pos c16] at hsh
        refine e_aload_n (B := B) (x := x0) hx hb dX6_rowFrom_30 rfl (hl.at 0 rfl) ?_
        refine lv_iload hx hb dX6_rowFrom_31 (hl.at 3 rfl) ?_
        obtain ⟨⟨v33, S33⟩, h33, hsh⟩ := Option.bind_eq_some_iff.mp hsh
        have hsh : _ = _ := hsh
        try dsimp only at hsh
        have ok33 := ok6_topOf h33
        refine e_callI (nL := 6) (mc := 0) (ms := 0) (T := TX6) (N := 16) (As := [.int (iI (x4))]) (rest := []) hx hb hml hown hts hp hS hl.size ok33.1 ok33.2.1 ok33.2.2 rfl (by decide) (c6_topOf l D cA B S S33 (x0) (x4) v33 h33) rfl rfl kd6_topOf (kl6_89) ks6_topOf kv6_topOf ki6 kh6_topOf ⟨Nat.le_of_ble_eq_true rfl, Nat.le_of_ble_eq_true rfl⟩ rfl (by simp [e_rv_cat, e_int_cat]) ⟨Nat.le_refl _, Nat.le_refl _⟩ dX6_rowFrom_33 rfl (fun H locs hp hS => ?_)
        refine lv_iconst (v := iI (1)) hx hb dX6_rowFrom_36 rfl ?_
        refine e_isub hx hb dX6_rowFrom_37 ?_
        exact w6_rowFrom_b38 (hk6 := hk6) E hp hS (hl.sub [0, 1, 2, 4] rfl) hsh
      · rw [if_neg c16] at hsh
        refine e_aload_n (B := B) (x := x0) hx hb dX6_rowFrom_19 rfl (hl.at 0 rfl) ?_
        refine lv_iload hx hb dX6_rowFrom_20 (hl.at 3 rfl) ?_
        obtain ⟨⟨v22, S22⟩, h22, hsh⟩ := Option.bind_eq_some_iff.mp hsh
        have hsh : _ = _ := hsh
        try dsimp only at hsh
        have ok22 := ok6_endOf h22
        refine e_callI (nL := 6) (mc := 0) (ms := 0) (T := TX6) (N := 16) (As := [.int (iI (x4))]) (rest := []) hx hb hml hown hts hp hS hl.size ok22.1 ok22.2.1 ok22.2.2 rfl (by decide) (c6_endOf l D cA B S S22 (x0) (x4) v22 h22) rfl rfl kd6_endOf (kl6_120) ks6_endOf kv6_endOf ki6 kh6_endOf ⟨Nat.le_of_ble_eq_true rfl, Nat.le_of_ble_eq_true rfl⟩ rfl (by simp [e_rv_cat, e_int_cat]) ⟨Nat.le_refl _, Nat.le_refl _⟩ dX6_rowFrom_22 rfl (fun H locs hp hS => ?_)
        refine lv_iconst (v := iI (1)) hx hb dX6_rowFrom_25 rfl ?_
        refine e_iadd hx hb dX6_rowFrom_26 ?_
        refine lv_goto (tgt := 38) hx hb dX6_rowFrom_27 (by decide) ?_
        exact w6_rowFrom_b38 (hk6 := hk6) E hp hS (hl.sub [0, 1, 2, 4] rfl) hsh
set_option maxRecDepth 100000 in
set_option maxHeartbeats 4000000 in
theorem c6_rowFrom (l : Launch) (D : va_G) (cA : Nat → ClassId) (B : Nat) (S S' : HP) (x0 : Int) (x1 : Int) (x2 : Int) (x3 : Int) (r : Int) (hsh : s6_rowFrom S x0 x1 x2 x3 = some (r, S')) : Met l yX6_rowFrom (e_wu yX6_rowFrom cX6_rowFrom 6 (some .int)) ({ frames := 2, cells := 0, slots := 0, locals := 45 } : Room) (va_Pc [e_rv B (x0), .int (iI (x1)), .int (iI (x2)), .int (iI (x3))] (fun U => e_PU D cA B S U)) (e_Qi D cA B r S') 0 0 (e_A B) := by
  refine Met.ofW (cc := cX6_rowFrom) (maxL := 6) (ret := (some .int)) (by decide +kernel) rfl ?_
  intro p e s m args below meth c s₁ Bd hml hv
  obtain ⟨rfl, hp⟩ := hv
  have hp : e_Pic D cA B S s s.heap := hp
  have hx := Bd.exec
  have hb := Bd.bytes
  have hrt := Bd.returns
  have hlk := Bd.notSynchronized
  have hown : s.vm.findClass RX6 = some m.cls := findClass_of_methodNamed Bd.named
  have hts : ∀ w ∈ e_tb, w.before ([e_rv B (x0), .int (iI (x1)), .int (iI (x2)), .int (iI (x3))] : List Value).toArray s = true := fun w h => atoms_spec (ws := (e_wu yX6_rowFrom cX6_rowFrom 6 (some .int))) Bd.pre w (List.mem_cons_of_mem _ h)
  have E : e_En p s m ([e_rv B (x0), .int (iI (x1)), .int (iI (x2)), .int (iI (x3))] : List Value).toArray meth c cX6_rowFrom RX6 6 (some .int) := ⟨hx, hb, hml, hown, hts, hlk, hrt⟩
  have hS : va_S (e_A B) s.heap s.heap [] := va_S.rf
  have hl := e_entry (vs := [e_rv B (x0), .int (iI (x1)), .int (iI (x2)), .int (iI (x3))]) (n := 6) (Nat.le_of_ble_eq_true rfl) (e_cc (e_rv_cat _ _) (e_cc rfl (e_cc rfl (e_cc rfl e_cn))))
  rw [lg_entry_eq]
  generalize (lg_sl [e_rv B (x0), .int (iI (x1)), .int (iI (x2)), .int (iI (x3))] ++ List.replicate (6 - (lg_sl [e_rv B (x0), .int (iI (x1)), .int (iI (x2)), .int (iI (x3))]).length) Slot.unset).toArray = ls at hl ⊢
  generalize ([e_rv B (x0), .int (iI (x1)), .int (iI (x2)), .int (iI (x3))] : List Value).toArray = args at hts E ⊢
  have hl : e_lo ls 6 [(0, e_rv B (x0)), (1, .int (iI (x1))), (2, .int (iI (x2))), (3, .int (iI (x3)))] := hl
  have hsh := (gd_some hsh).2
  refine lv_iload_n hx hb dX6_rowFrom_0 rfl (hl.at 1 rfl) ?_
  refine e_istore (lv' := [(4, .int (iI (x1))), (0, e_rv B (x0)), (1, .int (iI (x1))), (2, .int (iI (x2))), (3, .int (iI (x3)))]) hx hb dX6_rowFrom_1 hl (by decide) rfl (fun ls hl => ?_)
  refine lv_iconst (v := iI (0)) hx hb dX6_rowFrom_3 rfl ?_
  refine e_istore (lv' := [(5, .int (iI (0))), (4, .int (iI (x1))), (0, e_rv B (x0)), (1, .int (iI (x1))), (2, .int (iI (x2))), (3, .int (iI (x3)))]) hx hb dX6_rowFrom_4 hl (by decide) rfl (fun ls hl => ?_)
  exact w6_rowFrom_l6 E 1000000 hp hS (hl.sub [2, 4, 5, 1, 0] rfl) hsh
theorem ok6_addFold {S : HP} {x0 : Int} {x1 : Int} {x2 : Int} {r : Int × HP} (h : s6_addFold S x0 x1 x2 = some r) : 0 ≤ x0 ∧ x0.toNat < e_n S ∧ e_g S x0.toNat = 6 := (gd_some h).1
set_option maxRecDepth 100000 in
set_option maxHeartbeats 4000000 in
theorem w6_addFold_b15 {p : Program} {l : Launch} {e : Env} {s : State} {m : MethodId} {args : Array Value} {below : List Frame} {meth : Method} {c : Code} {D : va_G} {cA : Nat → ClassId} {B : Nat} {res : Int × HP} (E : e_En p s m args meth c cX6_addFold RX6 7 (some .boolean)) {ls : Array Slot} {H : Heap} {locs : List Loc} {S : HP} (hp : e_Pic D cA B S s H) (hS : va_S (e_A B) s.heap H locs) (hl : e_lo ls 7 []) (hsh : s6_addFold_b15 S  = some res) : W p l e ({ frames := 0, cells := 0, slots := 0, locals := 0 } : Room) s m args below meth c H locs 0 0 (MQ below (e_Qi D cA B res.1 res.2) args s 0 0 (e_A B)) (F0 m 15 ls []) := by
  obtain ⟨hx, hb, hml, hown, hts, hlk, hrt⟩ := id E
  unfold s6_addFold_b15 at hsh
  refine lv_iconst (v := iI (0)) hx hb dX6_addFold_15 rfl ?_
  obtain ⟨hz, hz1, hz2⟩ := zR_some hsh
  rw [← hz1, ← hz2]
  exact e_zret hx hb hrt hlk hp hS hz dX6_addFold_16
set_option maxRecDepth 100000 in
set_option maxHeartbeats 4000000 in
theorem w6_addFold_b122 {p : Program} {l : Launch} {e : Env} {s : State} {m : MethodId} {args : Array Value} {below : List Frame} {meth : Method} {c : Code} {D : va_G} {cA : Nat → ClassId} {B : Nat} {res : Int × HP} {k19 : HP → Int → Int → Int → Int → Option (Int × HP)} (hk19 : ∀ {ls : Array Slot} {H : Heap} {locs : List Loc} {S : HP} {x0 : Int} {x1 : Int} {x2 : Int} {x3 : Int} (hp : e_Pic D cA B S s H) (hS : va_S (e_A B) s.heap H locs) (hl : e_lo ls 7 [(0, e_rv B (x0)), (1, .int (iI (x1))), (2, .int (iI (x2))), (3, .int (iI (x3)))]) (hsh : k19 S x0 x1 x2 x3 = some res), W p l e ({ frames := 0, cells := 0, slots := 0, locals := 0 } : Room) s m args below meth c H locs 0 0 (MQ below (e_Qi D cA B res.1 res.2) args s 0 0 (e_A B)) (F0 m 19 ls [])) (E : e_En p s m args meth c cX6_addFold RX6 7 (some .boolean)) {ls : Array Slot} {H : Heap} {locs : List Loc} {S : HP} {x0 : Int} {x1 : Int} {x2 : Int} {x3 : Int} (hp : e_Pic D cA B S s H) (hS : va_S (e_A B) s.heap H locs) (hl : e_lo ls 7 [(0, e_rv B (x0)), (1, .int (iI (x1))), (2, .int (iI (x2))), (3, .int (iI (x3)))]) (hsh : s6_addFold_b122 k19 S x0 x1 x2 x3 = some res) : W p l e ({ frames := 0, cells := 0, slots := 0, locals := 0 } : Room) s m args below meth c H locs 0 0 (MQ below (e_Qi D cA B res.1 res.2) args s 0 0 (e_A B)) (F0 m 122 ls []) := by
  obtain ⟨hx, hb, hml, hown, hts, hlk, hrt⟩ := id E
  unfold s6_addFold_b122 at hsh
  refine e_iinc (n := 1) (x := x3) (lv' := [(3, .int (iI ((x3 + 1)))), (0, e_rv B (x0)), (1, .int (iI (x1))), (2, .int (iI (x2)))]) hx hb dX6_addFold_122 hl (k := 3) rfl (by decide) rfl (fun ls hl => ?_)
  refine lv_goto (tgt := 19) hx hb dX6_addFold_125 (by decide) ?_
  exact hk19 hp hS (hl.sub [1, 2, 3, 0] rfl) hsh
set_option maxRecDepth 100000 in
set_option maxHeartbeats 4000000 in
theorem w6_addFold_b106 {p : Program} {l : Launch} {e : Env} {s : State} {m : MethodId} {args : Array Value} {below : List Frame} {meth : Method} {c : Code} {D : va_G} {cA : Nat → ClassId} {B : Nat} {res : Int × HP} {k19 : HP → Int → Int → Int → Int → Option (Int × HP)} (hk19 : ∀ {ls : Array Slot} {H : Heap} {locs : List Loc} {S : HP} {x0 : Int} {x1 : Int} {x2 : Int} {x3 : Int} (hp : e_Pic D cA B S s H) (hS : va_S (e_A B) s.heap H locs) (hl : e_lo ls 7 [(0, e_rv B (x0)), (1, .int (iI (x1))), (2, .int (iI (x2))), (3, .int (iI (x3)))]) (hsh : k19 S x0 x1 x2 x3 = some res), W p l e ({ frames := 0, cells := 0, slots := 0, locals := 0 } : Room) s m args below meth c H locs 0 0 (MQ below (e_Qi D cA B res.1 res.2) args s 0 0 (e_A B)) (F0 m 19 ls [])) (E : e_En p s m args meth c cX6_addFold RX6 7 (some .boolean)) {ls : Array Slot} {H : Heap} {locs : List Loc} {S : HP} {x0 : Int} {x1 : Int} {x2 : Int} {x3 : Int} {x4 : Int} {x5 : Int} {y0 : Int} (hp : e_Pic D cA B S s H) (hS : va_S (e_A B) s.heap H locs) (hl : e_lo ls 7 [(0, e_rv B (x0)), (1, .int (iI (x1))), (2, .int (iI (x2))), (3, .int (iI (x3))), (4, .int (iI (x4))), (5, .int (iI (x5)))]) (hsh : s6_addFold_b106 k19 S x0 x1 x2 x3 x4 x5 y0 = some res) : W p l e ({ frames := 0, cells := 0, slots := 0, locals := 0 } : Room) s m args below meth c H locs 0 0 (MQ below (e_Qi D cA B res.1 res.2) args s 0 0 (e_A B)) (F0 m 106 ls [.int (iI (y0))]) := by
  obtain ⟨hx, hb, hml, hown, hts, hlk, hrt⟩ := id E
  unfold s6_addFold_b106 at hsh
  refine e_istore (lv' := [(6, .int (iI (y0))), (0, e_rv B (x0)), (1, .int (iI (x1))), (2, .int (iI (x2))), (3, .int (iI (x3))), (4, .int (iI (x4))), (5, .int (iI (x5)))]) hx hb dX6_addFold_106 hl (by decide) rfl (fun ls hl => ?_)
  refine lv_iload hx hb dX6_addFold_108 (hl.at 5 rfl) ?_
  refine e_if_ne (tgt := 122) hx hb dX6_addFold_110 (by decide) (fun c110 => ?_) (fun c110 => ?_)
  · rw [if_neg c110] at hsh
    exact w6_addFold_b122 (hk19 := hk19) E hp hS (hl.sub [1, 2, 3, 4] rfl) hsh
  · rw [if_pos c110] at hsh
    refine lv_iload hx hb dX6_addFold_113 (hl.at 6 rfl) ?_
    refine lv_iload hx hb dX6_addFold_115 (hl.at 0 rfl) ?_
    refine e_icmp_ne (tgt := 122) hx hb dX6_addFold_117 (by decide) (fun c117 => ?_) (fun c117 => ?_)
    · rw [if_neg c117] at hsh
      exact w6_addFold_b122 (hk19 := hk19) E hp hS (hl.sub [1, 2, 3, 4] rfl) hsh
    · rw [if_pos c117] at hsh
      refine lv_iconst (v := iI (0)) hx hb dX6_addFold_120 rfl ?_
      obtain ⟨hz, hz1, hz2⟩ := zR_some hsh
      rw [← hz1, ← hz2]
      exact e_zret hx hb hrt hlk hp hS hz dX6_addFold_121
set_option maxRecDepth 100000 in
set_option maxHeartbeats 4000000 in
theorem w6_addFold_b105 {p : Program} {l : Launch} {e : Env} {s : State} {m : MethodId} {args : Array Value} {below : List Frame} {meth : Method} {c : Code} {D : va_G} {cA : Nat → ClassId} {B : Nat} {res : Int × HP} {k19 : HP → Int → Int → Int → Int → Option (Int × HP)} (hk19 : ∀ {ls : Array Slot} {H : Heap} {locs : List Loc} {S : HP} {x0 : Int} {x1 : Int} {x2 : Int} {x3 : Int} (hp : e_Pic D cA B S s H) (hS : va_S (e_A B) s.heap H locs) (hl : e_lo ls 7 [(0, e_rv B (x0)), (1, .int (iI (x1))), (2, .int (iI (x2))), (3, .int (iI (x3)))]) (hsh : k19 S x0 x1 x2 x3 = some res), W p l e ({ frames := 0, cells := 0, slots := 0, locals := 0 } : Room) s m args below meth c H locs 0 0 (MQ below (e_Qi D cA B res.1 res.2) args s 0 0 (e_A B)) (F0 m 19 ls [])) (E : e_En p s m args meth c cX6_addFold RX6 7 (some .boolean)) {ls : Array Slot} {H : Heap} {locs : List Loc} {S : HP} {x0 : Int} {x1 : Int} {x2 : Int} {x3 : Int} {x4 : Int} {x5 : Int} (hp : e_Pic D cA B S s H) (hS : va_S (e_A B) s.heap H locs) (hl : e_lo ls 7 [(0, e_rv B (x0)), (1, .int (iI (x1))), (2, .int (iI (x2))), (3, .int (iI (x3))), (4, .int (iI (x4))), (5, .int (iI (x5)))]) (hsh : s6_addFold_b105 k19 S x0 x1 x2 x3 x4 x5 = some res) : W p l e ({ frames := 0, cells := 0, slots := 0, locals := 0 } : Room) s m args below meth c H locs 0 0 (MQ below (e_Qi D cA B res.1 res.2) args s 0 0 (e_A B)) (F0 m 105 ls []) := by
  obtain ⟨hx, hb, hml, hown, hts, hlk, hrt⟩ := id E
  unfold s6_addFold_b105 at hsh
  refine lv_iconst (v := iI (0)) hx hb dX6_addFold_105 rfl ?_
  exact w6_addFold_b106 (hk19 := hk19) E hp hS (hl.sub [0, 1, 2, 3, 4, 5] rfl) hsh
set_option maxRecDepth 100000 in
set_option maxHeartbeats 4000000 in
theorem w6_addFold_b79 {p : Program} {l : Launch} {e : Env} {s : State} {m : MethodId} {args : Array Value} {below : List Frame} {meth : Method} {c : Code} {D : va_G} {cA : Nat → ClassId} {B : Nat} {res : Int × HP} {k19 : HP → Int → Int → Int → Int → Option (Int × HP)} (hk19 : ∀ {ls : Array Slot} {H : Heap} {locs : List Loc} {S : HP} {x0 : Int} {x1 : Int} {x2 : Int} {x3 : Int} (hp : e_Pic D cA B S s H) (hS : va_S (e_A B) s.heap H locs) (hl : e_lo ls 7 [(0, e_rv B (x0)), (1, .int (iI (x1))), (2, .int (iI (x2))), (3, .int (iI (x3)))]) (hsh : k19 S x0 x1 x2 x3 = some res), W p l e ({ frames := 0, cells := 0, slots := 0, locals := 0 } : Room) s m args below meth c H locs 0 0 (MQ below (e_Qi D cA B res.1 res.2) args s 0 0 (e_A B)) (F0 m 19 ls [])) (E : e_En p s m args meth c cX6_addFold RX6 7 (some .boolean)) {ls : Array Slot} {H : Heap} {locs : List Loc} {S : HP} {x0 : Int} {x1 : Int} {x2 : Int} {x3 : Int} {x4 : Int} {y0 : Int} (hp : e_Pic D cA B S s H) (hS : va_S (e_A B) s.heap H locs) (hl : e_lo ls 7 [(0, e_rv B (x0)), (1, .int (iI (x1))), (2, .int (iI (x2))), (3, .int (iI (x3))), (4, .int (iI (x4)))]) (hsh : s6_addFold_b79 k19 S x0 x1 x2 x3 x4 y0 = some res) : W p l e ({ frames := 0, cells := 0, slots := 0, locals := 0 } : Room) s m args below meth c H locs 0 0 (MQ below (e_Qi D cA B res.1 res.2) args s 0 0 (e_A B)) (F0 m 79 ls [.int (iI (y0))]) := by
  obtain ⟨hx, hb, hml, hown, hts, hlk, hrt⟩ := id E
  unfold s6_addFold_b79 at hsh
  refine e_istore (lv' := [(5, .int (iI (y0))), (0, e_rv B (x0)), (1, .int (iI (x1))), (2, .int (iI (x2))), (3, .int (iI (x3))), (4, .int (iI (x4)))]) hx hb dX6_addFold_79 hl (by decide) rfl (fun ls hl => ?_)
  refine lv_iload_n hx hb dX6_addFold_81 rfl (hl.at 2 rfl) ?_
  refine e_aload_n (B := B) (x := x0) hx hb dX6_addFold_82 rfl (hl.at 1 rfl) ?_
  obtain ⟨v83, h83, hsh⟩ := Option.bind_eq_some_iff.mp hsh
  refine e_getR (k := 12) hx hb hts in_X6 hown hp h83 rfl (by decide) (by decide) rfl (hts _ kf6_49) rfl dX6_addFold_83 ?_
  refine lv_iload_n hx hb dX6_addFold_86 rfl (hl.at 4 rfl) ?_
  obtain ⟨v87, h87, hsh⟩ := Option.bind_eq_some_iff.mp hsh
  refine e_iald hx hb hp h87 dX6_addFold_87 ?_
  refine e_icmp_gt (tgt := 105) hx hb dX6_addFold_88 (by decide) (fun c88 => ?_) (fun c88 => ?_)
  · rw [if_pos c88] at hsh
    exact w6_addFold_b105 (hk19 := hk19) E hp hS (hl.sub [1, 2, 3, 4, 5, 0] rfl) hsh
  · rw [if_neg c88] at hsh
    refine e_aload_n (B := B) (x := x0) hx hb dX6_addFold_91 rfl (hl.at 1 rfl) ?_
    obtain ⟨v92, h92, hsh⟩ := Option.bind_eq_some_iff.mp hsh
    refine e_getR (k := 13) hx hb hts in_X6 hown hp h92 rfl (by decide) (by decide) rfl (hts _ kf6_52) rfl dX6_addFold_92 ?_
    refine lv_iload_n hx hb dX6_addFold_95 rfl (hl.at 4 rfl) ?_
    obtain ⟨v96, h96, hsh⟩ := Option.bind_eq_some_iff.mp hsh
    refine e_iald hx hb hp h96 dX6_addFold_96 ?_
    refine lv_iload_n hx hb dX6_addFold_97 rfl (hl.at 3 rfl) ?_
    refine e_icmp_gt (tgt := 105) hx hb dX6_addFold_98 (by decide) (fun c98 => ?_) (fun c98 => ?_)
    · rw [if_pos c98] at hsh
      exact w6_addFold_b105 (hk19 := hk19) E hp hS (hl.sub [1, 2, 3, 4, 5, 0] rfl) hsh
    · rw [if_neg c98] at hsh
      refine lv_iconst (v := iI (1)) hx hb dX6_addFold_101 rfl ?_
      refine lv_goto (tgt := 106) hx hb dX6_addFold_102 (by decide) ?_
      exact w6_addFold_b106 (hk19 := hk19) E hp hS (hl.sub [1, 2, 3, 4, 5, 0] rfl) hsh
set_option maxRecDepth 100000 in
set_option maxHeartbeats 4000000 in
theorem w6_addFold_b78 {p : Program} {l : Launch} {e : Env} {s : State} {m : MethodId} {args : Array Value} {below : List Frame} {meth : Method} {c : Code} {D : va_G} {cA : Nat → ClassId} {B : Nat} {res : Int × HP} {k19 : HP → Int → Int → Int → Int → Option (Int × HP)} (hk19 : ∀ {ls : Array Slot} {H : Heap} {locs : List Loc} {S : HP} {x0 : Int} {x1 : Int} {x2 : Int} {x3 : Int} (hp : e_Pic D cA B S s H) (hS : va_S (e_A B) s.heap H locs) (hl : e_lo ls 7 [(0, e_rv B (x0)), (1, .int (iI (x1))), (2, .int (iI (x2))), (3, .int (iI (x3)))]) (hsh : k19 S x0 x1 x2 x3 = some res), W p l e ({ frames := 0, cells := 0, slots := 0, locals := 0 } : Room) s m args below meth c H locs 0 0 (MQ below (e_Qi D cA B res.1 res.2) args s 0 0 (e_A B)) (F0 m 19 ls [])) (E : e_En p s m args meth c cX6_addFold RX6 7 (some .boolean)) {ls : Array Slot} {H : Heap} {locs : List Loc} {S : HP} {x0 : Int} {x1 : Int} {x2 : Int} {x3 : Int} {x4 : Int} (hp : e_Pic D cA B S s H) (hS : va_S (e_A B) s.heap H locs) (hl : e_lo ls 7 [(0, e_rv B (x0)), (1, .int (iI (x1))), (2, .int (iI (x2))), (3, .int (iI (x3))), (4, .int (iI (x4)))]) (hsh : s6_addFold_b78 k19 S x0 x1 x2 x3 x4 = some res) : W p l e ({ frames := 0, cells := 0, slots := 0, locals := 0 } : Room) s m args below meth c H locs 0 0 (MQ below (e_Qi D cA B res.1 res.2) args s 0 0 (e_A B)) (F0 m 78 ls []) := by
  obtain ⟨hx, hb, hml, hown, hts, hlk, hrt⟩ := id E
  unfold s6_addFold_b78 at hsh
  refine lv_iconst (v := iI (0)) hx hb dX6_addFold_78 rfl ?_
  exact w6_addFold_b79 (hk19 := hk19) E hp hS (hl.sub [0, 1, 2, 3, 4] rfl) hsh
set_option maxRecDepth 100000 in
set_option maxHeartbeats 4000000 in
theorem w6_addFold_b52 {p : Program} {l : Launch} {e : Env} {s : State} {m : MethodId} {args : Array Value} {below : List Frame} {meth : Method} {c : Code} {D : va_G} {cA : Nat → ClassId} {B : Nat} {res : Int × HP} {k19 : HP → Int → Int → Int → Int → Option (Int × HP)} (hk19 : ∀ {ls : Array Slot} {H : Heap} {locs : List Loc} {S : HP} {x0 : Int} {x1 : Int} {x2 : Int} {x3 : Int} (hp : e_Pic D cA B S s H) (hS : va_S (e_A B) s.heap H locs) (hl : e_lo ls 7 [(0, e_rv B (x0)), (1, .int (iI (x1))), (2, .int (iI (x2))), (3, .int (iI (x3)))]) (hsh : k19 S x0 x1 x2 x3 = some res), W p l e ({ frames := 0, cells := 0, slots := 0, locals := 0 } : Room) s m args below meth c H locs 0 0 (MQ below (e_Qi D cA B res.1 res.2) args s 0 0 (e_A B)) (F0 m 19 ls [])) (E : e_En p s m args meth c cX6_addFold RX6 7 (some .boolean)) {ls : Array Slot} {H : Heap} {locs : List Loc} {S : HP} {x0 : Int} {x1 : Int} {x2 : Int} {x3 : Int} {y0 : Int} (hp : e_Pic D cA B S s H) (hS : va_S (e_A B) s.heap H locs) (hl : e_lo ls 7 [(0, e_rv B (x0)), (1, .int (iI (x1))), (2, .int (iI (x2))), (3, .int (iI (x3)))]) (hsh : s6_addFold_b52 k19 S x0 x1 x2 x3 y0 = some res) : W p l e ({ frames := 0, cells := 0, slots := 0, locals := 0 } : Room) s m args below meth c H locs 0 0 (MQ below (e_Qi D cA B res.1 res.2) args s 0 0 (e_A B)) (F0 m 52 ls [.int (iI (y0))]) := by
  obtain ⟨hx, hb, hml, hown, hts, hlk, hrt⟩ := id E
  unfold s6_addFold_b52 at hsh
  refine e_istore (lv' := [(4, .int (iI (y0))), (0, e_rv B (x0)), (1, .int (iI (x1))), (2, .int (iI (x2))), (3, .int (iI (x3)))]) hx hb dX6_addFold_52 hl (by decide) rfl (fun ls hl => ?_)
  refine e_aload_n (B := B) (x := x0) hx hb dX6_addFold_54 rfl (hl.at 1 rfl) ?_
  obtain ⟨v55, h55, hsh⟩ := Option.bind_eq_some_iff.mp hsh
  refine e_getR (k := 12) hx hb hts in_X6 hown hp h55 rfl (by decide) (by decide) rfl (hts _ kf6_49) rfl dX6_addFold_55 ?_
  refine lv_iload_n hx hb dX6_addFold_58 rfl (hl.at 4 rfl) ?_
  obtain ⟨v59, h59, hsh⟩ := Option.bind_eq_some_iff.mp hsh
  refine e_iald hx hb hp h59 dX6_addFold_59 ?_
  refine lv_iload_n hx hb dX6_addFold_60 rfl (hl.at 2 rfl) ?_
  refine e_icmp_gt (tgt := 78) hx hb dX6_addFold_61 (by decide) (fun c61 => ?_) (fun c61 => ?_)
  · rw [if_pos c61] at hsh
    exact w6_addFold_b78 (hk19 := hk19) E hp hS (hl.sub [1, 2, 3, 4, 0] rfl) hsh
  · rw [if_neg c61] at hsh
    refine lv_iload_n hx hb dX6_addFold_64 rfl (hl.at 3 rfl) ?_
    refine e_aload_n (B := B) (x := x0) hx hb dX6_addFold_65 rfl (hl.at 1 rfl) ?_
    obtain ⟨v66, h66, hsh⟩ := Option.bind_eq_some_iff.mp hsh
    refine e_getR (k := 13) hx hb hts in_X6 hown hp h66 rfl (by decide) (by decide) rfl (hts _ kf6_52) rfl dX6_addFold_66 ?_
    refine lv_iload_n hx hb dX6_addFold_69 rfl (hl.at 4 rfl) ?_
    obtain ⟨v70, h70, hsh⟩ := Option.bind_eq_some_iff.mp hsh
    refine e_iald hx hb hp h70 dX6_addFold_70 ?_
    refine e_icmp_gt (tgt := 78) hx hb dX6_addFold_71 (by decide) (fun c71 => ?_) (fun c71 => ?_)
    · rw [if_pos c71] at hsh
      exact w6_addFold_b78 (hk19 := hk19) E hp hS (hl.sub [1, 2, 3, 4, 0] rfl) hsh
    · rw [if_neg c71] at hsh
      refine lv_iconst (v := iI (1)) hx hb dX6_addFold_74 rfl ?_
      refine lv_goto (tgt := 79) hx hb dX6_addFold_75 (by decide) ?_
      exact w6_addFold_b79 (hk19 := hk19) E hp hS (hl.sub [1, 2, 3, 4, 0] rfl) hsh
set_option maxRecDepth 100000 in
set_option maxHeartbeats 4000000 in
theorem w6_addFold_b47 {p : Program} {l : Launch} {e : Env} {s : State} {m : MethodId} {args : Array Value} {below : List Frame} {meth : Method} {c : Code} {D : va_G} {cA : Nat → ClassId} {B : Nat} {res : Int × HP} {k19 : HP → Int → Int → Int → Int → Option (Int × HP)} (hk19 : ∀ {ls : Array Slot} {H : Heap} {locs : List Loc} {S : HP} {x0 : Int} {x1 : Int} {x2 : Int} {x3 : Int} (hp : e_Pic D cA B S s H) (hS : va_S (e_A B) s.heap H locs) (hl : e_lo ls 7 [(0, e_rv B (x0)), (1, .int (iI (x1))), (2, .int (iI (x2))), (3, .int (iI (x3)))]) (hsh : k19 S x0 x1 x2 x3 = some res), W p l e ({ frames := 0, cells := 0, slots := 0, locals := 0 } : Room) s m args below meth c H locs 0 0 (MQ below (e_Qi D cA B res.1 res.2) args s 0 0 (e_A B)) (F0 m 19 ls [])) (E : e_En p s m args meth c cX6_addFold RX6 7 (some .boolean)) {ls : Array Slot} {H : Heap} {locs : List Loc} {S : HP} {x0 : Int} {x1 : Int} {x2 : Int} {x3 : Int} (hp : e_Pic D cA B S s H) (hS : va_S (e_A B) s.heap H locs) (hl : e_lo ls 7 [(0, e_rv B (x0)), (1, .int (iI (x1))), (2, .int (iI (x2))), (3, .int (iI (x3)))]) (hsh : s6_addFold_b47 k19 S x0 x1 x2 x3 = some res) : W p l e ({ frames := 0, cells := 0, slots := 0, locals := 0 } : Room) s m args below meth c H locs 0 0 (MQ below (e_Qi D cA B res.1 res.2) args s 0 0 (e_A B)) (F0 m 47 ls []) := by
  obtain ⟨hx, hb, hml, hown, hts, hlk, hrt⟩ := id E
  unfold s6_addFold_b47 at hsh
  refine lv_iconst (v := iI (1)) hx hb dX6_addFold_47 rfl ?_
  refine lv_goto (tgt := 52) hx hb dX6_addFold_48 (by decide) ?_
  exact w6_addFold_b52 (hk19 := hk19) E hp hS (hl.sub [0, 1, 2, 3] rfl) hsh
set_option maxRecDepth 100000 in
set_option maxHeartbeats 4000000 in
theorem w6_addFold_l19 {p : Program} {l : Launch} {e : Env} {s : State} {m : MethodId} {args : Array Value} {below : List Frame} {meth : Method} {c : Code} {D : va_G} {cA : Nat → ClassId} {B : Nat} {res : Int × HP} (E : e_En p s m args meth c cX6_addFold RX6 7 (some .boolean)) : ∀ (f : Nat) {ls : Array Slot} {H : Heap} {locs : List Loc} {S : HP} {x0 : Int} {x1 : Int} {x2 : Int} {x3 : Int} (hp : e_Pic D cA B S s H) (hS : va_S (e_A B) s.heap H locs) (hl : e_lo ls 7 [(0, e_rv B (x0)), (1, .int (iI (x1))), (2, .int (iI (x2))), (3, .int (iI (x3)))]) (hsh : s6_addFold_l19 f S x0 x1 x2 x3 = some res), W p l e ({ frames := 0, cells := 0, slots := 0, locals := 0 } : Room) s m args below meth c H locs 0 0 (MQ below (e_Qi D cA B res.1 res.2) args s 0 0 (e_A B)) (F0 m 19 ls []) := by
  obtain ⟨hx, hb, hml, hown, hts, hlk, hrt⟩ := id E
  intro f
  induction f with
  | zero => intro ls H locs S x0 x1 x2 x3 hp hS hl hsh; cases hsh
  | succ f ih =>
    intro ls H locs S x0 x1 x2 x3 hp hS hl hsh
    have hk19 : ∀ {ls : Array Slot} {H : Heap} {locs : List Loc} {S : HP} {x0 : Int} {x1 : Int} {x2 : Int} {x3 : Int} (hp : e_Pic D cA B S s H) (hS : va_S (e_A B) s.heap H locs) (hl : e_lo ls 7 [(0, e_rv B (x0)), (1, .int (iI (x1))), (2, .int (iI (x2))), (3, .int (iI (x3)))]) (hsh : (s6_addFold_l19 f) S x0 x1 x2 x3 = some res), W p l e ({ frames := 0, cells := 0, slots := 0, locals := 0 } : Room) s m args below meth c H locs 0 0 (MQ below (e_Qi D cA B res.1 res.2) args s 0 0 (e_A B)) (F0 m 19 ls []) := ih
    generalize hkk : s6_addFold_l19 f = k19 at hk19
    rw [s6_addFold_l19] at hsh
    rw [hkk] at hsh
    try dsimp only at hsh
    refine lv_iload_n hx hb dX6_addFold_19 rfl (hl.at 3 rfl) ?_
    refine e_aload_n (B := B) (x := x0) hx hb dX6_addFold_20 rfl (hl.at 0 rfl) ?_
    obtain ⟨v21, h21, hsh⟩ := Option.bind_eq_some_iff.mp hsh
    refine e_getI (k := 15) hx hb hts in_X6 hown hp h21 rfl (by decide) (by decide) rfl (hts _ kf6_59) rfl dX6_addFold_21 ?_
    refine e_icmp_ge (tgt := 128) hx hb dX6_addFold_24 (by decide) (fun c24 => ?_) (fun c24 => ?_)
    · rw [if_pos c24] at hsh
      refine e_aload_n (B := B) (x := x0) hx hb dX6_addFold_128 rfl (hl.at 0 rfl) ?_
      obtain ⟨v129, h129, hsh⟩ := Option.bind_eq_some_iff.mp hsh
      refine e_getR (k := 12) hx hb hts in_X6 hown hp h129 rfl (by decide) (by decide) rfl (hts _ kf6_49) rfl dX6_addFold_129 ?_
      refine e_aload_n (B := B) (x := x0) hx hb dX6_addFold_132 rfl (hl.at 0 rfl) ?_
      obtain ⟨v133, h133, hsh⟩ := Option.bind_eq_some_iff.mp hsh
      refine e_getI (k := 15) hx hb hts in_X6 hown hp h133 rfl (by decide) (by decide) rfl (hts _ kf6_59) rfl dX6_addFold_133 ?_
      refine lv_iload_n hx hb dX6_addFold_136 rfl (hl.at 1 rfl) ?_
      obtain ⟨S137, h137, hsh⟩ := Option.bind_eq_some_iff.mp hsh
      refine e_iast hx hb hp hS h137 dX6_addFold_137 (fun H locs hp hS => ?_)
      refine e_aload_n (B := B) (x := x0) hx hb dX6_addFold_138 rfl (hl.at 0 rfl) ?_
      obtain ⟨v139, h139, hsh⟩ := Option.bind_eq_some_iff.mp hsh
      refine e_getR (k := 13) hx hb hts in_X6 hown hp h139 rfl (by decide) (by decide) rfl (hts _ kf6_52) rfl dX6_addFold_139 ?_
      refine e_aload_n (B := B) (x := x0) hx hb dX6_addFold_142 rfl (hl.at 0 rfl) ?_
      obtain ⟨v143, h143, hsh⟩ := Option.bind_eq_some_iff.mp hsh
      refine e_getI (k := 15) hx hb hts in_X6 hown hp h143 rfl (by decide) (by decide) rfl (hts _ kf6_59) rfl dX6_addFold_143 ?_
      refine lv_iload_n hx hb dX6_addFold_146 rfl (hl.at 2 rfl) ?_
      obtain ⟨S147, h147, hsh⟩ := Option.bind_eq_some_iff.mp hsh
      refine e_iast hx hb hp hS h147 dX6_addFold_147 (fun H locs hp hS => ?_)
      refine e_aload_n (B := B) (x := x0) hx hb dX6_addFold_148 rfl (hl.at 0 rfl) ?_
      obtain ⟨v149, h149, hsh⟩ := Option.bind_eq_some_iff.mp hsh
      refine e_getR (k := 14) hx hb hts in_X6 hown hp h149 rfl (by decide) (by decide) rfl (hts _ kf6_55) rfl dX6_addFold_149 ?_
      refine e_aload_n (B := B) (x := x0) hx hb dX6_addFold_152 rfl (hl.at 0 rfl) ?_
      obtain ⟨v153, h153, hsh⟩ := Option.bind_eq_some_iff.mp hsh
      refine e_getI (k := 15) hx hb hts in_X6 hown hp h153 rfl (by decide) (by decide) rfl (hts _ kf6_59) rfl dX6_addFold_153 ?_
      refine lv_iconst (v := iI (1)) hx hb dX6_addFold_156 rfl ?_
      obtain ⟨S157, h157, hsh⟩ := Option.bind_eq_some_iff.mp hsh
      refine e_bast hx hb hp hS h157 dX6_addFold_157 (fun H locs hp hS => ?_)
      refine e_aload_n (B := B) (x := x0) hx hb dX6_addFold_158 rfl (hl.at 0 rfl) ?_
      refine lv_dup hx hb dX6_addFold_159 (e_rv_cat _ _) ?_
      obtain ⟨v160, h160, hsh⟩ := Option.bind_eq_some_iff.mp hsh
      refine e_getI (k := 15) hx hb hts in_X6 hown hp h160 rfl (by decide) (by decide) rfl (hts _ kf6_59) rfl dX6_addFold_160 ?_
      refine lv_iconst (v := iI (1)) hx hb dX6_addFold_163 rfl ?_
      refine e_iadd hx hb dX6_addFold_164 ?_
      obtain ⟨S165, h165, hsh⟩ := Option.bind_eq_some_iff.mp hsh
      refine e_putI (k := 15) hx hb hts in_X6 tyX6 tyX6_ok nmX6 hown hp hS h165 rfl (by decide) (by decide) rfl (hts _ kf6_59) rfl rfl (by decide +kernel) dX6_addFold_165 (fun H locs hp hS => ?_)
      refine lv_iconst (v := iI (1)) hx hb dX6_addFold_168 rfl ?_
      obtain ⟨hz, hz1, hz2⟩ := zR_some hsh
      rw [← hz1, ← hz2]
      exact e_zret hx hb hrt hlk hp hS hz dX6_addFold_169
    · rw [if_neg c24] at hsh
      refine lv_iload_n hx hb dX6_addFold_27 rfl (hl.at 2 rfl) ?_
      refine e_aload_n (B := B) (x := x0) hx hb dX6_addFold_28 rfl (hl.at 0 rfl) ?_
      obtain ⟨v29, h29, hsh⟩ := Option.bind_eq_some_iff.mp hsh
      refine e_getR (k := 12) hx hb hts in_X6 hown hp h29 rfl (by decide) (by decide) rfl (hts _ kf6_49) rfl dX6_addFold_29 ?_
      refine lv_iload_n hx hb dX6_addFold_32 rfl (hl.at 3 rfl) ?_
      obtain ⟨v33, h33, hsh⟩ := Option.bind_eq_some_iff.mp hsh
      refine e_iald hx hb hp h33 dX6_addFold_33 ?_
      refine e_icmp_lt (tgt := 47) hx hb dX6_addFold_34 (by decide) (fun c34 => ?_) (fun c34 => ?_)
      · rw [if_pos c34] at hsh
        exact w6_addFold_b47 (hk19 := hk19) E hp hS (hl.sub [0, 1, 2, 3] rfl) hsh
      · rw [if_neg c34] at hsh
        refine e_aload_n (B := B) (x := x0) hx hb dX6_addFold_37 rfl (hl.at 0 rfl) ?_
        obtain ⟨v38, h38, hsh⟩ := Option.bind_eq_some_iff.mp hsh
        refine e_getR (k := 13) hx hb hts in_X6 hown hp h38 rfl (by decide) (by decide) rfl (hts _ kf6_52) rfl dX6_addFold_38 ?_
        refine lv_iload_n hx hb dX6_addFold_41 rfl (hl.at 3 rfl) ?_
        obtain ⟨v42, h42, hsh⟩ := Option.bind_eq_some_iff.mp hsh
        refine e_iald hx hb hp h42 dX6_addFold_42 ?_
        refine lv_iload_n hx hb dX6_addFold_43 rfl (hl.at 1 rfl) ?_
        refine e_icmp_ge (tgt := 51) hx hb dX6_addFold_44 (by decide) (fun c44 => ?_) (fun c44 => ?_)
        · rw [if_pos c44] at hsh
          refine lv_iconst (v := iI (0)) hx hb dX6_addFold_51 rfl ?_
          exact w6_addFold_b52 (hk19 := hk19) E hp hS (hl.sub [0, 1, 2, 3] rfl) hsh
        · rw [if_neg c44] at hsh
          exact w6_addFold_b47 (hk19 := hk19) E hp hS (hl.sub [0, 1, 2, 3] rfl) hsh
set_option maxRecDepth 100000 in
set_option maxHeartbeats 4000000 in
theorem c6_addFold (l : Launch) (D : va_G) (cA : Nat → ClassId) (B : Nat) (S S' : HP) (x0 : Int) (x1 : Int) (x2 : Int) (r : Int) (hsh : s6_addFold S x0 x1 x2 = some (r, S')) : Met l yX6_addFold (e_wu yX6_addFold cX6_addFold 7 (some .boolean)) ({ frames := 0, cells := 0, slots := 0, locals := 0 } : Room) (va_Pc [e_rv B (x0), .int (iI (x1)), .int (iI (x2))] (fun U => e_PU D cA B S U)) (e_Qi D cA B r S') 0 0 (e_A B) := by
  refine Met.ofW (cc := cX6_addFold) (maxL := 7) (ret := (some .boolean)) (by decide +kernel) rfl ?_
  intro p e s m args below meth c s₁ Bd hml hv
  obtain ⟨rfl, hp⟩ := hv
  have hp : e_Pic D cA B S s s.heap := hp
  have hx := Bd.exec
  have hb := Bd.bytes
  have hrt := Bd.returns
  have hlk := Bd.notSynchronized
  have hown : s.vm.findClass RX6 = some m.cls := findClass_of_methodNamed Bd.named
  have hts : ∀ w ∈ e_tb, w.before ([e_rv B (x0), .int (iI (x1)), .int (iI (x2))] : List Value).toArray s = true := fun w h => atoms_spec (ws := (e_wu yX6_addFold cX6_addFold 7 (some .boolean))) Bd.pre w (List.mem_cons_of_mem _ h)
  have E : e_En p s m ([e_rv B (x0), .int (iI (x1)), .int (iI (x2))] : List Value).toArray meth c cX6_addFold RX6 7 (some .boolean) := ⟨hx, hb, hml, hown, hts, hlk, hrt⟩
  have hS : va_S (e_A B) s.heap s.heap [] := va_S.rf
  have hl := e_entry (vs := [e_rv B (x0), .int (iI (x1)), .int (iI (x2))]) (n := 7) (Nat.le_of_ble_eq_true rfl) (e_cc (e_rv_cat _ _) (e_cc rfl (e_cc rfl e_cn)))
  rw [lg_entry_eq]
  generalize (lg_sl [e_rv B (x0), .int (iI (x1)), .int (iI (x2))] ++ List.replicate (7 - (lg_sl [e_rv B (x0), .int (iI (x1)), .int (iI (x2))]).length) Slot.unset).toArray = ls at hl ⊢
  generalize ([e_rv B (x0), .int (iI (x1)), .int (iI (x2))] : List Value).toArray = args at hts E ⊢
  have hl : e_lo ls 7 [(0, e_rv B (x0)), (1, .int (iI (x1))), (2, .int (iI (x2)))] := hl
  have hsh := (gd_some hsh).2
  refine lv_iload_n hx hb dX6_addFold_0 rfl (hl.at 1 rfl) ?_
  refine lv_iload_n hx hb dX6_addFold_1 rfl (hl.at 2 rfl) ?_
  refine e_icmp_ge (tgt := 15) hx hb dX6_addFold_2 (by decide) (fun c2 => ?_) (fun c2 => ?_)
  · rw [if_pos c2] at hsh
    exact w6_addFold_b15 E hp hS (hl.sub [] rfl) hsh
  · rw [if_neg c2] at hsh
    refine e_aload_n (B := B) (x := x0) hx hb dX6_addFold_5 rfl (hl.at 0 rfl) ?_
    obtain ⟨v6, h6, hsh⟩ := Option.bind_eq_some_iff.mp hsh
    refine e_getI (k := 15) hx hb hts in_X6 hown hp h6 rfl (by decide) (by decide) rfl (hts _ kf6_59) rfl dX6_addFold_6 ?_
    refine lv_sipush (v := iI (700)) hx hb dX6_addFold_9 (by decide +kernel) ?_
    refine e_icmp_lt (tgt := 17) hx hb dX6_addFold_12 (by decide) (fun c12 => ?_) (fun c12 => ?_)
    · rw [if_pos c12] at hsh
      refine lv_iconst (v := iI (0)) hx hb dX6_addFold_17 rfl ?_
      refine e_istore_n (lv' := [(3, .int (iI (0))), (0, e_rv B (x0)), (1, .int (iI (x1))), (2, .int (iI (x2)))]) hx hb dX6_addFold_18 rfl hl (by decide) rfl (fun ls hl => ?_)
      exact w6_addFold_l19 E 1000000 hp hS (hl.sub [1, 2, 3, 0] rfl) hsh
    · rw [if_neg c12] at hsh
      exact w6_addFold_b15 E hp hS (hl.sub [] rfl) hsh
theorem ok6_innermost {S : HP} {x0 : Int} {x1 : Int} {x2 : Int} {r : Int × HP} (h : s6_innermost S x0 x1 x2 = some r) : 0 ≤ x0 ∧ x0.toNat < e_n S ∧ e_g S x0.toNat = 6 := (gd_some h).1
set_option maxRecDepth 100000 in
set_option maxHeartbeats 4000000 in
theorem w6_innermost_b129 {p : Program} {l : Launch} {e : Env} {s : State} {m : MethodId} {args : Array Value} {below : List Frame} {meth : Method} {c : Code} {D : va_G} {cA : Nat → ClassId} {B : Nat} {res : Int × HP} {k5 : HP → Int → Int → Int → Int → Int → Option (Int × HP)} (hk5 : ∀ {ls : Array Slot} {H : Heap} {locs : List Loc} {S : HP} {x0 : Int} {x1 : Int} {x2 : Int} {x3 : Int} {x4 : Int} (hp : e_Pic D cA B S s H) (hS : va_S (e_A B) s.heap H locs) (hl : e_lo ls 6 [(0, e_rv B (x0)), (1, .int (iI (x1))), (2, .int (iI (x2))), (3, .int (iI (x3))), (4, .int (iI (x4)))]) (hsh : k5 S x0 x1 x2 x3 x4 = some res), W p l e ({ frames := 0, cells := 0, slots := 0, locals := 0 } : Room) s m args below meth c H locs 0 0 (MQ below (e_Qi D cA B res.1 res.2) args s 0 0 (e_A B)) (F0 m 5 ls [])) (E : e_En p s m args meth c cX6_innermost RX6 6 (some .int)) {ls : Array Slot} {H : Heap} {locs : List Loc} {S : HP} {x0 : Int} {x1 : Int} {x2 : Int} {x3 : Int} {x4 : Int} (hp : e_Pic D cA B S s H) (hS : va_S (e_A B) s.heap H locs) (hl : e_lo ls 6 [(0, e_rv B (x0)), (1, .int (iI (x1))), (2, .int (iI (x2))), (3, .int (iI (x3))), (4, .int (iI (x4)))]) (hsh : s6_innermost_b129 k5 S x0 x1 x2 x3 x4 = some res) : W p l e ({ frames := 0, cells := 0, slots := 0, locals := 0 } : Room) s m args below meth c H locs 0 0 (MQ below (e_Qi D cA B res.1 res.2) args s 0 0 (e_A B)) (F0 m 129 ls []) := by
  obtain ⟨hx, hb, hml, hown, hts, hlk, hrt⟩ := id E
  unfold s6_innermost_b129 at hsh
  refine e_iinc (n := 1) (x := x4) (lv' := [(4, .int (iI ((x4 + 1)))), (0, e_rv B (x0)), (1, .int (iI (x1))), (2, .int (iI (x2))), (3, .int (iI (x3)))]) hx hb dX6_innermost_129 hl (k := 4) rfl (by decide) rfl (fun ls hl => ?_)
  refine lv_goto (tgt := 5) hx hb dX6_innermost_132 (by decide) ?_
  exact hk5 hp hS (hl.sub [1, 2, 3, 4, 0] rfl) hsh
set_option maxRecDepth 100000 in
set_option maxHeartbeats 4000000 in
theorem w6_innermost_b126 {p : Program} {l : Launch} {e : Env} {s : State} {m : MethodId} {args : Array Value} {below : List Frame} {meth : Method} {c : Code} {D : va_G} {cA : Nat → ClassId} {B : Nat} {res : Int × HP} {k5 : HP → Int → Int → Int → Int → Int → Option (Int × HP)} (hk5 : ∀ {ls : Array Slot} {H : Heap} {locs : List Loc} {S : HP} {x0 : Int} {x1 : Int} {x2 : Int} {x3 : Int} {x4 : Int} (hp : e_Pic D cA B S s H) (hS : va_S (e_A B) s.heap H locs) (hl : e_lo ls 6 [(0, e_rv B (x0)), (1, .int (iI (x1))), (2, .int (iI (x2))), (3, .int (iI (x3))), (4, .int (iI (x4)))]) (hsh : k5 S x0 x1 x2 x3 x4 = some res), W p l e ({ frames := 0, cells := 0, slots := 0, locals := 0 } : Room) s m args below meth c H locs 0 0 (MQ below (e_Qi D cA B res.1 res.2) args s 0 0 (e_A B)) (F0 m 5 ls [])) (E : e_En p s m args meth c cX6_innermost RX6 6 (some .int)) {ls : Array Slot} {H : Heap} {locs : List Loc} {S : HP} {x0 : Int} {x1 : Int} {x2 : Int} {x4 : Int} (hp : e_Pic D cA B S s H) (hS : va_S (e_A B) s.heap H locs) (hl : e_lo ls 6 [(0, e_rv B (x0)), (1, .int (iI (x1))), (2, .int (iI (x2))), (4, .int (iI (x4)))]) (hsh : s6_innermost_b126 k5 S x0 x1 x2 x4 = some res) : W p l e ({ frames := 0, cells := 0, slots := 0, locals := 0 } : Room) s m args below meth c H locs 0 0 (MQ below (e_Qi D cA B res.1 res.2) args s 0 0 (e_A B)) (F0 m 126 ls []) := by
  obtain ⟨hx, hb, hml, hown, hts, hlk, hrt⟩ := id E
  unfold s6_innermost_b126 at hsh
  refine lv_iload hx hb dX6_innermost_126 (hl.at 3 rfl) ?_
  refine e_istore_n (lv' := [(3, .int (iI (x4))), (0, e_rv B (x0)), (1, .int (iI (x1))), (2, .int (iI (x2))), (4, .int (iI (x4)))]) hx hb dX6_innermost_128 rfl hl (by decide) rfl (fun ls hl => ?_)
  exact w6_innermost_b129 (hk5 := hk5) E hp hS (hl.sub [1, 2, 3, 0, 4] rfl) hsh
set_option maxRecDepth 100000 in
set_option maxHeartbeats 4000000 in
theorem w6_innermost_b104 {p : Program} {l : Launch} {e : Env} {s : State} {m : MethodId} {args : Array Value} {below : List Frame} {meth : Method} {c : Code} {D : va_G} {cA : Nat → ClassId} {B : Nat} {res : Int × HP} {k5 : HP → Int → Int → Int → Int → Int → Option (Int × HP)} (hk5 : ∀ {ls : Array Slot} {H : Heap} {locs : List Loc} {S : HP} {x0 : Int} {x1 : Int} {x2 : Int} {x3 : Int} {x4 : Int} (hp : e_Pic D cA B S s H) (hS : va_S (e_A B) s.heap H locs) (hl : e_lo ls 6 [(0, e_rv B (x0)), (1, .int (iI (x1))), (2, .int (iI (x2))), (3, .int (iI (x3))), (4, .int (iI (x4)))]) (hsh : k5 S x0 x1 x2 x3 x4 = some res), W p l e ({ frames := 0, cells := 0, slots := 0, locals := 0 } : Room) s m args below meth c H locs 0 0 (MQ below (e_Qi D cA B res.1 res.2) args s 0 0 (e_A B)) (F0 m 5 ls [])) (E : e_En p s m args meth c cX6_innermost RX6 6 (some .int)) {ls : Array Slot} {H : Heap} {locs : List Loc} {S : HP} {x0 : Int} {x1 : Int} {x2 : Int} {x3 : Int} {x4 : Int} {y0 : Int} (hp : e_Pic D cA B S s H) (hS : va_S (e_A B) s.heap H locs) (hl : e_lo ls 6 [(0, e_rv B (x0)), (1, .int (iI (x1))), (2, .int (iI (x2))), (3, .int (iI (x3))), (4, .int (iI (x4)))]) (hsh : s6_innermost_b104 k5 S x0 x1 x2 x3 x4 y0 = some res) : W p l e ({ frames := 0, cells := 0, slots := 0, locals := 0 } : Room) s m args below meth c H locs 0 0 (MQ below (e_Qi D cA B res.1 res.2) args s 0 0 (e_A B)) (F0 m 104 ls [.int (iI (y0))]) := by
  obtain ⟨hx, hb, hml, hown, hts, hlk, hrt⟩ := id E
  unfold s6_innermost_b104 at hsh
  refine e_istore (lv' := [(5, .int (iI (y0))), (0, e_rv B (x0)), (1, .int (iI (x1))), (2, .int (iI (x2))), (3, .int (iI (x3))), (4, .int (iI (x4)))]) hx hb dX6_innermost_104 hl (by decide) rfl (fun ls hl => ?_)
  refine lv_iload hx hb dX6_innermost_106 (hl.at 0 rfl) ?_
  refine e_if_gt (tgt := 126) hx hb dX6_innermost_108 (by decide) (fun c108 => ?_) (fun c108 => ?_)
  · rw [if_pos c108] at hsh
    exact w6_innermost_b126 (hk5 := hk5) E hp hS (hl.sub [1, 2, 3, 5] rfl) hsh
  · rw [if_neg c108] at hsh
    refine lv_iload hx hb dX6_innermost_111 (hl.at 0 rfl) ?_
    refine e_if_ne (tgt := 129) hx hb dX6_innermost_113 (by decide) (fun c113 => ?_) (fun c113 => ?_)
    · rw [if_neg c113] at hsh
      exact w6_innermost_b129 (hk5 := hk5) E hp hS (hl.sub [1, 2, 3, 4, 5] rfl) hsh
    · rw [if_pos c113] at hsh
      refine e_aload_n (B := B) (x := x0) hx hb dX6_innermost_116 rfl (hl.at 1 rfl) ?_
      obtain ⟨v117, h117, hsh⟩ := Option.bind_eq_some_iff.mp hsh
      refine e_getR (k := 14) hx hb hts in_X6 hown hp h117 rfl (by decide) (by decide) rfl (hts _ kf6_55) rfl dX6_innermost_117 ?_
      refine lv_iload hx hb dX6_innermost_120 (hl.at 5 rfl) ?_
      obtain ⟨v122, h122, hsh⟩ := Option.bind_eq_some_iff.mp hsh
      refine e_bald hx hb hp h122 dX6_innermost_122 ?_
      refine e_if_eq (tgt := 129) hx hb dX6_innermost_123 (by decide) (fun c123 => ?_) (fun c123 => ?_)
      · rw [if_pos c123] at hsh
        exact w6_innermost_b129 (hk5 := hk5) E hp hS (hl.sub [1, 2, 3, 4, 5] rfl) hsh
      · rw [if_neg c123] at hsh
        exact w6_innermost_b126 (hk5 := hk5) E hp hS (hl.sub [1, 2, 3, 5] rfl) hsh
set_option maxRecDepth 100000 in
set_option maxHeartbeats 4000000 in
theorem w6_innermost_b66 {p : Program} {l : Launch} {e : Env} {s : State} {m : MethodId} {args : Array Value} {below : List Frame} {meth : Method} {c : Code} {D : va_G} {cA : Nat → ClassId} {B : Nat} {res : Int × HP} {k5 : HP → Int → Int → Int → Int → Int → Option (Int × HP)} (hk5 : ∀ {ls : Array Slot} {H : Heap} {locs : List Loc} {S : HP} {x0 : Int} {x1 : Int} {x2 : Int} {x3 : Int} {x4 : Int} (hp : e_Pic D cA B S s H) (hS : va_S (e_A B) s.heap H locs) (hl : e_lo ls 6 [(0, e_rv B (x0)), (1, .int (iI (x1))), (2, .int (iI (x2))), (3, .int (iI (x3))), (4, .int (iI (x4)))]) (hsh : k5 S x0 x1 x2 x3 x4 = some res), W p l e ({ frames := 0, cells := 0, slots := 0, locals := 0 } : Room) s m args below meth c H locs 0 0 (MQ below (e_Qi D cA B res.1 res.2) args s 0 0 (e_A B)) (F0 m 5 ls [])) (E : e_En p s m args meth c cX6_innermost RX6 6 (some .int)) {ls : Array Slot} {H : Heap} {locs : List Loc} {S : HP} {x0 : Int} {x1 : Int} {x2 : Int} {x3 : Int} {x4 : Int} (hp : e_Pic D cA B S s H) (hS : va_S (e_A B) s.heap H locs) (hl : e_lo ls 6 [(0, e_rv B (x0)), (1, .int (iI (x1))), (2, .int (iI (x2))), (3, .int (iI (x3))), (4, .int (iI (x4)))]) (hsh : s6_innermost_b66 k5 S x0 x1 x2 x3 x4 = some res) : W p l e ({ frames := 0, cells := 0, slots := 0, locals := 0 } : Room) s m args below meth c H locs 0 0 (MQ below (e_Qi D cA B res.1 res.2) args s 0 0 (e_A B)) (F0 m 66 ls []) := by
  obtain ⟨hx, hb, hml, hown, hts, hlk, hrt⟩ := id E
  unfold s6_innermost_b66 at hsh
  refine lv_iload_n hx hb dX6_innermost_66 rfl (hl.at 3 rfl) ?_
  refine lv_iconst (v := iI (-1)) hx hb dX6_innermost_67 rfl ?_
  refine e_icmp_ne (tgt := 75) hx hb dX6_innermost_68 (by decide) (fun c68 => ?_) (fun c68 => ?_)
  · rw [if_neg c68] at hsh
    refine e_aload_n (B := B) (x := x0) hx hb dX6_innermost_75 rfl (hl.at 0 rfl) ?_
    obtain ⟨v76, h76, hsh⟩ := Option.bind_eq_some_iff.mp hsh
    refine e_getR (k := 13) hx hb hts in_X6 hown hp h76 rfl (by decide) (by decide) rfl (hts _ kf6_52) rfl dX6_innermost_76 ?_
    refine lv_iload_n hx hb dX6_innermost_79 rfl (hl.at 3 rfl) ?_
    obtain ⟨v80, h80, hsh⟩ := Option.bind_eq_some_iff.mp hsh
    refine e_iald hx hb hp h80 dX6_innermost_80 ?_
    refine e_aload_n (B := B) (x := x0) hx hb dX6_innermost_81 rfl (hl.at 0 rfl) ?_
    obtain ⟨v82, h82, hsh⟩ := Option.bind_eq_some_iff.mp hsh
    refine e_getR (k := 12) hx hb hts in_X6 hown hp h82 rfl (by decide) (by decide) rfl (hts _ kf6_49) rfl dX6_innermost_82 ?_
    refine lv_iload_n hx hb dX6_innermost_85 rfl (hl.at 3 rfl) ?_
    obtain ⟨v86, h86, hsh⟩ := Option.bind_eq_some_iff.mp hsh
    refine e_iald hx hb hp h86 dX6_innermost_86 ?_
    refine e_isub hx hb dX6_innermost_87 ?_
    refine e_aload_n (B := B) (x := x0) hx hb dX6_innermost_88 rfl (hl.at 0 rfl) ?_
    obtain ⟨v89, h89, hsh⟩ := Option.bind_eq_some_iff.mp hsh
    refine e_getR (k := 13) hx hb hts in_X6 hown hp h89 rfl (by decide) (by decide) rfl (hts _ kf6_52) rfl dX6_innermost_89 ?_
    refine lv_iload hx hb dX6_innermost_92 (hl.at 4 rfl) ?_
    obtain ⟨v94, h94, hsh⟩ := Option.bind_eq_some_iff.mp hsh
    refine e_iald hx hb hp h94 dX6_innermost_94 ?_
    refine e_isub hx hb dX6_innermost_95 ?_
    refine e_aload_n (B := B) (x := x0) hx hb dX6_innermost_96 rfl (hl.at 0 rfl) ?_
    obtain ⟨v97, h97, hsh⟩ := Option.bind_eq_some_iff.mp hsh
    refine e_getR (k := 12) hx hb hts in_X6 hown hp h97 rfl (by decide) (by decide) rfl (hts _ kf6_49) rfl dX6_innermost_97 ?_
    refine lv_iload hx hb dX6_innermost_100 (hl.at 4 rfl) ?_
    obtain ⟨v102, h102, hsh⟩ := Option.bind_eq_some_iff.mp hsh
    refine e_iald hx hb hp h102 dX6_innermost_102 ?_
    refine e_iadd hx hb dX6_innermost_103 ?_
    exact w6_innermost_b104 (hk5 := hk5) E hp hS (hl.sub [0, 1, 2, 3, 4] rfl) hsh
  · rw [if_pos c68] at hsh
    refine lv_iconst (v := iI (1)) hx hb dX6_innermost_71 rfl ?_
    refine lv_goto (tgt := 104) hx hb dX6_innermost_72 (by decide) ?_
    exact w6_innermost_b104 (hk5 := hk5) E hp hS (hl.sub [0, 1, 2, 3, 4] rfl) hsh
set_option maxRecDepth 100000 in
set_option maxHeartbeats 4000000 in
theorem w6_innermost_l5 {p : Program} {l : Launch} {e : Env} {s : State} {m : MethodId} {args : Array Value} {below : List Frame} {meth : Method} {c : Code} {D : va_G} {cA : Nat → ClassId} {B : Nat} {res : Int × HP} (E : e_En p s m args meth c cX6_innermost RX6 6 (some .int)) : ∀ (f : Nat) {ls : Array Slot} {H : Heap} {locs : List Loc} {S : HP} {x0 : Int} {x1 : Int} {x2 : Int} {x3 : Int} {x4 : Int} (hp : e_Pic D cA B S s H) (hS : va_S (e_A B) s.heap H locs) (hl : e_lo ls 6 [(0, e_rv B (x0)), (1, .int (iI (x1))), (2, .int (iI (x2))), (3, .int (iI (x3))), (4, .int (iI (x4)))]) (hsh : s6_innermost_l5 f S x0 x1 x2 x3 x4 = some res), W p l e ({ frames := 0, cells := 0, slots := 0, locals := 0 } : Room) s m args below meth c H locs 0 0 (MQ below (e_Qi D cA B res.1 res.2) args s 0 0 (e_A B)) (F0 m 5 ls []) := by
  obtain ⟨hx, hb, hml, hown, hts, hlk, hrt⟩ := id E
  intro f
  induction f with
  | zero => intro ls H locs S x0 x1 x2 x3 x4 hp hS hl hsh; cases hsh
  | succ f ih =>
    intro ls H locs S x0 x1 x2 x3 x4 hp hS hl hsh
    have hk5 : ∀ {ls : Array Slot} {H : Heap} {locs : List Loc} {S : HP} {x0 : Int} {x1 : Int} {x2 : Int} {x3 : Int} {x4 : Int} (hp : e_Pic D cA B S s H) (hS : va_S (e_A B) s.heap H locs) (hl : e_lo ls 6 [(0, e_rv B (x0)), (1, .int (iI (x1))), (2, .int (iI (x2))), (3, .int (iI (x3))), (4, .int (iI (x4)))]) (hsh : (s6_innermost_l5 f) S x0 x1 x2 x3 x4 = some res), W p l e ({ frames := 0, cells := 0, slots := 0, locals := 0 } : Room) s m args below meth c H locs 0 0 (MQ below (e_Qi D cA B res.1 res.2) args s 0 0 (e_A B)) (F0 m 5 ls []) := ih
    generalize hkk : s6_innermost_l5 f = k5 at hk5
    rw [s6_innermost_l5] at hsh
    rw [hkk] at hsh
    try dsimp only at hsh
    refine lv_iload hx hb dX6_innermost_5 (hl.at 4 rfl) ?_
    refine e_aload_n (B := B) (x := x0) hx hb dX6_innermost_7 rfl (hl.at 0 rfl) ?_
    obtain ⟨v8, h8, hsh⟩ := Option.bind_eq_some_iff.mp hsh
    refine e_getI (k := 15) hx hb hts in_X6 hown hp h8 rfl (by decide) (by decide) rfl (hts _ kf6_59) rfl dX6_innermost_8 ?_
    refine e_icmp_ge (tgt := 135) hx hb dX6_innermost_11 (by decide) (fun c11 => ?_) (fun c11 => ?_)
    · rw [if_pos c11] at hsh
      refine lv_iload_n hx hb dX6_innermost_135 rfl (hl.at 3 rfl) ?_
      cases hsh
      exact e_iret hx hb hrt hlk hp hS dX6_innermost_136
    · rw [if_neg c11] at hsh
      refine e_aload_n (B := B) (x := x0) hx hb dX6_innermost_14 rfl (hl.at 0 rfl) ?_
      obtain ⟨v15, h15, hsh⟩ := Option.bind_eq_some_iff.mp hsh
      refine e_getR (k := 12) hx hb hts in_X6 hown hp h15 rfl (by decide) (by decide) rfl (hts _ kf6_49) rfl dX6_innermost_15 ?_
      refine lv_iload hx hb dX6_innermost_18 (hl.at 4 rfl) ?_
      obtain ⟨v20, h20, hsh⟩ := Option.bind_eq_some_iff.mp hsh
      refine e_iald hx hb hp h20 dX6_innermost_20 ?_
      refine e_aload_n (B := B) (x := x0) hx hb dX6_innermost_21 rfl (hl.at 0 rfl) ?_
      obtain ⟨v22, h22, hsh⟩ := Option.bind_eq_some_iff.mp hsh
      refine e_getI (k := 0) hx hb hts in_X6 hown hp h22 rfl (by decide) (by decide) rfl (hts _ kf6_9) rfl dX6_innermost_22 ?_
      refine e_icmp_gt (tgt := 129) hx hb dX6_innermost_25 (by decide) (fun c25 => ?_) (fun c25 => ?_)
      · rw [if_pos c25] at hsh
        exact w6_innermost_b129 (hk5 := hk5) E hp hS (hl.sub [0, 1, 2, 3, 4] rfl) hsh
      · rw [if_neg c25] at hsh
        refine e_aload_n (B := B) (x := x0) hx hb dX6_innermost_28 rfl (hl.at 0 rfl) ?_
        obtain ⟨v29, h29, hsh⟩ := Option.bind_eq_some_iff.mp hsh
        refine e_getR (k := 13) hx hb hts in_X6 hown hp h29 rfl (by decide) (by decide) rfl (hts _ kf6_52) rfl dX6_innermost_29 ?_
        refine lv_iload hx hb dX6_innermost_32 (hl.at 4 rfl) ?_
        obtain ⟨v34, h34, hsh⟩ := Option.bind_eq_some_iff.mp hsh
        refine e_iald hx hb hp h34 dX6_innermost_34 ?_
        refine e_aload_n (B := B) (x := x0) hx hb dX6_innermost_35 rfl (hl.at 0 rfl) ?_
        obtain ⟨v36, h36, hsh⟩ := Option.bind_eq_some_iff.mp hsh
        refine e_getI (k := 0) hx hb hts in_X6 hown hp h36 rfl (by decide) (by decide) rfl (hts _ kf6_9) rfl dX6_innermost_36 ?_
        refine e_icmp_lt (tgt := 129) hx hb dX6_innermost_39 (by decide) (fun c39 => ?_) (fun c39 => ?_)
        · rw [if_pos c39] at hsh
          exact w6_innermost_b129 (hk5 := hk5) E hp hS (hl.sub [0, 1, 2, 3, 4] rfl) hsh
        · rw [if_neg c39] at hsh
          refine e_aload_n (B := B) (x := x0) hx hb dX6_innermost_42 rfl (hl.at 0 rfl) ?_
          obtain ⟨v43, h43, hsh⟩ := Option.bind_eq_some_iff.mp hsh
          refine e_getR (k := 14) hx hb hts in_X6 hown hp h43 rfl (by decide) (by decide) rfl (hts _ kf6_55) rfl dX6_innermost_43 ?_
          refine lv_iload hx hb dX6_innermost_46 (hl.at 4 rfl) ?_
          obtain ⟨v48, h48, hsh⟩ := Option.bind_eq_some_iff.mp hsh
          refine e_bald hx hb hp h48 dX6_innermost_48 ?_
          refine e_if_eq (tgt := 59) hx hb dX6_innermost_49 (by decide) (fun c49 => ?_) (fun c49 => ?_)
          · rw [if_pos c49] at hsh
            refine lv_iload_n hx hb dX6_innermost_59 rfl (hl.at 2 rfl) ?_
            refine e_if_ne (tgt := 66) hx hb dX6_innermost_60 (by decide) (fun c60 => ?_) (fun c60 => ?_)
            · rw [if_neg c60] at hsh
              exact w6_innermost_b66 (hk5 := hk5) E hp hS (hl.sub [0, 1, 2, 3, 4] rfl) hsh
            · rw [if_pos c60] at hsh
              refine lv_goto (tgt := 129) hx hb dX6_innermost_63 (by decide) ?_
              exact w6_innermost_b129 (hk5 := hk5) E hp hS (hl.sub [0, 1, 2, 3, 4] rfl) hsh
          · rw [if_neg c49] at hsh
            refine lv_iload_n hx hb dX6_innermost_52 rfl (hl.at 1 rfl) ?_
            refine e_if_eq (tgt := 129) hx hb dX6_innermost_53 (by decide) (fun c53 => ?_) (fun c53 => ?_)
            · rw [if_pos c53] at hsh
              exact w6_innermost_b129 (hk5 := hk5) E hp hS (hl.sub [0, 1, 2, 3, 4] rfl) hsh
            · rw [if_neg c53] at hsh
              refine lv_goto (tgt := 66) hx hb dX6_innermost_56 (by decide) ?_
              exact w6_innermost_b66 (hk5 := hk5) E hp hS (hl.sub [0, 1, 2, 3, 4] rfl) hsh
set_option maxRecDepth 100000 in
set_option maxHeartbeats 4000000 in
theorem c6_innermost (l : Launch) (D : va_G) (cA : Nat → ClassId) (B : Nat) (S S' : HP) (x0 : Int) (x1 : Int) (x2 : Int) (r : Int) (hsh : s6_innermost S x0 x1 x2 = some (r, S')) : Met l yX6_innermost (e_wu yX6_innermost cX6_innermost 6 (some .int)) ({ frames := 0, cells := 0, slots := 0, locals := 0 } : Room) (va_Pc [e_rv B (x0), .int (iI (x1)), .int (iI (x2))] (fun U => e_PU D cA B S U)) (e_Qi D cA B r S') 0 0 (e_A B) := by
  refine Met.ofW (cc := cX6_innermost) (maxL := 6) (ret := (some .int)) (by decide +kernel) rfl ?_
  intro p e s m args below meth c s₁ Bd hml hv
  obtain ⟨rfl, hp⟩ := hv
  have hp : e_Pic D cA B S s s.heap := hp
  have hx := Bd.exec
  have hb := Bd.bytes
  have hrt := Bd.returns
  have hlk := Bd.notSynchronized
  have hown : s.vm.findClass RX6 = some m.cls := findClass_of_methodNamed Bd.named
  have hts : ∀ w ∈ e_tb, w.before ([e_rv B (x0), .int (iI (x1)), .int (iI (x2))] : List Value).toArray s = true := fun w h => atoms_spec (ws := (e_wu yX6_innermost cX6_innermost 6 (some .int))) Bd.pre w (List.mem_cons_of_mem _ h)
  have E : e_En p s m ([e_rv B (x0), .int (iI (x1)), .int (iI (x2))] : List Value).toArray meth c cX6_innermost RX6 6 (some .int) := ⟨hx, hb, hml, hown, hts, hlk, hrt⟩
  have hS : va_S (e_A B) s.heap s.heap [] := va_S.rf
  have hl := e_entry (vs := [e_rv B (x0), .int (iI (x1)), .int (iI (x2))]) (n := 6) (Nat.le_of_ble_eq_true rfl) (e_cc (e_rv_cat _ _) (e_cc rfl (e_cc rfl e_cn)))
  rw [lg_entry_eq]
  generalize (lg_sl [e_rv B (x0), .int (iI (x1)), .int (iI (x2))] ++ List.replicate (6 - (lg_sl [e_rv B (x0), .int (iI (x1)), .int (iI (x2))]).length) Slot.unset).toArray = ls at hl ⊢
  generalize ([e_rv B (x0), .int (iI (x1)), .int (iI (x2))] : List Value).toArray = args at hts E ⊢
  have hl : e_lo ls 6 [(0, e_rv B (x0)), (1, .int (iI (x1))), (2, .int (iI (x2)))] := hl
  have hsh := (gd_some hsh).2
  refine lv_iconst (v := iI (-1)) hx hb dX6_innermost_0 rfl ?_
  refine e_istore_n (lv' := [(3, .int (iI ((-1)))), (0, e_rv B (x0)), (1, .int (iI (x1))), (2, .int (iI (x2)))]) hx hb dX6_innermost_1 rfl hl (by decide) rfl (fun ls hl => ?_)
  refine lv_iconst (v := iI (0)) hx hb dX6_innermost_2 rfl ?_
  refine e_istore (lv' := [(4, .int (iI (0))), (3, .int (iI ((-1)))), (0, e_rv B (x0)), (1, .int (iI (x1))), (2, .int (iI (x2)))]) hx hb dX6_innermost_3 hl (by decide) rfl (fun ls hl => ?_)
  exact w6_innermost_l5 E 1000000 hp hS (hl.sub [2, 3, 4, 1, 0] rfl) hsh
theorem ok6_changeFold {S : HP} {x0 : Int} {x1 : Int} {r : Int × HP} (h : s6_changeFold S x0 x1 = some r) : 0 ≤ x0 ∧ x0.toNat < e_n S ∧ e_g S x0.toNat = 6 := (gd_some h).1
set_option maxRecDepth 100000 in
set_option maxHeartbeats 4000000 in
theorem w6_changeFold_b119 {p : Program} {l : Launch} {e : Env} {s : State} {m : MethodId} {args : Array Value} {below : List Frame} {meth : Method} {c : Code} {D : va_G} {cA : Nat → ClassId} {B : Nat} {res : Int × HP} (E : e_En p s m args meth c cX6_changeFold RX6 3 (some .boolean)) {ls : Array Slot} {H : Heap} {locs : List Loc} {S : HP} (hp : e_Pic D cA B S s H) (hS : va_S (e_A B) s.heap H locs) (hl : e_lo ls 3 []) (hsh : s6_changeFold_b119 S  = some res) : W p l e ({ frames := 1, cells := 0, slots := 0, locals := 25 } : Room) s m args below meth c H locs 0 0 (MQ below (e_Qi D cA B res.1 res.2) args s 0 0 (e_A B)) (F0 m 119 ls []) := by
  obtain ⟨hx, hb, hml, hown, hts, hlk, hrt⟩ := id E
  unfold s6_changeFold_b119 at hsh
  refine lv_iconst (v := iI (1)) hx hb dX6_changeFold_119 rfl ?_
  obtain ⟨hz, hz1, hz2⟩ := zR_some hsh
  rw [← hz1, ← hz2]
  exact e_zret hx hb hrt hlk hp hS hz dX6_changeFold_120
set_option maxRecDepth 100000 in
set_option maxHeartbeats 4000000 in
theorem w6_changeFold_b118 {p : Program} {l : Launch} {e : Env} {s : State} {m : MethodId} {args : Array Value} {below : List Frame} {meth : Method} {c : Code} {D : va_G} {cA : Nat → ClassId} {B : Nat} {res : Int × HP} (E : e_En p s m args meth c cX6_changeFold RX6 3 (some .boolean)) {ls : Array Slot} {H : Heap} {locs : List Loc} {S : HP} {y0 : Int} {y1 : Int} {y2 : Int} (hp : e_Pic D cA B S s H) (hS : va_S (e_A B) s.heap H locs) (hl : e_lo ls 3 []) (hsh : s6_changeFold_b118 S y0 y1 y2 = some res) : W p l e ({ frames := 1, cells := 0, slots := 0, locals := 25 } : Room) s m args below meth c H locs 0 0 (MQ below (e_Qi D cA B res.1 res.2) args s 0 0 (e_A B)) (F0 m 118 ls [.int (iI (y2)), .int (iI (y1)), e_rv B (y0)]) := by
  obtain ⟨hx, hb, hml, hown, hts, hlk, hrt⟩ := id E
  unfold s6_changeFold_b118 at hsh
  obtain ⟨S118, h118, hsh⟩ := Option.bind_eq_some_iff.mp hsh
  refine e_bast hx hb hp hS h118 dX6_changeFold_118 (fun H locs hp hS => ?_)
  exact w6_changeFold_b119 E hp hS (hl.sub [] rfl) hsh
set_option maxRecDepth 100000 in
set_option maxHeartbeats 4000000 in
theorem w6_changeFold_b25 {p : Program} {l : Launch} {e : Env} {s : State} {m : MethodId} {args : Array Value} {below : List Frame} {meth : Method} {c : Code} {D : va_G} {cA : Nat → ClassId} {B : Nat} {res : Int × HP} (E : e_En p s m args meth c cX6_changeFold RX6 3 (some .boolean)) {ls : Array Slot} {H : Heap} {locs : List Loc} {S : HP} {x0 : Int} {x1 : Int} {y0 : Int} {y1 : Int} {y2 : Int} (hp : e_Pic D cA B S s H) (hS : va_S (e_A B) s.heap H locs) (hl : e_lo ls 3 [(0, e_rv B (x0)), (1, .int (iI (x1)))]) (hsh : s6_changeFold_b25 S x0 x1 y0 y1 y2 = some res) : W p l e ({ frames := 1, cells := 0, slots := 0, locals := 25 } : Room) s m args below meth c H locs 0 0 (MQ below (e_Qi D cA B res.1 res.2) args s 0 0 (e_A B)) (F0 m 25 ls [.int (iI (y2)), .int (iI (y1)), e_rv B (y0)]) := by
  obtain ⟨hx, hb, hml, hown, hts, hlk, hrt⟩ := id E
  unfold s6_changeFold_b25 at hsh
  obtain ⟨⟨v25, S25⟩, h25, hsh⟩ := Option.bind_eq_some_iff.mp hsh
  have hsh : _ = _ := hsh
  try dsimp only at hsh
  have ok25 := ok6_innermost h25
  refine e_callI (nL := 3) (mc := 0) (ms := 0) (T := TX6) (N := 16) (As := [.int (iI (y1)), .int (iI (y2))]) (rest := []) hx hb hml hown hts hp hS hl.size ok25.1 ok25.2.1 ok25.2.2 rfl (by decide) (c6_innermost l D cA B S S25 (y0) (y1) (y2) v25 h25) rfl rfl kd6_innermost (kl6_123) ks6_innermost kv6_innermost ki6 kh6_innermost ⟨Nat.le_of_ble_eq_true rfl, Nat.le_of_ble_eq_true rfl⟩ rfl (by simp [e_rv_cat, e_int_cat]) ⟨Nat.le_refl _, Nat.le_refl _⟩ dX6_changeFold_25 rfl (fun H locs hp hS => ?_)
  refine e_istore_n (lv' := [(2, .int (iI (v25))), (0, e_rv B (x0)), (1, .int (iI (x1)))]) hx hb dX6_changeFold_28 rfl hl (by decide) rfl (fun ls hl => ?_)
  refine lv_iload_n hx hb dX6_changeFold_29 rfl (hl.at 0 rfl) ?_
  refine lv_iconst (v := iI (-1)) hx hb dX6_changeFold_30 rfl ?_
  refine e_icmp_ne (tgt := 36) hx hb dX6_changeFold_31 (by decide) (fun c31 => ?_) (fun c31 => ?_)
  · rw [if_neg c31] at hsh
    refine lv_iload_n hx hb dX6_changeFold_36 rfl (hl.at 2 rfl) ?_
    refine lv_sipush (v := iI (31332)) hx hb dX6_changeFold_37 (by decide +kernel) ?_
    refine e_icmp_ne (tgt := 101) hx hb dX6_changeFold_40 (by decide) (fun c40 => ?_) (fun c40 => ?_)
    · rw [if_neg c40] at hsh
      refine e_aload_n (B := B) (x := x0) hx hb dX6_changeFold_101 rfl (hl.at 1 rfl) ?_
      obtain ⟨v102, h102, hsh⟩ := Option.bind_eq_some_iff.mp hsh
      refine e_getR (k := 14) hx hb hts in_X6 hown hp h102 rfl (by decide) (by decide) rfl (hts _ kf6_55) rfl dX6_changeFold_102 ?_
      refine lv_iload_n hx hb dX6_changeFold_105 rfl (hl.at 0 rfl) ?_
      refine lv_iload_n hx hb dX6_changeFold_106 rfl (hl.at 2 rfl) ?_
      refine lv_sipush (v := iI (31331)) hx hb dX6_changeFold_107 (by decide +kernel) ?_
      refine e_icmp_ne (tgt := 117) hx hb dX6_changeFold_110 (by decide) (fun c110 => ?_) (fun c110 => ?_)
      · rw [if_neg c110] at hsh
        refine lv_iconst (v := iI (0)) hx hb dX6_changeFold_117 rfl ?_
        exact w6_changeFold_b118 E hp hS (hl.sub [] rfl) hsh
      · rw [if_pos c110] at hsh
        refine lv_iconst (v := iI (1)) hx hb dX6_changeFold_113 rfl ?_
        refine lv_goto (tgt := 118) hx hb dX6_changeFold_114 (by decide) ?_
        exact w6_changeFold_b118 E hp hS (hl.sub [] rfl) hsh
    · rw [if_pos c40] at hsh
      refine e_aload_n (B := B) (x := x0) hx hb dX6_changeFold_43 rfl (hl.at 1 rfl) ?_
      refine lv_dup hx hb dX6_changeFold_44 (e_rv_cat _ _) ?_
      obtain ⟨v45, h45, hsh⟩ := Option.bind_eq_some_iff.mp hsh
      refine e_getI (k := 15) hx hb hts in_X6 hown hp h45 rfl (by decide) (by decide) rfl (hts _ kf6_59) rfl dX6_changeFold_45 ?_
      refine lv_iconst (v := iI (1)) hx hb dX6_changeFold_48 rfl ?_
      refine e_isub hx hb dX6_changeFold_49 ?_
      obtain ⟨S50, h50, hsh⟩ := Option.bind_eq_some_iff.mp hsh
      refine e_putI (k := 15) hx hb hts in_X6 tyX6 tyX6_ok nmX6 hown hp hS h50 rfl (by decide) (by decide) rfl (hts _ kf6_59) rfl rfl (by decide +kernel) dX6_changeFold_50 (fun H locs hp hS => ?_)
      refine e_aload_n (B := B) (x := x0) hx hb dX6_changeFold_53 rfl (hl.at 1 rfl) ?_
      obtain ⟨v54, h54, hsh⟩ := Option.bind_eq_some_iff.mp hsh
      refine e_getR (k := 12) hx hb hts in_X6 hown hp h54 rfl (by decide) (by decide) rfl (hts _ kf6_49) rfl dX6_changeFold_54 ?_
      refine lv_iload_n hx hb dX6_changeFold_57 rfl (hl.at 0 rfl) ?_
      refine e_aload_n (B := B) (x := x0) hx hb dX6_changeFold_58 rfl (hl.at 1 rfl) ?_
      obtain ⟨v59, h59, hsh⟩ := Option.bind_eq_some_iff.mp hsh
      refine e_getR (k := 12) hx hb hts in_X6 hown hp h59 rfl (by decide) (by decide) rfl (hts _ kf6_49) rfl dX6_changeFold_59 ?_
      refine e_aload_n (B := B) (x := x0) hx hb dX6_changeFold_62 rfl (hl.at 1 rfl) ?_
      obtain ⟨v63, h63, hsh⟩ := Option.bind_eq_some_iff.mp hsh
      refine e_getI (k := 15) hx hb hts in_X6 hown hp h63 rfl (by decide) (by decide) rfl (hts _ kf6_59) rfl dX6_changeFold_63 ?_
      obtain ⟨v66, h66, hsh⟩ := Option.bind_eq_some_iff.mp hsh
      refine e_iald hx hb hp h66 dX6_changeFold_66 ?_
      obtain ⟨S67, h67, hsh⟩ := Option.bind_eq_some_iff.mp hsh
      refine e_iast hx hb hp hS h67 dX6_changeFold_67 (fun H locs hp hS => ?_)
      refine e_aload_n (B := B) (x := x0) hx hb dX6_changeFold_68 rfl (hl.at 1 rfl) ?_
      obtain ⟨v69, h69, hsh⟩ := Option.bind_eq_some_iff.mp hsh
      refine e_getR (k := 13) hx hb hts in_X6 hown hp h69 rfl (by decide) (by decide) rfl (hts _ kf6_52) rfl dX6_changeFold_69 ?_
      refine lv_iload_n hx hb dX6_changeFold_72 rfl (hl.at 0 rfl) ?_
      refine e_aload_n (B := B) (x := x0) hx hb dX6_changeFold_73 rfl (hl.at 1 rfl) ?_
      obtain ⟨v74, h74, hsh⟩ := Option.bind_eq_some_iff.mp hsh
      refine e_getR (k := 13) hx hb hts in_X6 hown hp h74 rfl (by decide) (by decide) rfl (hts _ kf6_52) rfl dX6_changeFold_74 ?_
      refine e_aload_n (B := B) (x := x0) hx hb dX6_changeFold_77 rfl (hl.at 1 rfl) ?_
      obtain ⟨v78, h78, hsh⟩ := Option.bind_eq_some_iff.mp hsh
      refine e_getI (k := 15) hx hb hts in_X6 hown hp h78 rfl (by decide) (by decide) rfl (hts _ kf6_59) rfl dX6_changeFold_78 ?_
      obtain ⟨v81, h81, hsh⟩ := Option.bind_eq_some_iff.mp hsh
      refine e_iald hx hb hp h81 dX6_changeFold_81 ?_
      obtain ⟨S82, h82, hsh⟩ := Option.bind_eq_some_iff.mp hsh
      refine e_iast hx hb hp hS h82 dX6_changeFold_82 (fun H locs hp hS => ?_)
      refine e_aload_n (B := B) (x := x0) hx hb dX6_changeFold_83 rfl (hl.at 1 rfl) ?_
      obtain ⟨v84, h84, hsh⟩ := Option.bind_eq_some_iff.mp hsh
      refine e_getR (k := 14) hx hb hts in_X6 hown hp h84 rfl (by decide) (by decide) rfl (hts _ kf6_55) rfl dX6_changeFold_84 ?_
      refine lv_iload_n hx hb dX6_changeFold_87 rfl (hl.at 0 rfl) ?_
      refine e_aload_n (B := B) (x := x0) hx hb dX6_changeFold_88 rfl (hl.at 1 rfl) ?_
      obtain ⟨v89, h89, hsh⟩ := Option.bind_eq_some_iff.mp hsh
      refine e_getR (k := 14) hx hb hts in_X6 hown hp h89 rfl (by decide) (by decide) rfl (hts _ kf6_55) rfl dX6_changeFold_89 ?_
      refine e_aload_n (B := B) (x := x0) hx hb dX6_changeFold_92 rfl (hl.at 1 rfl) ?_
      obtain ⟨v93, h93, hsh⟩ := Option.bind_eq_some_iff.mp hsh
      refine e_getI (k := 15) hx hb hts in_X6 hown hp h93 rfl (by decide) (by decide) rfl (hts _ kf6_59) rfl dX6_changeFold_93 ?_
      obtain ⟨v96, h96, hsh⟩ := Option.bind_eq_some_iff.mp hsh
      refine e_bald hx hb hp h96 dX6_changeFold_96 ?_
      obtain ⟨S97, h97, hsh⟩ := Option.bind_eq_some_iff.mp hsh
      refine e_bast hx hb hp hS h97 dX6_changeFold_97 (fun H locs hp hS => ?_)
      refine lv_goto (tgt := 119) hx hb dX6_changeFold_98 (by decide) ?_
      exact w6_changeFold_b119 E hp hS (hl.sub [] rfl) hsh
  · rw [if_pos c31] at hsh
    refine lv_iconst (v := iI (0)) hx hb dX6_changeFold_34 rfl ?_
    obtain ⟨hz, hz1, hz2⟩ := zR_some hsh
    rw [← hz1, ← hz2]
    exact e_zret hx hb hrt hlk hp hS hz dX6_changeFold_35
set_option maxRecDepth 100000 in
set_option maxHeartbeats 4000000 in
theorem w6_changeFold_b13 {p : Program} {l : Launch} {e : Env} {s : State} {m : MethodId} {args : Array Value} {below : List Frame} {meth : Method} {c : Code} {D : va_G} {cA : Nat → ClassId} {B : Nat} {res : Int × HP} (E : e_En p s m args meth c cX6_changeFold RX6 3 (some .boolean)) {ls : Array Slot} {H : Heap} {locs : List Loc} {S : HP} {x0 : Int} {x1 : Int} {y0 : Int} {y1 : Int} (hp : e_Pic D cA B S s H) (hS : va_S (e_A B) s.heap H locs) (hl : e_lo ls 3 [(0, e_rv B (x0)), (1, .int (iI (x1)))]) (hsh : s6_changeFold_b13 S x0 x1 y0 y1 = some res) : W p l e ({ frames := 1, cells := 0, slots := 0, locals := 25 } : Room) s m args below meth c H locs 0 0 (MQ below (e_Qi D cA B res.1 res.2) args s 0 0 (e_A B)) (F0 m 13 ls [.int (iI (y1)), e_rv B (y0)]) := by
  obtain ⟨hx, hb, hml, hown, hts, hlk, hrt⟩ := id E
  unfold s6_changeFold_b13 at hsh
  refine lv_iload_n hx hb dX6_changeFold_13 rfl (hl.at 1 rfl) ?_
  refine lv_sipush (v := iI (31343)) hx hb dX6_changeFold_14 (by decide +kernel) ?_
  refine e_icmp_eq (tgt := 24) hx hb dX6_changeFold_17 (by decide) (fun c17 => ?_) (fun c17 => ?_)
  · rw [if_pos c17] at hsh
    refine lv_iconst (v := iI (0)) hx hb dX6_changeFold_24 rfl ?_
    exact w6_changeFold_b25 E hp hS (hl.sub [0, 1] rfl) hsh
  · rw [if_neg c17] at hsh
    refine lv_iconst (v := iI (1)) hx hb dX6_changeFold_20 rfl ?_
    refine lv_goto (tgt := 25) hx hb dX6_changeFold_21 (by decide) ?_
    exact w6_changeFold_b25 E hp hS (hl.sub [0, 1] rfl) hsh
set_option maxRecDepth 100000 in
set_option maxHeartbeats 4000000 in
theorem c6_changeFold (l : Launch) (D : va_G) (cA : Nat → ClassId) (B : Nat) (S S' : HP) (x0 : Int) (x1 : Int) (r : Int) (hsh : s6_changeFold S x0 x1 = some (r, S')) : Met l yX6_changeFold (e_wu yX6_changeFold cX6_changeFold 3 (some .boolean)) ({ frames := 1, cells := 0, slots := 0, locals := 25 } : Room) (va_Pc [e_rv B (x0), .int (iI (x1))] (fun U => e_PU D cA B S U)) (e_Qi D cA B r S') 0 0 (e_A B) := by
  refine Met.ofW (cc := cX6_changeFold) (maxL := 3) (ret := (some .boolean)) (by decide +kernel) rfl ?_
  intro p e s m args below meth c s₁ Bd hml hv
  obtain ⟨rfl, hp⟩ := hv
  have hp : e_Pic D cA B S s s.heap := hp
  have hx := Bd.exec
  have hb := Bd.bytes
  have hrt := Bd.returns
  have hlk := Bd.notSynchronized
  have hown : s.vm.findClass RX6 = some m.cls := findClass_of_methodNamed Bd.named
  have hts : ∀ w ∈ e_tb, w.before ([e_rv B (x0), .int (iI (x1))] : List Value).toArray s = true := fun w h => atoms_spec (ws := (e_wu yX6_changeFold cX6_changeFold 3 (some .boolean))) Bd.pre w (List.mem_cons_of_mem _ h)
  have E : e_En p s m ([e_rv B (x0), .int (iI (x1))] : List Value).toArray meth c cX6_changeFold RX6 3 (some .boolean) := ⟨hx, hb, hml, hown, hts, hlk, hrt⟩
  have hS : va_S (e_A B) s.heap s.heap [] := va_S.rf
  have hl := e_entry (vs := [e_rv B (x0), .int (iI (x1))]) (n := 3) (Nat.le_of_ble_eq_true rfl) (e_cc (e_rv_cat _ _) (e_cc rfl e_cn))
  rw [lg_entry_eq]
  generalize (lg_sl [e_rv B (x0), .int (iI (x1))] ++ List.replicate (3 - (lg_sl [e_rv B (x0), .int (iI (x1))]).length) Slot.unset).toArray = ls at hl ⊢
  generalize ([e_rv B (x0), .int (iI (x1))] : List Value).toArray = args at hts E ⊢
  have hl : e_lo ls 3 [(0, e_rv B (x0)), (1, .int (iI (x1)))] := hl
  have hsh := (gd_some hsh).2
  refine e_aload_n (B := B) (x := x0) hx hb dX6_changeFold_0 rfl (hl.at 0 rfl) ?_
  refine lv_iload_n hx hb dX6_changeFold_1 rfl (hl.at 1 rfl) ?_
  refine lv_sipush (v := iI (31331)) hx hb dX6_changeFold_2 (by decide +kernel) ?_
  refine e_icmp_eq (tgt := 12) hx hb dX6_changeFold_5 (by decide) (fun c5 => ?_) (fun c5 => ?_)
  · rw [if_pos c5] at hsh
    refine lv_iconst (v := iI (0)) hx hb dX6_changeFold_12 rfl ?_
    exact w6_changeFold_b13 E hp hS (hl.sub [0, 1] rfl) hsh
  · rw [if_neg c5] at hsh
    refine lv_iconst (v := iI (1)) hx hb dX6_changeFold_8 rfl ?_
    refine lv_goto (tgt := 13) hx hb dX6_changeFold_9 (by decide) ?_
    exact w6_changeFold_b13 E hp hS (hl.sub [0, 1] rfl) hsh
theorem ok6_openFolds {S : HP} {x0 : Int} {r : HP} (h : s6_openFolds S x0 = some r) : 0 ≤ x0 ∧ x0.toNat < e_n S ∧ e_g S x0.toNat = 6 := (gd_some h).1
set_option maxRecDepth 100000 in
set_option maxHeartbeats 4000000 in
theorem w6_openFolds_b43 {p : Program} {l : Launch} {e : Env} {s : State} {m : MethodId} {args : Array Value} {below : List Frame} {meth : Method} {c : Code} {D : va_G} {cA : Nat → ClassId} {B : Nat} {res : HP} {k2 : HP → Int → Int → Option (HP)} (hk2 : ∀ {ls : Array Slot} {H : Heap} {locs : List Loc} {S : HP} {x0 : Int} {x1 : Int} (hp : e_Pic D cA B S s H) (hS : va_S (e_A B) s.heap H locs) (hl : e_lo ls 2 [(0, e_rv B (x0)), (1, .int (iI (x1)))]) (hsh : k2 S x0 x1 = some res), W p l e ({ frames := 0, cells := 0, slots := 0, locals := 0 } : Room) s m args below meth c H locs 0 0 (MQ below (e_Qv D cA B res) args s 0 0 (e_A B)) (F0 m 2 ls [])) (E : e_En p s m args meth c cX6_openFolds RX6 2 none) {ls : Array Slot} {H : Heap} {locs : List Loc} {S : HP} {x0 : Int} {x1 : Int} (hp : e_Pic D cA B S s H) (hS : va_S (e_A B) s.heap H locs) (hl : e_lo ls 2 [(0, e_rv B (x0)), (1, .int (iI (x1)))]) (hsh : s6_openFolds_b43 k2 S x0 x1 = some res) : W p l e ({ frames := 0, cells := 0, slots := 0, locals := 0 } : Room) s m args below meth c H locs 0 0 (MQ below (e_Qv D cA B res) args s 0 0 (e_A B)) (F0 m 43 ls []) := by
  obtain ⟨hx, hb, hml, hown, hts, hlk, hrt⟩ := id E
  unfold s6_openFolds_b43 at hsh
  refine e_iinc (n := 1) (x := x1) (lv' := [(1, .int (iI ((x1 + 1)))), (0, e_rv B (x0))]) hx hb dX6_openFolds_43 hl (k := 1) rfl (by decide) rfl (fun ls hl => ?_)
  refine lv_goto (tgt := 2) hx hb dX6_openFolds_46 (by decide) ?_
  exact hk2 hp hS (hl.sub [1, 0] rfl) hsh
set_option maxRecDepth 100000 in
set_option maxHeartbeats 4000000 in
theorem w6_openFolds_l2 {p : Program} {l : Launch} {e : Env} {s : State} {m : MethodId} {args : Array Value} {below : List Frame} {meth : Method} {c : Code} {D : va_G} {cA : Nat → ClassId} {B : Nat} {res : HP} (E : e_En p s m args meth c cX6_openFolds RX6 2 none) : ∀ (f : Nat) {ls : Array Slot} {H : Heap} {locs : List Loc} {S : HP} {x0 : Int} {x1 : Int} (hp : e_Pic D cA B S s H) (hS : va_S (e_A B) s.heap H locs) (hl : e_lo ls 2 [(0, e_rv B (x0)), (1, .int (iI (x1)))]) (hsh : s6_openFolds_l2 f S x0 x1 = some res), W p l e ({ frames := 0, cells := 0, slots := 0, locals := 0 } : Room) s m args below meth c H locs 0 0 (MQ below (e_Qv D cA B res) args s 0 0 (e_A B)) (F0 m 2 ls []) := by
  obtain ⟨hx, hb, hml, hown, hts, hlk, hrt⟩ := id E
  intro f
  induction f with
  | zero => intro ls H locs S x0 x1 hp hS hl hsh; cases hsh
  | succ f ih =>
    intro ls H locs S x0 x1 hp hS hl hsh
    have hk2 : ∀ {ls : Array Slot} {H : Heap} {locs : List Loc} {S : HP} {x0 : Int} {x1 : Int} (hp : e_Pic D cA B S s H) (hS : va_S (e_A B) s.heap H locs) (hl : e_lo ls 2 [(0, e_rv B (x0)), (1, .int (iI (x1)))]) (hsh : (s6_openFolds_l2 f) S x0 x1 = some res), W p l e ({ frames := 0, cells := 0, slots := 0, locals := 0 } : Room) s m args below meth c H locs 0 0 (MQ below (e_Qv D cA B res) args s 0 0 (e_A B)) (F0 m 2 ls []) := ih
    generalize hkk : s6_openFolds_l2 f = k2 at hk2
    rw [s6_openFolds_l2] at hsh
    rw [hkk] at hsh
    try dsimp only at hsh
    refine lv_iload_n hx hb dX6_openFolds_2 rfl (hl.at 1 rfl) ?_
    refine e_aload_n (B := B) (x := x0) hx hb dX6_openFolds_3 rfl (hl.at 0 rfl) ?_
    obtain ⟨v4, h4, hsh⟩ := Option.bind_eq_some_iff.mp hsh
    refine e_getI (k := 15) hx hb hts in_X6 hown hp h4 rfl (by decide) (by decide) rfl (hts _ kf6_59) rfl dX6_openFolds_4 ?_
    refine e_icmp_ge (tgt := 49) hx hb dX6_openFolds_7 (by decide) (fun c7 => ?_) (fun c7 => ?_)
    · rw [if_pos c7] at hsh
      cases hsh
      exact e_vret hx hb hrt hlk hp hS dX6_openFolds_49
    · rw [if_neg c7] at hsh
      refine e_aload_n (B := B) (x := x0) hx hb dX6_openFolds_10 rfl (hl.at 0 rfl) ?_
      obtain ⟨v11, h11, hsh⟩ := Option.bind_eq_some_iff.mp hsh
      refine e_getR (k := 12) hx hb hts in_X6 hown hp h11 rfl (by decide) (by decide) rfl (hts _ kf6_49) rfl dX6_openFolds_11 ?_
      refine lv_iload_n hx hb dX6_openFolds_14 rfl (hl.at 1 rfl) ?_
      obtain ⟨v15, h15, hsh⟩ := Option.bind_eq_some_iff.mp hsh
      refine e_iald hx hb hp h15 dX6_openFolds_15 ?_
      refine e_aload_n (B := B) (x := x0) hx hb dX6_openFolds_16 rfl (hl.at 0 rfl) ?_
      obtain ⟨v17, h17, hsh⟩ := Option.bind_eq_some_iff.mp hsh
      refine e_getI (k := 0) hx hb hts in_X6 hown hp h17 rfl (by decide) (by decide) rfl (hts _ kf6_9) rfl dX6_openFolds_17 ?_
      refine e_icmp_gt (tgt := 43) hx hb dX6_openFolds_20 (by decide) (fun c20 => ?_) (fun c20 => ?_)
      · rw [if_pos c20] at hsh
        exact w6_openFolds_b43 (hk2 := hk2) E hp hS (hl.sub [0, 1] rfl) hsh
      · rw [if_neg c20] at hsh
        refine e_aload_n (B := B) (x := x0) hx hb dX6_openFolds_23 rfl (hl.at 0 rfl) ?_
        obtain ⟨v24, h24, hsh⟩ := Option.bind_eq_some_iff.mp hsh
        refine e_getI (k := 0) hx hb hts in_X6 hown hp h24 rfl (by decide) (by decide) rfl (hts _ kf6_9) rfl dX6_openFolds_24 ?_
        refine e_aload_n (B := B) (x := x0) hx hb dX6_openFolds_27 rfl (hl.at 0 rfl) ?_
        obtain ⟨v28, h28, hsh⟩ := Option.bind_eq_some_iff.mp hsh
        refine e_getR (k := 13) hx hb hts in_X6 hown hp h28 rfl (by decide) (by decide) rfl (hts _ kf6_52) rfl dX6_openFolds_28 ?_
        refine lv_iload_n hx hb dX6_openFolds_31 rfl (hl.at 1 rfl) ?_
        obtain ⟨v32, h32, hsh⟩ := Option.bind_eq_some_iff.mp hsh
        refine e_iald hx hb hp h32 dX6_openFolds_32 ?_
        refine e_icmp_gt (tgt := 43) hx hb dX6_openFolds_33 (by decide) (fun c33 => ?_) (fun c33 => ?_)
        · rw [if_pos c33] at hsh
          exact w6_openFolds_b43 (hk2 := hk2) E hp hS (hl.sub [0, 1] rfl) hsh
        · rw [if_neg c33] at hsh
          refine e_aload_n (B := B) (x := x0) hx hb dX6_openFolds_36 rfl (hl.at 0 rfl) ?_
          obtain ⟨v37, h37, hsh⟩ := Option.bind_eq_some_iff.mp hsh
          refine e_getR (k := 14) hx hb hts in_X6 hown hp h37 rfl (by decide) (by decide) rfl (hts _ kf6_55) rfl dX6_openFolds_37 ?_
          refine lv_iload_n hx hb dX6_openFolds_40 rfl (hl.at 1 rfl) ?_
          refine lv_iconst (v := iI (0)) hx hb dX6_openFolds_41 rfl ?_
          obtain ⟨S42, h42, hsh⟩ := Option.bind_eq_some_iff.mp hsh
          refine e_bast hx hb hp hS h42 dX6_openFolds_42 (fun H locs hp hS => ?_)
          exact w6_openFolds_b43 (hk2 := hk2) E hp hS (hl.sub [0, 1] rfl) hsh
set_option maxRecDepth 100000 in
set_option maxHeartbeats 4000000 in
theorem c6_openFolds (l : Launch) (D : va_G) (cA : Nat → ClassId) (B : Nat) (S S' : HP) (x0 : Int) (hsh : s6_openFolds S x0 = some S') : Met l yX6_openFolds (e_wu yX6_openFolds cX6_openFolds 2 none) ({ frames := 0, cells := 0, slots := 0, locals := 0 } : Room) (va_Pc [e_rv B (x0)] (fun U => e_PU D cA B S U)) (e_Qv D cA B S') 0 0 (e_A B) := by
  refine Met.ofW (cc := cX6_openFolds) (maxL := 2) (ret := none) (by decide +kernel) rfl ?_
  intro p e s m args below meth c s₁ Bd hml hv
  obtain ⟨rfl, hp⟩ := hv
  have hp : e_Pic D cA B S s s.heap := hp
  have hx := Bd.exec
  have hb := Bd.bytes
  have hrt := Bd.returns
  have hlk := Bd.notSynchronized
  have hown : s.vm.findClass RX6 = some m.cls := findClass_of_methodNamed Bd.named
  have hts : ∀ w ∈ e_tb, w.before ([e_rv B (x0)] : List Value).toArray s = true := fun w h => atoms_spec (ws := (e_wu yX6_openFolds cX6_openFolds 2 none)) Bd.pre w (List.mem_cons_of_mem _ h)
  have E : e_En p s m ([e_rv B (x0)] : List Value).toArray meth c cX6_openFolds RX6 2 none := ⟨hx, hb, hml, hown, hts, hlk, hrt⟩
  have hS : va_S (e_A B) s.heap s.heap [] := va_S.rf
  have hl := e_entry (vs := [e_rv B (x0)]) (n := 2) (Nat.le_of_ble_eq_true rfl) (e_cc (e_rv_cat _ _) e_cn)
  rw [lg_entry_eq]
  generalize (lg_sl [e_rv B (x0)] ++ List.replicate (2 - (lg_sl [e_rv B (x0)]).length) Slot.unset).toArray = ls at hl ⊢
  generalize ([e_rv B (x0)] : List Value).toArray = args at hts E ⊢
  have hl : e_lo ls 2 [(0, e_rv B (x0))] := hl
  have hsh := (gd_some hsh).2
  refine lv_iconst (v := iI (0)) hx hb dX6_openFolds_0 rfl ?_
  refine e_istore_n (lv' := [(1, .int (iI (0))), (0, e_rv B (x0))]) hx hb dX6_openFolds_1 rfl hl (by decide) rfl (fun ls hl => ?_)
  exact w6_openFolds_l2 E 1000000 hp hS (hl.sub [1, 0] rfl) hsh
theorem ok6_linesPut {S : HP} {x0 : Int} {x1 : Int} {x2 : Int} {r : HP} (h : s6_linesPut S x0 x1 x2 = some r) : 0 ≤ x0 ∧ x0.toNat < e_n S ∧ e_g S x0.toNat = 6 := (gd_some h).1
set_option maxRecDepth 100000 in
set_option maxHeartbeats 4000000 in
theorem w6_linesPut_b223 {p : Program} {l : Launch} {e : Env} {s : State} {m : MethodId} {args : Array Value} {below : List Frame} {meth : Method} {c : Code} {D : va_G} {cA : Nat → ClassId} {B : Nat} {res : HP} {k169 : HP → Int → Int → Int → Int → Option (HP)} (hk169 : ∀ {ls : Array Slot} {H : Heap} {locs : List Loc} {S : HP} {x0 : Int} {x1 : Int} {x2 : Int} {x3 : Int} (hp : e_Pic D cA B S s H) (hS : va_S (e_A B) s.heap H locs) (hl : e_lo ls 4 [(0, e_rv B (x0)), (1, .int (iI (x1))), (2, .int (iI (x2))), (3, .int (iI (x3)))]) (hsh : k169 S x0 x1 x2 x3 = some res), W p l e ({ frames := 0, cells := 0, slots := 0, locals := 0 } : Room) s m args below meth c H locs 0 0 (MQ below (e_Qv D cA B res) args s 0 0 (e_A B)) (F0 m 169 ls [])) (E : e_En p s m args meth c cX6_linesPut RX6 4 none) {ls : Array Slot} {H : Heap} {locs : List Loc} {S : HP} {x0 : Int} {x1 : Int} {x2 : Int} {x3 : Int} {y0 : Int} {y1 : Int} {y2 : Int} {y3 : Int} (hp : e_Pic D cA B S s H) (hS : va_S (e_A B) s.heap H locs) (hl : e_lo ls 4 [(0, e_rv B (x0)), (1, .int (iI (x1))), (2, .int (iI (x2))), (3, .int (iI (x3)))]) (hsh : s6_linesPut_b223 k169 S x0 x1 x2 x3 y0 y1 y2 y3 = some res) : W p l e ({ frames := 0, cells := 0, slots := 0, locals := 0 } : Room) s m args below meth c H locs 0 0 (MQ below (e_Qv D cA B res) args s 0 0 (e_A B)) (F0 m 223 ls [.int (iI (y3)), .int (iI (y2)), .int (iI (y1)), e_rv B (y0)]) := by
  obtain ⟨hx, hb, hml, hown, hts, hlk, hrt⟩ := id E
  unfold s6_linesPut_b223 at hsh
  refine e_iadd hx hb dX6_linesPut_223 ?_
  obtain ⟨S224, h224, hsh⟩ := Option.bind_eq_some_iff.mp hsh
  refine e_iast hx hb hp hS h224 dX6_linesPut_224 (fun H locs hp hS => ?_)
  refine e_iinc (n := 1) (x := x3) (lv' := [(3, .int (iI ((x3 + 1)))), (0, e_rv B (x0)), (1, .int (iI (x1))), (2, .int (iI (x2)))]) hx hb dX6_linesPut_225 hl (k := 3) rfl (by decide) rfl (fun ls hl => ?_)
  refine lv_goto (tgt := 169) hx hb dX6_linesPut_228 (by decide) ?_
  exact hk169 hp hS (hl.sub [1, 2, 3, 0] rfl) hsh
set_option maxRecDepth 100000 in
set_option maxHeartbeats 4000000 in
theorem w6_linesPut_b199 {p : Program} {l : Launch} {e : Env} {s : State} {m : MethodId} {args : Array Value} {below : List Frame} {meth : Method} {c : Code} {D : va_G} {cA : Nat → ClassId} {B : Nat} {res : HP} {k169 : HP → Int → Int → Int → Int → Option (HP)} (hk169 : ∀ {ls : Array Slot} {H : Heap} {locs : List Loc} {S : HP} {x0 : Int} {x1 : Int} {x2 : Int} {x3 : Int} (hp : e_Pic D cA B S s H) (hS : va_S (e_A B) s.heap H locs) (hl : e_lo ls 4 [(0, e_rv B (x0)), (1, .int (iI (x1))), (2, .int (iI (x2))), (3, .int (iI (x3)))]) (hsh : k169 S x0 x1 x2 x3 = some res), W p l e ({ frames := 0, cells := 0, slots := 0, locals := 0 } : Room) s m args below meth c H locs 0 0 (MQ below (e_Qv D cA B res) args s 0 0 (e_A B)) (F0 m 169 ls [])) (E : e_En p s m args meth c cX6_linesPut RX6 4 none) {ls : Array Slot} {H : Heap} {locs : List Loc} {S : HP} {x0 : Int} {x1 : Int} {x2 : Int} {x3 : Int} {y0 : Int} {y1 : Int} {y2 : Int} {y3 : Int} (hp : e_Pic D cA B S s H) (hS : va_S (e_A B) s.heap H locs) (hl : e_lo ls 4 [(0, e_rv B (x0)), (1, .int (iI (x1))), (2, .int (iI (x2))), (3, .int (iI (x3)))]) (hsh : s6_linesPut_b199 k169 S x0 x1 x2 x3 y0 y1 y2 y3 = some res) : W p l e ({ frames := 0, cells := 0, slots := 0, locals := 0 } : Room) s m args below meth c H locs 0 0 (MQ below (e_Qv D cA B res) args s 0 0 (e_A B)) (F0 m 199 ls [.int (iI (y3)), .int (iI (y2)), .int (iI (y1)), e_rv B (y0)]) := by
  obtain ⟨hx, hb, hml, hown, hts, hlk, hrt⟩ := id E
  unfold s6_linesPut_b199 at hsh
  refine e_iadd hx hb dX6_linesPut_199 ?_
  obtain ⟨S200, h200, hsh⟩ := Option.bind_eq_some_iff.mp hsh
  refine e_iast hx hb hp hS h200 dX6_linesPut_200 (fun H locs hp hS => ?_)
  refine e_aload_n (B := B) (x := x0) hx hb dX6_linesPut_201 rfl (hl.at 0 rfl) ?_
  obtain ⟨v202, h202, hsh⟩ := Option.bind_eq_some_iff.mp hsh
  refine e_getR (k := 13) hx hb hts in_X6 hown hp h202 rfl (by decide) (by decide) rfl (hts _ kf6_52) rfl dX6_linesPut_202 ?_
  refine lv_iload_n hx hb dX6_linesPut_205 rfl (hl.at 3 rfl) ?_
  refine lv_dup2_11 hx hb dX6_linesPut_206 rfl (e_rv_cat _ _) ?_
  obtain ⟨v207, h207, hsh⟩ := Option.bind_eq_some_iff.mp hsh
  refine e_iald hx hb hp h207 dX6_linesPut_207 ?_
  refine e_aload_n (B := B) (x := x0) hx hb dX6_linesPut_208 rfl (hl.at 0 rfl) ?_
  obtain ⟨v209, h209, hsh⟩ := Option.bind_eq_some_iff.mp hsh
  refine e_getR (k := 13) hx hb hts in_X6 hown hp h209 rfl (by decide) (by decide) rfl (hts _ kf6_52) rfl dX6_linesPut_209 ?_
  refine lv_iload_n hx hb dX6_linesPut_212 rfl (hl.at 3 rfl) ?_
  obtain ⟨v213, h213, hsh⟩ := Option.bind_eq_some_iff.mp hsh
  refine e_iald hx hb hp h213 dX6_linesPut_213 ?_
  refine lv_iload_n hx hb dX6_linesPut_214 rfl (hl.at 1 rfl) ?_
  refine e_icmp_lt (tgt := 222) hx hb dX6_linesPut_215 (by decide) (fun c215 => ?_) (fun c215 => ?_)
  · rw [if_pos c215] at hsh
    refine lv_iconst (v := iI (0)) hx hb dX6_linesPut_222 rfl ?_
    exact w6_linesPut_b223 (hk169 := hk169) E hp hS (hl.sub [0, 1, 2, 3] rfl) hsh
  · rw [if_neg c215] at hsh
    refine lv_iload_n hx hb dX6_linesPut_218 rfl (hl.at 2 rfl) ?_
    refine lv_goto (tgt := 223) hx hb dX6_linesPut_219 (by decide) ?_
    exact w6_linesPut_b223 (hk169 := hk169) E hp hS (hl.sub [0, 1, 2, 3] rfl) hsh
set_option maxRecDepth 100000 in
set_option maxHeartbeats 4000000 in
theorem w6_linesPut_l169 {p : Program} {l : Launch} {e : Env} {s : State} {m : MethodId} {args : Array Value} {below : List Frame} {meth : Method} {c : Code} {D : va_G} {cA : Nat → ClassId} {B : Nat} {res : HP} (E : e_En p s m args meth c cX6_linesPut RX6 4 none) : ∀ (f : Nat) {ls : Array Slot} {H : Heap} {locs : List Loc} {S : HP} {x0 : Int} {x1 : Int} {x2 : Int} {x3 : Int} (hp : e_Pic D cA B S s H) (hS : va_S (e_A B) s.heap H locs) (hl : e_lo ls 4 [(0, e_rv B (x0)), (1, .int (iI (x1))), (2, .int (iI (x2))), (3, .int (iI (x3)))]) (hsh : s6_linesPut_l169 f S x0 x1 x2 x3 = some res), W p l e ({ frames := 0, cells := 0, slots := 0, locals := 0 } : Room) s m args below meth c H locs 0 0 (MQ below (e_Qv D cA B res) args s 0 0 (e_A B)) (F0 m 169 ls []) := by
  obtain ⟨hx, hb, hml, hown, hts, hlk, hrt⟩ := id E
  intro f
  induction f with
  | zero => intro ls H locs S x0 x1 x2 x3 hp hS hl hsh; cases hsh
  | succ f ih =>
    intro ls H locs S x0 x1 x2 x3 hp hS hl hsh
    have hk169 : ∀ {ls : Array Slot} {H : Heap} {locs : List Loc} {S : HP} {x0 : Int} {x1 : Int} {x2 : Int} {x3 : Int} (hp : e_Pic D cA B S s H) (hS : va_S (e_A B) s.heap H locs) (hl : e_lo ls 4 [(0, e_rv B (x0)), (1, .int (iI (x1))), (2, .int (iI (x2))), (3, .int (iI (x3)))]) (hsh : (s6_linesPut_l169 f) S x0 x1 x2 x3 = some res), W p l e ({ frames := 0, cells := 0, slots := 0, locals := 0 } : Room) s m args below meth c H locs 0 0 (MQ below (e_Qv D cA B res) args s 0 0 (e_A B)) (F0 m 169 ls []) := ih
    generalize hkk : s6_linesPut_l169 f = k169 at hk169
    rw [s6_linesPut_l169] at hsh
    rw [hkk] at hsh
    try dsimp only at hsh
    refine lv_iload_n hx hb dX6_linesPut_169 rfl (hl.at 3 rfl) ?_
    refine e_aload_n (B := B) (x := x0) hx hb dX6_linesPut_170 rfl (hl.at 0 rfl) ?_
    obtain ⟨v171, h171, hsh⟩ := Option.bind_eq_some_iff.mp hsh
    refine e_getI (k := 15) hx hb hts in_X6 hown hp h171 rfl (by decide) (by decide) rfl (hts _ kf6_59) rfl dX6_linesPut_171 ?_
    refine e_icmp_ge (tgt := 231) hx hb dX6_linesPut_174 (by decide) (fun c174 => ?_) (fun c174 => ?_)
    · rw [if_pos c174] at hsh
      cases hsh
      exact e_vret hx hb hrt hlk hp hS dX6_linesPut_231
    · rw [if_neg c174] at hsh
      refine e_aload_n (B := B) (x := x0) hx hb dX6_linesPut_177 rfl (hl.at 0 rfl) ?_
      obtain ⟨v178, h178, hsh⟩ := Option.bind_eq_some_iff.mp hsh
      refine e_getR (k := 12) hx hb hts in_X6 hown hp h178 rfl (by decide) (by decide) rfl (hts _ kf6_49) rfl dX6_linesPut_178 ?_
      refine lv_iload_n hx hb dX6_linesPut_181 rfl (hl.at 3 rfl) ?_
      refine lv_dup2_11 hx hb dX6_linesPut_182 rfl (e_rv_cat _ _) ?_
      obtain ⟨v183, h183, hsh⟩ := Option.bind_eq_some_iff.mp hsh
      refine e_iald hx hb hp h183 dX6_linesPut_183 ?_
      refine e_aload_n (B := B) (x := x0) hx hb dX6_linesPut_184 rfl (hl.at 0 rfl) ?_
      obtain ⟨v185, h185, hsh⟩ := Option.bind_eq_some_iff.mp hsh
      refine e_getR (k := 12) hx hb hts in_X6 hown hp h185 rfl (by decide) (by decide) rfl (hts _ kf6_49) rfl dX6_linesPut_185 ?_
      refine lv_iload_n hx hb dX6_linesPut_188 rfl (hl.at 3 rfl) ?_
      obtain ⟨v189, h189, hsh⟩ := Option.bind_eq_some_iff.mp hsh
      refine e_iald hx hb hp h189 dX6_linesPut_189 ?_
      refine lv_iload_n hx hb dX6_linesPut_190 rfl (hl.at 1 rfl) ?_
      refine e_icmp_lt (tgt := 198) hx hb dX6_linesPut_191 (by decide) (fun c191 => ?_) (fun c191 => ?_)
      · rw [if_pos c191] at hsh
        refine lv_iconst (v := iI (0)) hx hb dX6_linesPut_198 rfl ?_
        exact w6_linesPut_b199 (hk169 := hk169) E hp hS (hl.sub [0, 1, 2, 3] rfl) hsh
      · rw [if_neg c191] at hsh
        refine lv_iload_n hx hb dX6_linesPut_194 rfl (hl.at 2 rfl) ?_
        refine lv_goto (tgt := 199) hx hb dX6_linesPut_195 (by decide) ?_
        exact w6_linesPut_b199 (hk169 := hk169) E hp hS (hl.sub [0, 1, 2, 3] rfl) hsh
set_option maxRecDepth 100000 in
set_option maxHeartbeats 4000000 in
theorem w6_linesPut_b163 {p : Program} {l : Launch} {e : Env} {s : State} {m : MethodId} {args : Array Value} {below : List Frame} {meth : Method} {c : Code} {D : va_G} {cA : Nat → ClassId} {B : Nat} {res : HP} (E : e_En p s m args meth c cX6_linesPut RX6 4 none) {ls : Array Slot} {H : Heap} {locs : List Loc} {S : HP} {x0 : Int} {x1 : Int} {x2 : Int} {y0 : Int} {y1 : Int} {y2 : Int} (hp : e_Pic D cA B S s H) (hS : va_S (e_A B) s.heap H locs) (hl : e_lo ls 4 [(0, e_rv B (x0)), (1, .int (iI (x1))), (2, .int (iI (x2)))]) (hsh : s6_linesPut_b163 S x0 x1 x2 y0 y1 y2 = some res) : W p l e ({ frames := 0, cells := 0, slots := 0, locals := 0 } : Room) s m args below meth c H locs 0 0 (MQ below (e_Qv D cA B res) args s 0 0 (e_A B)) (F0 m 163 ls [.int (iI (y2)), .int (iI (y1)), e_rv B (y0)]) := by
  obtain ⟨hx, hb, hml, hown, hts, hlk, hrt⟩ := id E
  unfold s6_linesPut_b163 at hsh
  refine e_iadd hx hb dX6_linesPut_163 ?_
  obtain ⟨S164, h164, hsh⟩ := Option.bind_eq_some_iff.mp hsh
  refine e_putI (k := 10) hx hb hts in_X6 tyX6 tyX6_ok nmX6 hown hp hS h164 rfl (by decide) (by decide) rfl (hts _ kf6_43) rfl rfl (by decide +kernel) dX6_linesPut_164 (fun H locs hp hS => ?_)
  refine lv_iconst (v := iI (0)) hx hb dX6_linesPut_167 rfl ?_
  refine e_istore_n (lv' := [(3, .int (iI (0))), (0, e_rv B (x0)), (1, .int (iI (x1))), (2, .int (iI (x2)))]) hx hb dX6_linesPut_168 rfl hl (by decide) rfl (fun ls hl => ?_)
  exact w6_linesPut_l169 E 1000000 hp hS (hl.sub [1, 2, 3, 0] rfl) hsh
set_option maxRecDepth 100000 in
set_option maxHeartbeats 4000000 in
theorem w6_linesPut_b131 {p : Program} {l : Launch} {e : Env} {s : State} {m : MethodId} {args : Array Value} {below : List Frame} {meth : Method} {c : Code} {D : va_G} {cA : Nat → ClassId} {B : Nat} {res : HP} {k95 : HP → Int → Int → Int → Int → Option (HP)} (hk95 : ∀ {ls : Array Slot} {H : Heap} {locs : List Loc} {S : HP} {x0 : Int} {x1 : Int} {x2 : Int} {x3 : Int} (hp : e_Pic D cA B S s H) (hS : va_S (e_A B) s.heap H locs) (hl : e_lo ls 4 [(0, e_rv B (x0)), (1, .int (iI (x1))), (2, .int (iI (x2))), (3, .int (iI (x3)))]) (hsh : k95 S x0 x1 x2 x3 = some res), W p l e ({ frames := 0, cells := 0, slots := 0, locals := 0 } : Room) s m args below meth c H locs 0 0 (MQ below (e_Qv D cA B res) args s 0 0 (e_A B)) (F0 m 95 ls [])) (E : e_En p s m args meth c cX6_linesPut RX6 4 none) {ls : Array Slot} {H : Heap} {locs : List Loc} {S : HP} {x0 : Int} {x1 : Int} {x2 : Int} {x3 : Int} {y0 : Int} {y1 : Int} {y2 : Int} {y3 : Int} (hp : e_Pic D cA B S s H) (hS : va_S (e_A B) s.heap H locs) (hl : e_lo ls 4 [(0, e_rv B (x0)), (1, .int (iI (x1))), (2, .int (iI (x2))), (3, .int (iI (x3)))]) (hsh : s6_linesPut_b131 k95 S x0 x1 x2 x3 y0 y1 y2 y3 = some res) : W p l e ({ frames := 0, cells := 0, slots := 0, locals := 0 } : Room) s m args below meth c H locs 0 0 (MQ below (e_Qv D cA B res) args s 0 0 (e_A B)) (F0 m 131 ls [.int (iI (y3)), .int (iI (y2)), .int (iI (y1)), e_rv B (y0)]) := by
  obtain ⟨hx, hb, hml, hown, hts, hlk, hrt⟩ := id E
  unfold s6_linesPut_b131 at hsh
  refine e_iadd hx hb dX6_linesPut_131 ?_
  obtain ⟨S132, h132, hsh⟩ := Option.bind_eq_some_iff.mp hsh
  refine e_iast hx hb hp hS h132 dX6_linesPut_132 (fun H locs hp hS => ?_)
  refine e_iinc (n := 1) (x := x3) (lv' := [(3, .int (iI ((x3 + 1)))), (0, e_rv B (x0)), (1, .int (iI (x1))), (2, .int (iI (x2)))]) hx hb dX6_linesPut_133 hl (k := 3) rfl (by decide) rfl (fun ls hl => ?_)
  refine lv_goto (tgt := 95) hx hb dX6_linesPut_136 (by decide) ?_
  exact hk95 hp hS (hl.sub [1, 2, 3, 0] rfl) hsh
set_option maxRecDepth 100000 in
set_option maxHeartbeats 4000000 in
theorem w6_linesPut_l95 {p : Program} {l : Launch} {e : Env} {s : State} {m : MethodId} {args : Array Value} {below : List Frame} {meth : Method} {c : Code} {D : va_G} {cA : Nat → ClassId} {B : Nat} {res : HP} (E : e_En p s m args meth c cX6_linesPut RX6 4 none) : ∀ (f : Nat) {ls : Array Slot} {H : Heap} {locs : List Loc} {S : HP} {x0 : Int} {x1 : Int} {x2 : Int} {x3 : Int} (hp : e_Pic D cA B S s H) (hS : va_S (e_A B) s.heap H locs) (hl : e_lo ls 4 [(0, e_rv B (x0)), (1, .int (iI (x1))), (2, .int (iI (x2))), (3, .int (iI (x3)))]) (hsh : s6_linesPut_l95 f S x0 x1 x2 x3 = some res), W p l e ({ frames := 0, cells := 0, slots := 0, locals := 0 } : Room) s m args below meth c H locs 0 0 (MQ below (e_Qv D cA B res) args s 0 0 (e_A B)) (F0 m 95 ls []) := by
  obtain ⟨hx, hb, hml, hown, hts, hlk, hrt⟩ := id E
  intro f
  induction f with
  | zero => intro ls H locs S x0 x1 x2 x3 hp hS hl hsh; cases hsh
  | succ f ih =>
    intro ls H locs S x0 x1 x2 x3 hp hS hl hsh
    have hk95 : ∀ {ls : Array Slot} {H : Heap} {locs : List Loc} {S : HP} {x0 : Int} {x1 : Int} {x2 : Int} {x3 : Int} (hp : e_Pic D cA B S s H) (hS : va_S (e_A B) s.heap H locs) (hl : e_lo ls 4 [(0, e_rv B (x0)), (1, .int (iI (x1))), (2, .int (iI (x2))), (3, .int (iI (x3)))]) (hsh : (s6_linesPut_l95 f) S x0 x1 x2 x3 = some res), W p l e ({ frames := 0, cells := 0, slots := 0, locals := 0 } : Room) s m args below meth c H locs 0 0 (MQ below (e_Qv D cA B res) args s 0 0 (e_A B)) (F0 m 95 ls []) := ih
    generalize hkk : s6_linesPut_l95 f = k95 at hk95
    rw [s6_linesPut_l95] at hsh
    rw [hkk] at hsh
    try dsimp only at hsh
    refine lv_iload_n hx hb dX6_linesPut_95 rfl (hl.at 3 rfl) ?_
    refine e_aload_n (B := B) (x := x0) hx hb dX6_linesPut_96 rfl (hl.at 0 rfl) ?_
    obtain ⟨v97, h97, hsh⟩ := Option.bind_eq_some_iff.mp hsh
    refine e_getI (k := 9) hx hb hts in_X6 hown hp h97 rfl (by decide) (by decide) rfl (hts _ kf6_40) rfl dX6_linesPut_97 ?_
    refine e_icmp_ge (tgt := 139) hx hb dX6_linesPut_100 (by decide) (fun c100 => ?_) (fun c100 => ?_)
    · rw [if_pos c100] at hsh
      refine e_aload_n (B := B) (x := x0) hx hb dX6_linesPut_139 rfl (hl.at 0 rfl) ?_
      refine lv_dup hx hb dX6_linesPut_140 (e_rv_cat _ _) ?_
      obtain ⟨v141, h141, hsh⟩ := Option.bind_eq_some_iff.mp hsh
      refine e_getI (k := 10) hx hb hts in_X6 hown hp h141 rfl (by decide) (by decide) rfl (hts _ kf6_43) rfl dX6_linesPut_141 ?_
      refine e_aload_n (B := B) (x := x0) hx hb dX6_linesPut_144 rfl (hl.at 0 rfl) ?_
      obtain ⟨v145, h145, hsh⟩ := Option.bind_eq_some_iff.mp hsh
      refine e_getI (k := 10) hx hb hts in_X6 hown hp h145 rfl (by decide) (by decide) rfl (hts _ kf6_43) rfl dX6_linesPut_145 ?_
      refine lv_iload_n hx hb dX6_linesPut_148 rfl (hl.at 1 rfl) ?_
      refine lv_bipush (v := iI (100)) hx hb dX6_linesPut_149 (by decide +kernel) ?_
      refine e_imul hx hb dX6_linesPut_151 ?_
      refine e_icmp_lt (tgt := 162) hx hb dX6_linesPut_152 (by decide) (fun c152 => ?_) (fun c152 => ?_)
      · rw [if_pos c152] at hsh
        refine lv_iconst (v := iI (0)) hx hb dX6_linesPut_162 rfl ?_
        exact w6_linesPut_b163 E hp hS (hl.sub [0, 1, 2] rfl) hsh
      · rw [if_neg c152] at hsh
        refine lv_iload_n hx hb dX6_linesPut_155 rfl (hl.at 2 rfl) ?_
        refine lv_bipush (v := iI (100)) hx hb dX6_linesPut_156 (by decide +kernel) ?_
        refine e_imul hx hb dX6_linesPut_158 ?_
        refine lv_goto (tgt := 163) hx hb dX6_linesPut_159 (by decide) ?_
        exact w6_linesPut_b163 E hp hS (hl.sub [0, 1, 2] rfl) hsh
    · rw [if_neg c100] at hsh
      refine e_aload_n (B := B) (x := x0) hx hb dX6_linesPut_103 rfl (hl.at 0 rfl) ?_
      obtain ⟨v104, h104, hsh⟩ := Option.bind_eq_some_iff.mp hsh
      refine e_getR (k := 8) hx hb hts in_X6 hown hp h104 rfl (by decide) (by decide) rfl (hts _ kf6_37) rfl dX6_linesPut_104 ?_
      refine lv_iload_n hx hb dX6_linesPut_107 rfl (hl.at 3 rfl) ?_
      refine lv_dup2_11 hx hb dX6_linesPut_108 rfl (e_rv_cat _ _) ?_
      obtain ⟨v109, h109, hsh⟩ := Option.bind_eq_some_iff.mp hsh
      refine e_iald hx hb hp h109 dX6_linesPut_109 ?_
      refine e_aload_n (B := B) (x := x0) hx hb dX6_linesPut_110 rfl (hl.at 0 rfl) ?_
      obtain ⟨v111, h111, hsh⟩ := Option.bind_eq_some_iff.mp hsh
      refine e_getR (k := 8) hx hb hts in_X6 hown hp h111 rfl (by decide) (by decide) rfl (hts _ kf6_37) rfl dX6_linesPut_111 ?_
      refine lv_iload_n hx hb dX6_linesPut_114 rfl (hl.at 3 rfl) ?_
      obtain ⟨v115, h115, hsh⟩ := Option.bind_eq_some_iff.mp hsh
      refine e_iald hx hb hp h115 dX6_linesPut_115 ?_
      refine lv_iload_n hx hb dX6_linesPut_116 rfl (hl.at 1 rfl) ?_
      refine lv_bipush (v := iI (100)) hx hb dX6_linesPut_117 (by decide +kernel) ?_
      refine e_imul hx hb dX6_linesPut_119 ?_
      refine e_icmp_lt (tgt := 130) hx hb dX6_linesPut_120 (by decide) (fun c120 => ?_) (fun c120 => ?_)
      · rw [if_pos c120] at hsh
        refine lv_iconst (v := iI (0)) hx hb dX6_linesPut_130 rfl ?_
        exact w6_linesPut_b131 (hk95 := hk95) E hp hS (hl.sub [0, 1, 2, 3] rfl) hsh
      · rw [if_neg c120] at hsh
        refine lv_iload_n hx hb dX6_linesPut_123 rfl (hl.at 2 rfl) ?_
        refine lv_bipush (v := iI (100)) hx hb dX6_linesPut_124 (by decide +kernel) ?_
        refine e_imul hx hb dX6_linesPut_126 ?_
        refine lv_goto (tgt := 131) hx hb dX6_linesPut_127 (by decide) ?_
        exact w6_linesPut_b131 (hk95 := hk95) E hp hS (hl.sub [0, 1, 2, 3] rfl) hsh
set_option maxRecDepth 100000 in
set_option maxHeartbeats 4000000 in
theorem w6_linesPut_b85 {p : Program} {l : Launch} {e : Env} {s : State} {m : MethodId} {args : Array Value} {below : List Frame} {meth : Method} {c : Code} {D : va_G} {cA : Nat → ClassId} {B : Nat} {res : HP} {k49 : HP → Int → Int → Int → Int → Option (HP)} (hk49 : ∀ {ls : Array Slot} {H : Heap} {locs : List Loc} {S : HP} {x0 : Int} {x1 : Int} {x2 : Int} {x3 : Int} (hp : e_Pic D cA B S s H) (hS : va_S (e_A B) s.heap H locs) (hl : e_lo ls 4 [(0, e_rv B (x0)), (1, .int (iI (x1))), (2, .int (iI (x2))), (3, .int (iI (x3)))]) (hsh : k49 S x0 x1 x2 x3 = some res), W p l e ({ frames := 0, cells := 0, slots := 0, locals := 0 } : Room) s m args below meth c H locs 0 0 (MQ below (e_Qv D cA B res) args s 0 0 (e_A B)) (F0 m 49 ls [])) (E : e_En p s m args meth c cX6_linesPut RX6 4 none) {ls : Array Slot} {H : Heap} {locs : List Loc} {S : HP} {x0 : Int} {x1 : Int} {x2 : Int} {x3 : Int} {y0 : Int} {y1 : Int} {y2 : Int} {y3 : Int} (hp : e_Pic D cA B S s H) (hS : va_S (e_A B) s.heap H locs) (hl : e_lo ls 4 [(0, e_rv B (x0)), (1, .int (iI (x1))), (2, .int (iI (x2))), (3, .int (iI (x3)))]) (hsh : s6_linesPut_b85 k49 S x0 x1 x2 x3 y0 y1 y2 y3 = some res) : W p l e ({ frames := 0, cells := 0, slots := 0, locals := 0 } : Room) s m args below meth c H locs 0 0 (MQ below (e_Qv D cA B res) args s 0 0 (e_A B)) (F0 m 85 ls [.int (iI (y3)), .int (iI (y2)), .int (iI (y1)), e_rv B (y0)]) := by
  obtain ⟨hx, hb, hml, hown, hts, hlk, hrt⟩ := id E
  unfold s6_linesPut_b85 at hsh
  refine e_iadd hx hb dX6_linesPut_85 ?_
  obtain ⟨S86, h86, hsh⟩ := Option.bind_eq_some_iff.mp hsh
  refine e_iast hx hb hp hS h86 dX6_linesPut_86 (fun H locs hp hS => ?_)
  refine e_iinc (n := 1) (x := x3) (lv' := [(3, .int (iI ((x3 + 1)))), (0, e_rv B (x0)), (1, .int (iI (x1))), (2, .int (iI (x2)))]) hx hb dX6_linesPut_87 hl (k := 3) rfl (by decide) rfl (fun ls hl => ?_)
  refine lv_goto (tgt := 49) hx hb dX6_linesPut_90 (by decide) ?_
  exact hk49 hp hS (hl.sub [1, 2, 3, 0] rfl) hsh
set_option maxRecDepth 100000 in
set_option maxHeartbeats 4000000 in
theorem w6_linesPut_l49 {p : Program} {l : Launch} {e : Env} {s : State} {m : MethodId} {args : Array Value} {below : List Frame} {meth : Method} {c : Code} {D : va_G} {cA : Nat → ClassId} {B : Nat} {res : HP} (E : e_En p s m args meth c cX6_linesPut RX6 4 none) : ∀ (f : Nat) {ls : Array Slot} {H : Heap} {locs : List Loc} {S : HP} {x0 : Int} {x1 : Int} {x2 : Int} {x3 : Int} (hp : e_Pic D cA B S s H) (hS : va_S (e_A B) s.heap H locs) (hl : e_lo ls 4 [(0, e_rv B (x0)), (1, .int (iI (x1))), (2, .int (iI (x2))), (3, .int (iI (x3)))]) (hsh : s6_linesPut_l49 f S x0 x1 x2 x3 = some res), W p l e ({ frames := 0, cells := 0, slots := 0, locals := 0 } : Room) s m args below meth c H locs 0 0 (MQ below (e_Qv D cA B res) args s 0 0 (e_A B)) (F0 m 49 ls []) := by
  obtain ⟨hx, hb, hml, hown, hts, hlk, hrt⟩ := id E
  intro f
  induction f with
  | zero => intro ls H locs S x0 x1 x2 x3 hp hS hl hsh; cases hsh
  | succ f ih =>
    intro ls H locs S x0 x1 x2 x3 hp hS hl hsh
    have hk49 : ∀ {ls : Array Slot} {H : Heap} {locs : List Loc} {S : HP} {x0 : Int} {x1 : Int} {x2 : Int} {x3 : Int} (hp : e_Pic D cA B S s H) (hS : va_S (e_A B) s.heap H locs) (hl : e_lo ls 4 [(0, e_rv B (x0)), (1, .int (iI (x1))), (2, .int (iI (x2))), (3, .int (iI (x3)))]) (hsh : (s6_linesPut_l49 f) S x0 x1 x2 x3 = some res), W p l e ({ frames := 0, cells := 0, slots := 0, locals := 0 } : Room) s m args below meth c H locs 0 0 (MQ below (e_Qv D cA B res) args s 0 0 (e_A B)) (F0 m 49 ls []) := ih
    generalize hkk : s6_linesPut_l49 f = k49 at hk49
    rw [s6_linesPut_l49] at hsh
    rw [hkk] at hsh
    try dsimp only at hsh
    refine lv_iload_n hx hb dX6_linesPut_49 rfl (hl.at 3 rfl) ?_
    refine e_aload_n (B := B) (x := x0) hx hb dX6_linesPut_50 rfl (hl.at 0 rfl) ?_
    obtain ⟨v51, h51, hsh⟩ := Option.bind_eq_some_iff.mp hsh
    refine e_getI (k := 6) hx hb hts in_X6 hown hp h51 rfl (by decide) (by decide) rfl (hts _ kf6_31) rfl dX6_linesPut_51 ?_
    refine e_icmp_ge (tgt := 93) hx hb dX6_linesPut_54 (by decide) (fun c54 => ?_) (fun c54 => ?_)
    · rw [if_pos c54] at hsh
      refine lv_iconst (v := iI (0)) hx hb dX6_linesPut_93 rfl ?_
      refine e_istore_n (lv' := [(3, .int (iI (0))), (0, e_rv B (x0)), (1, .int (iI (x1))), (2, .int (iI (x2)))]) hx hb dX6_linesPut_94 rfl hl (by decide) rfl (fun ls hl => ?_)
      exact w6_linesPut_l95 E 1000000 hp hS (hl.sub [1, 2, 3, 0] rfl) hsh
    · rw [if_neg c54] at hsh
      refine e_aload_n (B := B) (x := x0) hx hb dX6_linesPut_57 rfl (hl.at 0 rfl) ?_
      obtain ⟨v58, h58, hsh⟩ := Option.bind_eq_some_iff.mp hsh
      refine e_getR (k := 5) hx hb hts in_X6 hown hp h58 rfl (by decide) (by decide) rfl (hts _ kf6_28) rfl dX6_linesPut_58 ?_
      refine lv_iload_n hx hb dX6_linesPut_61 rfl (hl.at 3 rfl) ?_
      refine lv_dup2_11 hx hb dX6_linesPut_62 rfl (e_rv_cat _ _) ?_
      obtain ⟨v63, h63, hsh⟩ := Option.bind_eq_some_iff.mp hsh
      refine e_iald hx hb hp h63 dX6_linesPut_63 ?_
      refine e_aload_n (B := B) (x := x0) hx hb dX6_linesPut_64 rfl (hl.at 0 rfl) ?_
      obtain ⟨v65, h65, hsh⟩ := Option.bind_eq_some_iff.mp hsh
      refine e_getR (k := 5) hx hb hts in_X6 hown hp h65 rfl (by decide) (by decide) rfl (hts _ kf6_28) rfl dX6_linesPut_65 ?_
      refine lv_iload_n hx hb dX6_linesPut_68 rfl (hl.at 3 rfl) ?_
      obtain ⟨v69, h69, hsh⟩ := Option.bind_eq_some_iff.mp hsh
      refine e_iald hx hb hp h69 dX6_linesPut_69 ?_
      refine lv_iload_n hx hb dX6_linesPut_70 rfl (hl.at 1 rfl) ?_
      refine lv_bipush (v := iI (100)) hx hb dX6_linesPut_71 (by decide +kernel) ?_
      refine e_imul hx hb dX6_linesPut_73 ?_
      refine e_icmp_lt (tgt := 84) hx hb dX6_linesPut_74 (by decide) (fun c74 => ?_) (fun c74 => ?_)
      · rw [if_pos c74] at hsh
        refine lv_iconst (v := iI (0)) hx hb dX6_linesPut_84 rfl ?_
        exact w6_linesPut_b85 (hk49 := hk49) E hp hS (hl.sub [0, 1, 2, 3] rfl) hsh
      · rw [if_neg c74] at hsh
        refine lv_iload_n hx hb dX6_linesPut_77 rfl (hl.at 2 rfl) ?_
        refine lv_bipush (v := iI (100)) hx hb dX6_linesPut_78 (by decide +kernel) ?_
        refine e_imul hx hb dX6_linesPut_80 ?_
        refine lv_goto (tgt := 85) hx hb dX6_linesPut_81 (by decide) ?_
        exact w6_linesPut_b85 (hk49 := hk49) E hp hS (hl.sub [0, 1, 2, 3] rfl) hsh
set_option maxRecDepth 100000 in
set_option maxHeartbeats 4000000 in
theorem w6_linesPut_b39 {p : Program} {l : Launch} {e : Env} {s : State} {m : MethodId} {args : Array Value} {below : List Frame} {meth : Method} {c : Code} {D : va_G} {cA : Nat → ClassId} {B : Nat} {res : HP} {k2 : HP → Int → Int → Int → Int → Option (HP)} (hk2 : ∀ {ls : Array Slot} {H : Heap} {locs : List Loc} {S : HP} {x0 : Int} {x1 : Int} {x2 : Int} {x3 : Int} (hp : e_Pic D cA B S s H) (hS : va_S (e_A B) s.heap H locs) (hl : e_lo ls 4 [(0, e_rv B (x0)), (1, .int (iI (x1))), (2, .int (iI (x2))), (3, .int (iI (x3)))]) (hsh : k2 S x0 x1 x2 x3 = some res), W p l e ({ frames := 0, cells := 0, slots := 0, locals := 0 } : Room) s m args below meth c H locs 0 0 (MQ below (e_Qv D cA B res) args s 0 0 (e_A B)) (F0 m 2 ls [])) (E : e_En p s m args meth c cX6_linesPut RX6 4 none) {ls : Array Slot} {H : Heap} {locs : List Loc} {S : HP} {x0 : Int} {x1 : Int} {x2 : Int} {x3 : Int} {y0 : Int} {y1 : Int} {y2 : Int} {y3 : Int} (hp : e_Pic D cA B S s H) (hS : va_S (e_A B) s.heap H locs) (hl : e_lo ls 4 [(0, e_rv B (x0)), (1, .int (iI (x1))), (2, .int (iI (x2))), (3, .int (iI (x3)))]) (hsh : s6_linesPut_b39 k2 S x0 x1 x2 x3 y0 y1 y2 y3 = some res) : W p l e ({ frames := 0, cells := 0, slots := 0, locals := 0 } : Room) s m args below meth c H locs 0 0 (MQ below (e_Qv D cA B res) args s 0 0 (e_A B)) (F0 m 39 ls [.int (iI (y3)), .int (iI (y2)), .int (iI (y1)), e_rv B (y0)]) := by
  obtain ⟨hx, hb, hml, hown, hts, hlk, hrt⟩ := id E
  unfold s6_linesPut_b39 at hsh
  refine e_iadd hx hb dX6_linesPut_39 ?_
  obtain ⟨S40, h40, hsh⟩ := Option.bind_eq_some_iff.mp hsh
  refine e_iast hx hb hp hS h40 dX6_linesPut_40 (fun H locs hp hS => ?_)
  refine e_iinc (n := 1) (x := x3) (lv' := [(3, .int (iI ((x3 + 1)))), (0, e_rv B (x0)), (1, .int (iI (x1))), (2, .int (iI (x2)))]) hx hb dX6_linesPut_41 hl (k := 3) rfl (by decide) rfl (fun ls hl => ?_)
  refine lv_goto (tgt := 2) hx hb dX6_linesPut_44 (by decide) ?_
  exact hk2 hp hS (hl.sub [1, 2, 3, 0] rfl) hsh
set_option maxRecDepth 100000 in
set_option maxHeartbeats 4000000 in
theorem w6_linesPut_l2 {p : Program} {l : Launch} {e : Env} {s : State} {m : MethodId} {args : Array Value} {below : List Frame} {meth : Method} {c : Code} {D : va_G} {cA : Nat → ClassId} {B : Nat} {res : HP} (E : e_En p s m args meth c cX6_linesPut RX6 4 none) : ∀ (f : Nat) {ls : Array Slot} {H : Heap} {locs : List Loc} {S : HP} {x0 : Int} {x1 : Int} {x2 : Int} {x3 : Int} (hp : e_Pic D cA B S s H) (hS : va_S (e_A B) s.heap H locs) (hl : e_lo ls 4 [(0, e_rv B (x0)), (1, .int (iI (x1))), (2, .int (iI (x2))), (3, .int (iI (x3)))]) (hsh : s6_linesPut_l2 f S x0 x1 x2 x3 = some res), W p l e ({ frames := 0, cells := 0, slots := 0, locals := 0 } : Room) s m args below meth c H locs 0 0 (MQ below (e_Qv D cA B res) args s 0 0 (e_A B)) (F0 m 2 ls []) := by
  obtain ⟨hx, hb, hml, hown, hts, hlk, hrt⟩ := id E
  intro f
  induction f with
  | zero => intro ls H locs S x0 x1 x2 x3 hp hS hl hsh; cases hsh
  | succ f ih =>
    intro ls H locs S x0 x1 x2 x3 hp hS hl hsh
    have hk2 : ∀ {ls : Array Slot} {H : Heap} {locs : List Loc} {S : HP} {x0 : Int} {x1 : Int} {x2 : Int} {x3 : Int} (hp : e_Pic D cA B S s H) (hS : va_S (e_A B) s.heap H locs) (hl : e_lo ls 4 [(0, e_rv B (x0)), (1, .int (iI (x1))), (2, .int (iI (x2))), (3, .int (iI (x3)))]) (hsh : (s6_linesPut_l2 f) S x0 x1 x2 x3 = some res), W p l e ({ frames := 0, cells := 0, slots := 0, locals := 0 } : Room) s m args below meth c H locs 0 0 (MQ below (e_Qv D cA B res) args s 0 0 (e_A B)) (F0 m 2 ls []) := ih
    generalize hkk : s6_linesPut_l2 f = k2 at hk2
    rw [s6_linesPut_l2] at hsh
    rw [hkk] at hsh
    try dsimp only at hsh
    refine lv_iload_n hx hb dX6_linesPut_2 rfl (hl.at 3 rfl) ?_
    refine e_aload_n (B := B) (x := x0) hx hb dX6_linesPut_3 rfl (hl.at 0 rfl) ?_
    obtain ⟨v4, h4, hsh⟩ := Option.bind_eq_some_iff.mp hsh
    refine e_getR (k := 4) hx hb hts in_X6 hown hp h4 rfl (by decide) (by decide) rfl (hts _ kf6_24) rfl dX6_linesPut_4 ?_
    obtain ⟨v7, h7, hsh⟩ := Option.bind_eq_some_iff.mp hsh
    refine e_alen (t := 101) (t0 := 1) hx hb hp h7 (by decide) rfl dX6_linesPut_7 ?_
    refine e_icmp_ge (tgt := 47) hx hb dX6_linesPut_8 (by decide) (fun c8 => ?_) (fun c8 => ?_)
    · rw [if_pos c8] at hsh
      refine lv_iconst (v := iI (0)) hx hb dX6_linesPut_47 rfl ?_
      refine e_istore_n (lv' := [(3, .int (iI (0))), (0, e_rv B (x0)), (1, .int (iI (x1))), (2, .int (iI (x2)))]) hx hb dX6_linesPut_48 rfl hl (by decide) rfl (fun ls hl => ?_)
      exact w6_linesPut_l49 E 1000000 hp hS (hl.sub [1, 2, 3, 0] rfl) hsh
    · rw [if_neg c8] at hsh
      refine e_aload_n (B := B) (x := x0) hx hb dX6_linesPut_11 rfl (hl.at 0 rfl) ?_
      obtain ⟨v12, h12, hsh⟩ := Option.bind_eq_some_iff.mp hsh
      refine e_getR (k := 4) hx hb hts in_X6 hown hp h12 rfl (by decide) (by decide) rfl (hts _ kf6_24) rfl dX6_linesPut_12 ?_
      refine lv_iload_n hx hb dX6_linesPut_15 rfl (hl.at 3 rfl) ?_
      refine lv_dup2_11 hx hb dX6_linesPut_16 rfl (e_rv_cat _ _) ?_
      obtain ⟨v17, h17, hsh⟩ := Option.bind_eq_some_iff.mp hsh
      refine e_iald hx hb hp h17 dX6_linesPut_17 ?_
      refine e_aload_n (B := B) (x := x0) hx hb dX6_linesPut_18 rfl (hl.at 0 rfl) ?_
      obtain ⟨v19, h19, hsh⟩ := Option.bind_eq_some_iff.mp hsh
      refine e_getR (k := 4) hx hb hts in_X6 hown hp h19 rfl (by decide) (by decide) rfl (hts _ kf6_24) rfl dX6_linesPut_19 ?_
      refine lv_iload_n hx hb dX6_linesPut_22 rfl (hl.at 3 rfl) ?_
      obtain ⟨v23, h23, hsh⟩ := Option.bind_eq_some_iff.mp hsh
      refine e_iald hx hb hp h23 dX6_linesPut_23 ?_
      refine lv_iload_n hx hb dX6_linesPut_24 rfl (hl.at 1 rfl) ?_
      refine lv_bipush (v := iI (100)) hx hb dX6_linesPut_25 (by decide +kernel) ?_
      refine e_imul hx hb dX6_linesPut_27 ?_
      refine e_icmp_lt (tgt := 38) hx hb dX6_linesPut_28 (by decide) (fun c28 => ?_) (fun c28 => ?_)
      · rw [if_pos c28] at hsh
        refine lv_iconst (v := iI (0)) hx hb dX6_linesPut_38 rfl ?_
        exact w6_linesPut_b39 (hk2 := hk2) E hp hS (hl.sub [0, 1, 2, 3] rfl) hsh
      · rw [if_neg c28] at hsh
        refine lv_iload_n hx hb dX6_linesPut_31 rfl (hl.at 2 rfl) ?_
        refine lv_bipush (v := iI (100)) hx hb dX6_linesPut_32 (by decide +kernel) ?_
        refine e_imul hx hb dX6_linesPut_34 ?_
        refine lv_goto (tgt := 39) hx hb dX6_linesPut_35 (by decide) ?_
        exact w6_linesPut_b39 (hk2 := hk2) E hp hS (hl.sub [0, 1, 2, 3] rfl) hsh
set_option maxRecDepth 100000 in
set_option maxHeartbeats 4000000 in
theorem c6_linesPut (l : Launch) (D : va_G) (cA : Nat → ClassId) (B : Nat) (S S' : HP) (x0 : Int) (x1 : Int) (x2 : Int) (hsh : s6_linesPut S x0 x1 x2 = some S') : Met l yX6_linesPut (e_wu yX6_linesPut cX6_linesPut 4 none) ({ frames := 0, cells := 0, slots := 0, locals := 0 } : Room) (va_Pc [e_rv B (x0), .int (iI (x1)), .int (iI (x2))] (fun U => e_PU D cA B S U)) (e_Qv D cA B S') 0 0 (e_A B) := by
  refine Met.ofW (cc := cX6_linesPut) (maxL := 4) (ret := none) (by decide +kernel) rfl ?_
  intro p e s m args below meth c s₁ Bd hml hv
  obtain ⟨rfl, hp⟩ := hv
  have hp : e_Pic D cA B S s s.heap := hp
  have hx := Bd.exec
  have hb := Bd.bytes
  have hrt := Bd.returns
  have hlk := Bd.notSynchronized
  have hown : s.vm.findClass RX6 = some m.cls := findClass_of_methodNamed Bd.named
  have hts : ∀ w ∈ e_tb, w.before ([e_rv B (x0), .int (iI (x1)), .int (iI (x2))] : List Value).toArray s = true := fun w h => atoms_spec (ws := (e_wu yX6_linesPut cX6_linesPut 4 none)) Bd.pre w (List.mem_cons_of_mem _ h)
  have E : e_En p s m ([e_rv B (x0), .int (iI (x1)), .int (iI (x2))] : List Value).toArray meth c cX6_linesPut RX6 4 none := ⟨hx, hb, hml, hown, hts, hlk, hrt⟩
  have hS : va_S (e_A B) s.heap s.heap [] := va_S.rf
  have hl := e_entry (vs := [e_rv B (x0), .int (iI (x1)), .int (iI (x2))]) (n := 4) (Nat.le_of_ble_eq_true rfl) (e_cc (e_rv_cat _ _) (e_cc rfl (e_cc rfl e_cn)))
  rw [lg_entry_eq]
  generalize (lg_sl [e_rv B (x0), .int (iI (x1)), .int (iI (x2))] ++ List.replicate (4 - (lg_sl [e_rv B (x0), .int (iI (x1)), .int (iI (x2))]).length) Slot.unset).toArray = ls at hl ⊢
  generalize ([e_rv B (x0), .int (iI (x1)), .int (iI (x2))] : List Value).toArray = args at hts E ⊢
  have hl : e_lo ls 4 [(0, e_rv B (x0)), (1, .int (iI (x1))), (2, .int (iI (x2)))] := hl
  have hsh := (gd_some hsh).2
  refine lv_iconst (v := iI (0)) hx hb dX6_linesPut_0 rfl ?_
  refine e_istore_n (lv' := [(3, .int (iI (0))), (0, e_rv B (x0)), (1, .int (iI (x1))), (2, .int (iI (x2)))]) hx hb dX6_linesPut_1 rfl hl (by decide) rfl (fun ls hl => ?_)
  exact w6_linesPut_l2 E 1000000 hp hS (hl.sub [1, 2, 3, 0] rfl) hsh
theorem ok6_linesGone {S : HP} {x0 : Int} {x1 : Int} {x2 : Int} {x3 : Int} {r : HP} (h : s6_linesGone S x0 x1 x2 x3 = some r) : 0 ≤ x0 ∧ x0.toNat < e_n S ∧ e_g S x0.toNat = 6 := (gd_some h).1
set_option maxRecDepth 100000 in
set_option maxHeartbeats 4000000 in
theorem w6_linesGone_b470 {p : Program} {l : Launch} {e : Env} {s : State} {m : MethodId} {args : Array Value} {below : List Frame} {meth : Method} {c : Code} {D : va_G} {cA : Nat → ClassId} {B : Nat} {res : HP} {k345 : HP → Int → Int → Int → Int → Int → Option (HP)} (hk345 : ∀ {ls : Array Slot} {H : Heap} {locs : List Loc} {S : HP} {x0 : Int} {x1 : Int} {x2 : Int} {x6 : Int} {x8 : Int} (hp : e_Pic D cA B S s H) (hS : va_S (e_A B) s.heap H locs) (hl : e_lo ls 11 [(0, e_rv B (x0)), (1, .int (iI (x1))), (2, .int (iI (x2))), (6, .int (iI (x6))), (8, .int (iI (x8)))]) (hsh : k345 S x0 x1 x2 x6 x8 = some res), W p l e ({ frames := 1, cells := 0, slots := 0, locals := 21 } : Room) s m args below meth c H locs 0 0 (MQ below (e_Qv D cA B res) args s 0 0 (e_A B)) (F0 m 345 ls [])) (E : e_En p s m args meth c cX6_linesGone RX6 11 none) {ls : Array Slot} {H : Heap} {locs : List Loc} {S : HP} {x0 : Int} {x1 : Int} {x2 : Int} {x6 : Int} {x8 : Int} (hp : e_Pic D cA B S s H) (hS : va_S (e_A B) s.heap H locs) (hl : e_lo ls 11 [(0, e_rv B (x0)), (1, .int (iI (x1))), (2, .int (iI (x2))), (6, .int (iI (x6))), (8, .int (iI (x8)))]) (hsh : s6_linesGone_b470 k345 S x0 x1 x2 x6 x8 = some res) : W p l e ({ frames := 1, cells := 0, slots := 0, locals := 21 } : Room) s m args below meth c H locs 0 0 (MQ below (e_Qv D cA B res) args s 0 0 (e_A B)) (F0 m 470 ls []) := by
  obtain ⟨hx, hb, hml, hown, hts, hlk, hrt⟩ := id E
  unfold s6_linesGone_b470 at hsh
  refine e_iinc (n := 1) (x := x8) (lv' := [(8, .int (iI ((x8 + 1)))), (0, e_rv B (x0)), (1, .int (iI (x1))), (2, .int (iI (x2))), (6, .int (iI (x6)))]) hx hb dX6_linesGone_470 hl (k := 4) rfl (by decide) rfl (fun ls hl => ?_)
  refine lv_goto (tgt := 345) hx hb dX6_linesGone_473 (by decide) ?_
  exact hk345 hp hS (hl.sub [1, 2, 3, 4, 0] rfl) hsh
set_option maxRecDepth 100000 in
set_option maxHeartbeats 4000000 in
theorem w6_linesGone_b426 {p : Program} {l : Launch} {e : Env} {s : State} {m : MethodId} {args : Array Value} {below : List Frame} {meth : Method} {c : Code} {D : va_G} {cA : Nat → ClassId} {B : Nat} {res : HP} {k345 : HP → Int → Int → Int → Int → Int → Option (HP)} (hk345 : ∀ {ls : Array Slot} {H : Heap} {locs : List Loc} {S : HP} {x0 : Int} {x1 : Int} {x2 : Int} {x6 : Int} {x8 : Int} (hp : e_Pic D cA B S s H) (hS : va_S (e_A B) s.heap H locs) (hl : e_lo ls 11 [(0, e_rv B (x0)), (1, .int (iI (x1))), (2, .int (iI (x2))), (6, .int (iI (x6))), (8, .int (iI (x8)))]) (hsh : k345 S x0 x1 x2 x6 x8 = some res), W p l e ({ frames := 1, cells := 0, slots := 0, locals := 21 } : Room) s m args below meth c H locs 0 0 (MQ below (e_Qv D cA B res) args s 0 0 (e_A B)) (F0 m 345 ls [])) (E : e_En p s m args meth c cX6_linesGone RX6 11 none) {ls : Array Slot} {H : Heap} {locs : List Loc} {S : HP} {x0 : Int} {x1 : Int} {x2 : Int} {x6 : Int} {x8 : Int} {x9 : Int} {y0 : Int} (hp : e_Pic D cA B S s H) (hS : va_S (e_A B) s.heap H locs) (hl : e_lo ls 11 [(0, e_rv B (x0)), (1, .int (iI (x1))), (2, .int (iI (x2))), (6, .int (iI (x6))), (8, .int (iI (x8))), (9, .int (iI (x9)))]) (hsh : s6_linesGone_b426 k345 S x0 x1 x2 x6 x8 x9 y0 = some res) : W p l e ({ frames := 1, cells := 0, slots := 0, locals := 21 } : Room) s m args below meth c H locs 0 0 (MQ below (e_Qv D cA B res) args s 0 0 (e_A B)) (F0 m 426 ls [.int (iI (y0))]) := by
  obtain ⟨hx, hb, hml, hown, hts, hlk, hrt⟩ := id E
  unfold s6_linesGone_b426 at hsh
  refine e_istore (lv' := [(10, .int (iI (y0))), (0, e_rv B (x0)), (1, .int (iI (x1))), (2, .int (iI (x2))), (6, .int (iI (x6))), (8, .int (iI (x8))), (9, .int (iI (x9)))]) hx hb dX6_linesGone_426 hl (by decide) rfl (fun ls hl => ?_)
  refine lv_iload hx hb dX6_linesGone_428 (hl.at 6 rfl) ?_
  refine lv_iload hx hb dX6_linesGone_430 (hl.at 0 rfl) ?_
  refine e_icmp_ge (tgt := 470) hx hb dX6_linesGone_432 (by decide) (fun c432 => ?_) (fun c432 => ?_)
  · rw [if_pos c432] at hsh
    exact w6_linesGone_b470 (hk345 := hk345) E hp hS (hl.sub [1, 2, 3, 4, 5] rfl) hsh
  · rw [if_neg c432] at hsh
    refine e_aload_n (B := B) (x := x0) hx hb dX6_linesGone_435 rfl (hl.at 1 rfl) ?_
    obtain ⟨v436, h436, hsh⟩ := Option.bind_eq_some_iff.mp hsh
    refine e_getR (k := 12) hx hb hts in_X6 hown hp h436 rfl (by decide) (by decide) rfl (hts _ kf6_49) rfl dX6_linesGone_436 ?_
    refine lv_iload hx hb dX6_linesGone_439 (hl.at 4 rfl) ?_
    refine lv_iload hx hb dX6_linesGone_441 (hl.at 6 rfl) ?_
    obtain ⟨S443, h443, hsh⟩ := Option.bind_eq_some_iff.mp hsh
    refine e_iast hx hb hp hS h443 dX6_linesGone_443 (fun H locs hp hS => ?_)
    refine e_aload_n (B := B) (x := x0) hx hb dX6_linesGone_444 rfl (hl.at 1 rfl) ?_
    obtain ⟨v445, h445, hsh⟩ := Option.bind_eq_some_iff.mp hsh
    refine e_getR (k := 13) hx hb hts in_X6 hown hp h445 rfl (by decide) (by decide) rfl (hts _ kf6_52) rfl dX6_linesGone_445 ?_
    refine lv_iload hx hb dX6_linesGone_448 (hl.at 4 rfl) ?_
    refine lv_iload hx hb dX6_linesGone_450 (hl.at 0 rfl) ?_
    obtain ⟨S452, h452, hsh⟩ := Option.bind_eq_some_iff.mp hsh
    refine e_iast hx hb hp hS h452 dX6_linesGone_452 (fun H locs hp hS => ?_)
    refine e_aload_n (B := B) (x := x0) hx hb dX6_linesGone_453 rfl (hl.at 1 rfl) ?_
    obtain ⟨v454, h454, hsh⟩ := Option.bind_eq_some_iff.mp hsh
    refine e_getR (k := 14) hx hb hts in_X6 hown hp h454 rfl (by decide) (by decide) rfl (hts _ kf6_55) rfl dX6_linesGone_454 ?_
    refine lv_iload hx hb dX6_linesGone_457 (hl.at 4 rfl) ?_
    refine e_aload_n (B := B) (x := x0) hx hb dX6_linesGone_459 rfl (hl.at 1 rfl) ?_
    obtain ⟨v460, h460, hsh⟩ := Option.bind_eq_some_iff.mp hsh
    refine e_getR (k := 14) hx hb hts in_X6 hown hp h460 rfl (by decide) (by decide) rfl (hts _ kf6_55) rfl dX6_linesGone_460 ?_
    refine lv_iload hx hb dX6_linesGone_463 (hl.at 5 rfl) ?_
    obtain ⟨v465, h465, hsh⟩ := Option.bind_eq_some_iff.mp hsh
    refine e_bald hx hb hp h465 dX6_linesGone_465 ?_
    obtain ⟨S466, h466, hsh⟩ := Option.bind_eq_some_iff.mp hsh
    refine e_bast hx hb hp hS h466 dX6_linesGone_466 (fun H locs hp hS => ?_)
    refine e_iinc (n := 1) (x := x6) (lv' := [(6, .int (iI ((x6 + 1)))), (10, .int (iI (y0))), (0, e_rv B (x0)), (1, .int (iI (x1))), (2, .int (iI (x2))), (8, .int (iI (x8))), (9, .int (iI (x9)))]) hx hb dX6_linesGone_467 hl (k := 4) rfl (by decide) rfl (fun ls hl => ?_)
    exact w6_linesGone_b470 (hk345 := hk345) E hp hS (hl.sub [2, 3, 4, 0, 5] rfl) hsh
set_option maxRecDepth 100000 in
set_option maxHeartbeats 4000000 in
theorem w6_linesGone_b388 {p : Program} {l : Launch} {e : Env} {s : State} {m : MethodId} {args : Array Value} {below : List Frame} {meth : Method} {c : Code} {D : va_G} {cA : Nat → ClassId} {B : Nat} {res : HP} {k345 : HP → Int → Int → Int → Int → Int → Option (HP)} (hk345 : ∀ {ls : Array Slot} {H : Heap} {locs : List Loc} {S : HP} {x0 : Int} {x1 : Int} {x2 : Int} {x6 : Int} {x8 : Int} (hp : e_Pic D cA B S s H) (hS : va_S (e_A B) s.heap H locs) (hl : e_lo ls 11 [(0, e_rv B (x0)), (1, .int (iI (x1))), (2, .int (iI (x2))), (6, .int (iI (x6))), (8, .int (iI (x8)))]) (hsh : k345 S x0 x1 x2 x6 x8 = some res), W p l e ({ frames := 1, cells := 0, slots := 0, locals := 21 } : Room) s m args below meth c H locs 0 0 (MQ below (e_Qv D cA B res) args s 0 0 (e_A B)) (F0 m 345 ls [])) (E : e_En p s m args meth c cX6_linesGone RX6 11 none) {ls : Array Slot} {H : Heap} {locs : List Loc} {S : HP} {x0 : Int} {x1 : Int} {x2 : Int} {x6 : Int} {x8 : Int} {y0 : Int} (hp : e_Pic D cA B S s H) (hS : va_S (e_A B) s.heap H locs) (hl : e_lo ls 11 [(0, e_rv B (x0)), (1, .int (iI (x1))), (2, .int (iI (x2))), (6, .int (iI (x6))), (8, .int (iI (x8)))]) (hsh : s6_linesGone_b388 k345 S x0 x1 x2 x6 x8 y0 = some res) : W p l e ({ frames := 1, cells := 0, slots := 0, locals := 21 } : Room) s m args below meth c H locs 0 0 (MQ below (e_Qv D cA B res) args s 0 0 (e_A B)) (F0 m 388 ls [.int (iI (y0))]) := by
  obtain ⟨hx, hb, hml, hown, hts, hlk, hrt⟩ := id E
  unfold s6_linesGone_b388 at hsh
  refine e_istore (lv' := [(9, .int (iI (y0))), (0, e_rv B (x0)), (1, .int (iI (x1))), (2, .int (iI (x2))), (6, .int (iI (x6))), (8, .int (iI (x8)))]) hx hb dX6_linesGone_388 hl (by decide) rfl (fun ls hl => ?_)
  refine e_aload_n (B := B) (x := x0) hx hb dX6_linesGone_390 rfl (hl.at 1 rfl) ?_
  obtain ⟨v391, h391, hsh⟩ := Option.bind_eq_some_iff.mp hsh
  refine e_getR (k := 13) hx hb hts in_X6 hown hp h391 rfl (by decide) (by decide) rfl (hts _ kf6_52) rfl dX6_linesGone_391 ?_
  refine lv_iload hx hb dX6_linesGone_394 (hl.at 5 rfl) ?_
  obtain ⟨v396, h396, hsh⟩ := Option.bind_eq_some_iff.mp hsh
  refine e_iald hx hb hp h396 dX6_linesGone_396 ?_
  refine lv_iload_n hx hb dX6_linesGone_397 rfl (hl.at 2 rfl) ?_
  refine e_icmp_ge (tgt := 411) hx hb dX6_linesGone_398 (by decide) (fun c398 => ?_) (fun c398 => ?_)
  · rw [if_pos c398] at hsh
    refine lv_iload_n hx hb dX6_linesGone_411 rfl (hl.at 2 rfl) ?_
    refine lv_iconst (v := iI (1)) hx hb dX6_linesGone_412 rfl ?_
    refine e_isub hx hb dX6_linesGone_413 ?_
    refine e_aload_n (B := B) (x := x0) hx hb dX6_linesGone_414 rfl (hl.at 1 rfl) ?_
    obtain ⟨v415, h415, hsh⟩ := Option.bind_eq_some_iff.mp hsh
    refine e_getR (k := 13) hx hb hts in_X6 hown hp h415 rfl (by decide) (by decide) rfl (hts _ kf6_52) rfl dX6_linesGone_415 ?_
    refine lv_iload hx hb dX6_linesGone_418 (hl.at 5 rfl) ?_
    obtain ⟨v420, h420, hsh⟩ := Option.bind_eq_some_iff.mp hsh
    refine e_iald hx hb hp h420 dX6_linesGone_420 ?_
    refine lv_iload_n hx hb dX6_linesGone_421 rfl (hl.at 3 rfl) ?_
    refine e_isub hx hb dX6_linesGone_422 ?_
    refine e_max (rest := []) hx hb (hml.trans hl.size.symm) hown hts kl6_79 kM_max_s kM_i kM_max_c (Nat.le_of_ble_eq_true rfl) (Nat.le_trans (Nat.add_le_add_right (show _ ≤ 8 by simp [e_rv_cat, e_int_cat]) 13) (Nat.le_of_ble_eq_true rfl)) (Nat.le_refl _) (Nat.le_refl _) dX6_linesGone_423 ?_
    exact w6_linesGone_b426 (hk345 := hk345) E hp hS (hl.sub [1, 2, 3, 4, 5, 0] rfl) hsh
  · rw [if_neg c398] at hsh
    refine e_aload_n (B := B) (x := x0) hx hb dX6_linesGone_401 rfl (hl.at 1 rfl) ?_
    obtain ⟨v402, h402, hsh⟩ := Option.bind_eq_some_iff.mp hsh
    refine e_getR (k := 13) hx hb hts in_X6 hown hp h402 rfl (by decide) (by decide) rfl (hts _ kf6_52) rfl dX6_linesGone_402 ?_
    refine lv_iload hx hb dX6_linesGone_405 (hl.at 5 rfl) ?_
    obtain ⟨v407, h407, hsh⟩ := Option.bind_eq_some_iff.mp hsh
    refine e_iald hx hb hp h407 dX6_linesGone_407 ?_
    refine lv_goto (tgt := 426) hx hb dX6_linesGone_408 (by decide) ?_
    exact w6_linesGone_b426 (hk345 := hk345) E hp hS (hl.sub [1, 2, 3, 4, 5, 0] rfl) hsh
set_option maxRecDepth 100000 in
set_option maxHeartbeats 4000000 in
theorem w6_linesGone_l345 {p : Program} {l : Launch} {e : Env} {s : State} {m : MethodId} {args : Array Value} {below : List Frame} {meth : Method} {c : Code} {D : va_G} {cA : Nat → ClassId} {B : Nat} {res : HP} (E : e_En p s m args meth c cX6_linesGone RX6 11 none) : ∀ (f : Nat) {ls : Array Slot} {H : Heap} {locs : List Loc} {S : HP} {x0 : Int} {x1 : Int} {x2 : Int} {x6 : Int} {x8 : Int} (hp : e_Pic D cA B S s H) (hS : va_S (e_A B) s.heap H locs) (hl : e_lo ls 11 [(0, e_rv B (x0)), (1, .int (iI (x1))), (2, .int (iI (x2))), (6, .int (iI (x6))), (8, .int (iI (x8)))]) (hsh : s6_linesGone_l345 f S x0 x1 x2 x6 x8 = some res), W p l e ({ frames := 1, cells := 0, slots := 0, locals := 21 } : Room) s m args below meth c H locs 0 0 (MQ below (e_Qv D cA B res) args s 0 0 (e_A B)) (F0 m 345 ls []) := by
  obtain ⟨hx, hb, hml, hown, hts, hlk, hrt⟩ := id E
  intro f
  induction f with
  | zero => intro ls H locs S x0 x1 x2 x6 x8 hp hS hl hsh; cases hsh
  | succ f ih =>
    intro ls H locs S x0 x1 x2 x6 x8 hp hS hl hsh
    have hk345 : ∀ {ls : Array Slot} {H : Heap} {locs : List Loc} {S : HP} {x0 : Int} {x1 : Int} {x2 : Int} {x6 : Int} {x8 : Int} (hp : e_Pic D cA B S s H) (hS : va_S (e_A B) s.heap H locs) (hl : e_lo ls 11 [(0, e_rv B (x0)), (1, .int (iI (x1))), (2, .int (iI (x2))), (6, .int (iI (x6))), (8, .int (iI (x8)))]) (hsh : (s6_linesGone_l345 f) S x0 x1 x2 x6 x8 = some res), W p l e ({ frames := 1, cells := 0, slots := 0, locals := 21 } : Room) s m args below meth c H locs 0 0 (MQ below (e_Qv D cA B res) args s 0 0 (e_A B)) (F0 m 345 ls []) := ih
    generalize hkk : s6_linesGone_l345 f = k345 at hk345
    rw [s6_linesGone_l345] at hsh
    rw [hkk] at hsh
    try dsimp only at hsh
    refine lv_iload hx hb dX6_linesGone_345 (hl.at 4 rfl) ?_
    refine e_aload_n (B := B) (x := x0) hx hb dX6_linesGone_347 rfl (hl.at 0 rfl) ?_
    obtain ⟨v348, h348, hsh⟩ := Option.bind_eq_some_iff.mp hsh
    refine e_getI (k := 15) hx hb hts in_X6 hown hp h348 rfl (by decide) (by decide) rfl (hts _ kf6_59) rfl dX6_linesGone_348 ?_
    refine e_icmp_ge (tgt := 476) hx hb dX6_linesGone_351 (by decide) (fun c351 => ?_) (fun c351 => ?_)
    · rw [if_pos c351] at hsh
      refine e_aload_n (B := B) (x := x0) hx hb dX6_linesGone_476 rfl (hl.at 0 rfl) ?_
      refine lv_iload hx hb dX6_linesGone_477 (hl.at 3 rfl) ?_
      obtain ⟨S479, h479, hsh⟩ := Option.bind_eq_some_iff.mp hsh
      refine e_putI (k := 15) hx hb hts in_X6 tyX6 tyX6_ok nmX6 hown hp hS h479 rfl (by decide) (by decide) rfl (hts _ kf6_59) rfl rfl (by decide +kernel) dX6_linesGone_479 (fun H locs hp hS => ?_)
      cases hsh
      exact e_vret hx hb hrt hlk hp hS dX6_linesGone_482
    · rw [if_neg c351] at hsh
      refine e_aload_n (B := B) (x := x0) hx hb dX6_linesGone_354 rfl (hl.at 0 rfl) ?_
      obtain ⟨v355, h355, hsh⟩ := Option.bind_eq_some_iff.mp hsh
      refine e_getR (k := 12) hx hb hts in_X6 hown hp h355 rfl (by decide) (by decide) rfl (hts _ kf6_49) rfl dX6_linesGone_355 ?_
      refine lv_iload hx hb dX6_linesGone_358 (hl.at 4 rfl) ?_
      obtain ⟨v360, h360, hsh⟩ := Option.bind_eq_some_iff.mp hsh
      refine e_iald hx hb hp h360 dX6_linesGone_360 ?_
      refine lv_iload_n hx hb dX6_linesGone_361 rfl (hl.at 1 rfl) ?_
      refine e_icmp_ge (tgt := 375) hx hb dX6_linesGone_362 (by decide) (fun c362 => ?_) (fun c362 => ?_)
      · rw [if_pos c362] at hsh
        refine lv_iload_n hx hb dX6_linesGone_375 rfl (hl.at 1 rfl) ?_
        refine e_aload_n (B := B) (x := x0) hx hb dX6_linesGone_376 rfl (hl.at 0 rfl) ?_
        obtain ⟨v377, h377, hsh⟩ := Option.bind_eq_some_iff.mp hsh
        refine e_getR (k := 12) hx hb hts in_X6 hown hp h377 rfl (by decide) (by decide) rfl (hts _ kf6_49) rfl dX6_linesGone_377 ?_
        refine lv_iload hx hb dX6_linesGone_380 (hl.at 4 rfl) ?_
        obtain ⟨v382, h382, hsh⟩ := Option.bind_eq_some_iff.mp hsh
        refine e_iald hx hb hp h382 dX6_linesGone_382 ?_
        refine lv_iload_n hx hb dX6_linesGone_383 rfl (hl.at 2 rfl) ?_
        refine e_isub hx hb dX6_linesGone_384 ?_
        refine e_max (rest := []) hx hb (hml.trans hl.size.symm) hown hts kl6_79 kM_max_s kM_i kM_max_c (Nat.le_of_ble_eq_true rfl) (Nat.le_trans (Nat.add_le_add_right (show _ ≤ 8 by simp [e_rv_cat, e_int_cat]) 13) (Nat.le_of_ble_eq_true rfl)) (Nat.le_refl _) (Nat.le_refl _) dX6_linesGone_385 ?_
        exact w6_linesGone_b388 (hk345 := hk345) E hp hS (hl.sub [0, 1, 2, 3, 4] rfl) hsh
      · rw [if_neg c362] at hsh
        refine e_aload_n (B := B) (x := x0) hx hb dX6_linesGone_365 rfl (hl.at 0 rfl) ?_
        obtain ⟨v366, h366, hsh⟩ := Option.bind_eq_some_iff.mp hsh
        refine e_getR (k := 12) hx hb hts in_X6 hown hp h366 rfl (by decide) (by decide) rfl (hts _ kf6_49) rfl dX6_linesGone_366 ?_
        refine lv_iload hx hb dX6_linesGone_369 (hl.at 4 rfl) ?_
        obtain ⟨v371, h371, hsh⟩ := Option.bind_eq_some_iff.mp hsh
        refine e_iald hx hb hp h371 dX6_linesGone_371 ?_
        refine lv_goto (tgt := 388) hx hb dX6_linesGone_372 (by decide) ?_
        exact w6_linesGone_b388 (hk345 := hk345) E hp hS (hl.sub [0, 1, 2, 3, 4] rfl) hsh
set_option maxRecDepth 100000 in
set_option maxHeartbeats 4000000 in
theorem w6_linesGone_b339 {p : Program} {l : Launch} {e : Env} {s : State} {m : MethodId} {args : Array Value} {below : List Frame} {meth : Method} {c : Code} {D : va_G} {cA : Nat → ClassId} {B : Nat} {res : HP} (E : e_En p s m args meth c cX6_linesGone RX6 11 none) {ls : Array Slot} {H : Heap} {locs : List Loc} {S : HP} {x0 : Int} {x1 : Int} {x2 : Int} (hp : e_Pic D cA B S s H) (hS : va_S (e_A B) s.heap H locs) (hl : e_lo ls 11 [(0, e_rv B (x0)), (1, .int (iI (x1))), (2, .int (iI (x2)))]) (hsh : s6_linesGone_b339 S x0 x1 x2 = some res) : W p l e ({ frames := 1, cells := 0, slots := 0, locals := 21 } : Room) s m args below meth c H locs 0 0 (MQ below (e_Qv D cA B res) args s 0 0 (e_A B)) (F0 m 339 ls []) := by
  obtain ⟨hx, hb, hml, hown, hts, hlk, hrt⟩ := id E
  unfold s6_linesGone_b339 at hsh
  refine lv_iconst (v := iI (0)) hx hb dX6_linesGone_339 rfl ?_
  refine e_istore (lv' := [(6, .int (iI (0))), (0, e_rv B (x0)), (1, .int (iI (x1))), (2, .int (iI (x2)))]) hx hb dX6_linesGone_340 hl (by decide) rfl (fun ls hl => ?_)
  refine lv_iconst (v := iI (0)) hx hb dX6_linesGone_342 rfl ?_
  refine e_istore (lv' := [(8, .int (iI (0))), (6, .int (iI (0))), (0, e_rv B (x0)), (1, .int (iI (x1))), (2, .int (iI (x2)))]) hx hb dX6_linesGone_343 hl (by decide) rfl (fun ls hl => ?_)
  exact w6_linesGone_l345 E 1000000 hp hS (hl.sub [2, 3, 4, 1, 0] rfl) hsh
set_option maxRecDepth 100000 in
set_option maxHeartbeats 4000000 in
theorem w6_linesGone_b336 {p : Program} {l : Launch} {e : Env} {s : State} {m : MethodId} {args : Array Value} {below : List Frame} {meth : Method} {c : Code} {D : va_G} {cA : Nat → ClassId} {B : Nat} {res : HP} (E : e_En p s m args meth c cX6_linesGone RX6 11 none) {ls : Array Slot} {H : Heap} {locs : List Loc} {S : HP} {x0 : Int} {x1 : Int} {x2 : Int} {y0 : Int} {y1 : Int} (hp : e_Pic D cA B S s H) (hS : va_S (e_A B) s.heap H locs) (hl : e_lo ls 11 [(0, e_rv B (x0)), (1, .int (iI (x1))), (2, .int (iI (x2)))]) (hsh : s6_linesGone_b336 S x0 x1 x2 y0 y1 = some res) : W p l e ({ frames := 1, cells := 0, slots := 0, locals := 21 } : Room) s m args below meth c H locs 0 0 (MQ below (e_Qv D cA B res) args s 0 0 (e_A B)) (F0 m 336 ls [.int (iI (y1)), e_rv B (y0)]) := by
  obtain ⟨hx, hb, hml, hown, hts, hlk, hrt⟩ := id E
  unfold s6_linesGone_b336 at hsh
  obtain ⟨S336, h336, hsh⟩ := Option.bind_eq_some_iff.mp hsh
  refine e_putI (k := 10) hx hb hts in_X6 tyX6 tyX6_ok nmX6 hown hp hS h336 rfl (by decide) (by decide) rfl (hts _ kf6_43) rfl rfl (by decide +kernel) dX6_linesGone_336 (fun H locs hp hS => ?_)
  exact w6_linesGone_b339 E hp hS (hl.sub [0, 1, 2] rfl) hsh
set_option maxRecDepth 100000 in
set_option maxHeartbeats 4000000 in
theorem w6_linesGone_b280 {p : Program} {l : Launch} {e : Env} {s : State} {m : MethodId} {args : Array Value} {below : List Frame} {meth : Method} {c : Code} {D : va_G} {cA : Nat → ClassId} {B : Nat} {res : HP} {k215 : HP → Int → Int → Int → Int → Int → Int → Int → Option (HP)} (hk215 : ∀ {ls : Array Slot} {H : Heap} {locs : List Loc} {S : HP} {x0 : Int} {x1 : Int} {x2 : Int} {x3 : Int} {x4 : Int} {x5 : Int} {x8 : Int} (hp : e_Pic D cA B S s H) (hS : va_S (e_A B) s.heap H locs) (hl : e_lo ls 11 [(0, e_rv B (x0)), (1, .int (iI (x1))), (2, .int (iI (x2))), (3, .int (iI (x3))), (4, .int (iI (x4))), (5, .int (iI (x5))), (8, .int (iI (x8)))]) (hsh : k215 S x0 x1 x2 x3 x4 x5 x8 = some res), W p l e ({ frames := 1, cells := 0, slots := 0, locals := 21 } : Room) s m args below meth c H locs 0 0 (MQ below (e_Qv D cA B res) args s 0 0 (e_A B)) (F0 m 215 ls [])) (E : e_En p s m args meth c cX6_linesGone RX6 11 none) {ls : Array Slot} {H : Heap} {locs : List Loc} {S : HP} {x0 : Int} {x1 : Int} {x2 : Int} {x3 : Int} {x4 : Int} {x5 : Int} {x8 : Int} {y0 : Int} {y1 : Int} {y2 : Int} (hp : e_Pic D cA B S s H) (hS : va_S (e_A B) s.heap H locs) (hl : e_lo ls 11 [(0, e_rv B (x0)), (1, .int (iI (x1))), (2, .int (iI (x2))), (3, .int (iI (x3))), (4, .int (iI (x4))), (5, .int (iI (x5))), (8, .int (iI (x8)))]) (hsh : s6_linesGone_b280 k215 S x0 x1 x2 x3 x4 x5 x8 y0 y1 y2 = some res) : W p l e ({ frames := 1, cells := 0, slots := 0, locals := 21 } : Room) s m args below meth c H locs 0 0 (MQ below (e_Qv D cA B res) args s 0 0 (e_A B)) (F0 m 280 ls [.int (iI (y2)), .int (iI (y1)), e_rv B (y0)]) := by
  obtain ⟨hx, hb, hml, hown, hts, hlk, hrt⟩ := id E
  unfold s6_linesGone_b280 at hsh
  obtain ⟨S280, h280, hsh⟩ := Option.bind_eq_some_iff.mp hsh
  refine e_iast hx hb hp hS h280 dX6_linesGone_280 (fun H locs hp hS => ?_)
  refine e_iinc (n := 1) (x := x8) (lv' := [(8, .int (iI ((x8 + 1)))), (0, e_rv B (x0)), (1, .int (iI (x1))), (2, .int (iI (x2))), (3, .int (iI (x3))), (4, .int (iI (x4))), (5, .int (iI (x5)))]) hx hb dX6_linesGone_281 hl (k := 6) rfl (by decide) rfl (fun ls hl => ?_)
  refine lv_goto (tgt := 215) hx hb dX6_linesGone_284 (by decide) ?_
  exact hk215 hp hS (hl.sub [1, 2, 3, 4, 5, 6, 0] rfl) hsh
set_option maxRecDepth 100000 in
set_option maxHeartbeats 4000000 in
theorem w6_linesGone_l215 {p : Program} {l : Launch} {e : Env} {s : State} {m : MethodId} {args : Array Value} {below : List Frame} {meth : Method} {c : Code} {D : va_G} {cA : Nat → ClassId} {B : Nat} {res : HP} (E : e_En p s m args meth c cX6_linesGone RX6 11 none) : ∀ (f : Nat) {ls : Array Slot} {H : Heap} {locs : List Loc} {S : HP} {x0 : Int} {x1 : Int} {x2 : Int} {x3 : Int} {x4 : Int} {x5 : Int} {x8 : Int} (hp : e_Pic D cA B S s H) (hS : va_S (e_A B) s.heap H locs) (hl : e_lo ls 11 [(0, e_rv B (x0)), (1, .int (iI (x1))), (2, .int (iI (x2))), (3, .int (iI (x3))), (4, .int (iI (x4))), (5, .int (iI (x5))), (8, .int (iI (x8)))]) (hsh : s6_linesGone_l215 f S x0 x1 x2 x3 x4 x5 x8 = some res), W p l e ({ frames := 1, cells := 0, slots := 0, locals := 21 } : Room) s m args below meth c H locs 0 0 (MQ below (e_Qv D cA B res) args s 0 0 (e_A B)) (F0 m 215 ls []) := by
  obtain ⟨hx, hb, hml, hown, hts, hlk, hrt⟩ := id E
  intro f
  induction f with
  | zero => intro ls H locs S x0 x1 x2 x3 x4 x5 x8 hp hS hl hsh; cases hsh
  | succ f ih =>
    intro ls H locs S x0 x1 x2 x3 x4 x5 x8 hp hS hl hsh
    have hk215 : ∀ {ls : Array Slot} {H : Heap} {locs : List Loc} {S : HP} {x0 : Int} {x1 : Int} {x2 : Int} {x3 : Int} {x4 : Int} {x5 : Int} {x8 : Int} (hp : e_Pic D cA B S s H) (hS : va_S (e_A B) s.heap H locs) (hl : e_lo ls 11 [(0, e_rv B (x0)), (1, .int (iI (x1))), (2, .int (iI (x2))), (3, .int (iI (x3))), (4, .int (iI (x4))), (5, .int (iI (x5))), (8, .int (iI (x8)))]) (hsh : (s6_linesGone_l215 f) S x0 x1 x2 x3 x4 x5 x8 = some res), W p l e ({ frames := 1, cells := 0, slots := 0, locals := 21 } : Room) s m args below meth c H locs 0 0 (MQ below (e_Qv D cA B res) args s 0 0 (e_A B)) (F0 m 215 ls []) := ih
    generalize hkk : s6_linesGone_l215 f = k215 at hk215
    rw [s6_linesGone_l215] at hsh
    rw [hkk] at hsh
    try dsimp only at hsh
    refine lv_iload hx hb dX6_linesGone_215 (hl.at 6 rfl) ?_
    refine e_aload_n (B := B) (x := x0) hx hb dX6_linesGone_217 rfl (hl.at 0 rfl) ?_
    obtain ⟨v218, h218, hsh⟩ := Option.bind_eq_some_iff.mp hsh
    refine e_getI (k := 9) hx hb hts in_X6 hown hp h218 rfl (by decide) (by decide) rfl (hts _ kf6_40) rfl dX6_linesGone_218 ?_
    refine e_icmp_ge (tgt := 287) hx hb dX6_linesGone_221 (by decide) (fun c221 => ?_) (fun c221 => ?_)
    · rw [if_pos c221] at hsh
      refine e_aload_n (B := B) (x := x0) hx hb dX6_linesGone_287 rfl (hl.at 0 rfl) ?_
      obtain ⟨v288, h288, hsh⟩ := Option.bind_eq_some_iff.mp hsh
      refine e_getI (k := 10) hx hb hts in_X6 hown hp h288 rfl (by decide) (by decide) rfl (hts _ kf6_43) rfl dX6_linesGone_288 ?_
      refine lv_iload hx hb dX6_linesGone_291 (hl.at 4 rfl) ?_
      refine e_icmp_lt (tgt := 339) hx hb dX6_linesGone_293 (by decide) (fun c293 => ?_) (fun c293 => ?_)
      · rw [if_pos c293] at hsh
        exact w6_linesGone_b339 E hp hS (hl.sub [0, 1, 2] rfl) hsh
      · rw [if_neg c293] at hsh
        refine e_aload_n (B := B) (x := x0) hx hb dX6_linesGone_296 rfl (hl.at 0 rfl) ?_
        refine e_aload_n (B := B) (x := x0) hx hb dX6_linesGone_297 rfl (hl.at 0 rfl) ?_
        obtain ⟨v298, h298, hsh⟩ := Option.bind_eq_some_iff.mp hsh
        refine e_getI (k := 10) hx hb hts in_X6 hown hp h298 rfl (by decide) (by decide) rfl (hts _ kf6_43) rfl dX6_linesGone_298 ?_
        refine lv_iload hx hb dX6_linesGone_301 (hl.at 5 rfl) ?_
        refine e_icmp_ge (tgt := 327) hx hb dX6_linesGone_303 (by decide) (fun c303 => ?_) (fun c303 => ?_)
        · rw [if_pos c303] at hsh
          refine e_aload_n (B := B) (x := x0) hx hb dX6_linesGone_327 rfl (hl.at 0 rfl) ?_
          obtain ⟨v328, h328, hsh⟩ := Option.bind_eq_some_iff.mp hsh
          refine e_getI (k := 10) hx hb hts in_X6 hown hp h328 rfl (by decide) (by decide) rfl (hts _ kf6_43) rfl dX6_linesGone_328 ?_
          refine lv_iload_n hx hb dX6_linesGone_331 rfl (hl.at 2 rfl) ?_
          refine lv_bipush (v := iI (100)) hx hb dX6_linesGone_332 (by decide +kernel) ?_
          refine e_imul hx hb dX6_linesGone_334 ?_
          refine e_isub hx hb dX6_linesGone_335 ?_
          exact w6_linesGone_b336 E hp hS (hl.sub [0, 1, 2] rfl) hsh
        · rw [if_neg c303] at hsh
          refine lv_iload_n hx hb dX6_linesGone_306 rfl (hl.at 1 rfl) ?_
          refine lv_iload_n hx hb dX6_linesGone_307 rfl (hl.at 3 rfl) ?_
          refine lv_iconst (v := iI (1)) hx hb dX6_linesGone_308 rfl ?_
          refine e_isub hx hb dX6_linesGone_309 ?_
          refine e_min (rest := [e_rv B (x0)]) hx hb (hml.trans hl.size.symm) hown hts kl6_73 kM_min_s kM_i kM_min_c (Nat.le_of_ble_eq_true rfl) (Nat.le_trans (Nat.add_le_add_right (show _ ≤ 8 by simp [e_rv_cat, e_int_cat]) 13) (Nat.le_of_ble_eq_true rfl)) (Nat.le_refl _) (Nat.le_refl _) dX6_linesGone_310 ?_
          refine lv_bipush (v := iI (100)) hx hb dX6_linesGone_313 (by decide +kernel) ?_
          refine e_imul hx hb dX6_linesGone_315 ?_
          refine e_aload_n (B := B) (x := x0) hx hb dX6_linesGone_316 rfl (hl.at 0 rfl) ?_
          obtain ⟨v317, h317, hsh⟩ := Option.bind_eq_some_iff.mp hsh
          refine e_getI (k := 10) hx hb hts in_X6 hown hp h317 rfl (by decide) (by decide) rfl (hts _ kf6_43) rfl dX6_linesGone_317 ?_
          refine lv_bipush (v := iI (100)) hx hb dX6_linesGone_320 (by decide +kernel) ?_
          obtain ⟨v322, h322, hsh⟩ := Option.bind_eq_some_iff.mp hsh
          refine e_irem hx hb h322 dX6_linesGone_322 ?_
          refine e_iadd hx hb dX6_linesGone_323 ?_
          refine lv_goto (tgt := 336) hx hb dX6_linesGone_324 (by decide) ?_
          exact w6_linesGone_b336 E hp hS (hl.sub [0, 1, 2] rfl) hsh
    · rw [if_neg c221] at hsh
      refine e_aload_n (B := B) (x := x0) hx hb dX6_linesGone_224 rfl (hl.at 0 rfl) ?_
      obtain ⟨v225, h225, hsh⟩ := Option.bind_eq_some_iff.mp hsh
      refine e_getR (k := 8) hx hb hts in_X6 hown hp h225 rfl (by decide) (by decide) rfl (hts _ kf6_37) rfl dX6_linesGone_225 ?_
      refine lv_iload hx hb dX6_linesGone_228 (hl.at 6 rfl) ?_
      refine e_aload_n (B := B) (x := x0) hx hb dX6_linesGone_230 rfl (hl.at 0 rfl) ?_
      obtain ⟨v231, h231, hsh⟩ := Option.bind_eq_some_iff.mp hsh
      refine e_getR (k := 8) hx hb hts in_X6 hown hp h231 rfl (by decide) (by decide) rfl (hts _ kf6_37) rfl dX6_linesGone_231 ?_
      refine lv_iload hx hb dX6_linesGone_234 (hl.at 6 rfl) ?_
      obtain ⟨v236, h236, hsh⟩ := Option.bind_eq_some_iff.mp hsh
      refine e_iald hx hb hp h236 dX6_linesGone_236 ?_
      refine lv_iload hx hb dX6_linesGone_237 (hl.at 4 rfl) ?_
      refine e_icmp_ge (tgt := 252) hx hb dX6_linesGone_239 (by decide) (fun c239 => ?_) (fun c239 => ?_)
      · rw [if_pos c239] at hsh
        refine e_aload_n (B := B) (x := x0) hx hb dX6_linesGone_252 rfl (hl.at 0 rfl) ?_
        obtain ⟨v253, h253, hsh⟩ := Option.bind_eq_some_iff.mp hsh
        refine e_getR (k := 8) hx hb hts in_X6 hown hp h253 rfl (by decide) (by decide) rfl (hts _ kf6_37) rfl dX6_linesGone_253 ?_
        refine lv_iload hx hb dX6_linesGone_256 (hl.at 6 rfl) ?_
        obtain ⟨v258, h258, hsh⟩ := Option.bind_eq_some_iff.mp hsh
        refine e_iald hx hb hp h258 dX6_linesGone_258 ?_
        refine lv_iload hx hb dX6_linesGone_259 (hl.at 5 rfl) ?_
        refine e_icmp_ge (tgt := 268) hx hb dX6_linesGone_261 (by decide) (fun c261 => ?_) (fun c261 => ?_)
        · rw [if_pos c261] at hsh
          refine e_aload_n (B := B) (x := x0) hx hb dX6_linesGone_268 rfl (hl.at 0 rfl) ?_
          obtain ⟨v269, h269, hsh⟩ := Option.bind_eq_some_iff.mp hsh
          refine e_getR (k := 8) hx hb hts in_X6 hown hp h269 rfl (by decide) (by decide) rfl (hts _ kf6_37) rfl dX6_linesGone_269 ?_
          refine lv_iload hx hb dX6_linesGone_272 (hl.at 6 rfl) ?_
          obtain ⟨v274, h274, hsh⟩ := Option.bind_eq_some_iff.mp hsh
          refine e_iald hx hb hp h274 dX6_linesGone_274 ?_
          refine lv_iload_n hx hb dX6_linesGone_275 rfl (hl.at 2 rfl) ?_
          refine lv_bipush (v := iI (100)) hx hb dX6_linesGone_276 (by decide +kernel) ?_
          refine e_imul hx hb dX6_linesGone_278 ?_
          refine e_isub hx hb dX6_linesGone_279 ?_
          exact w6_linesGone_b280 (hk215 := hk215) E hp hS (hl.sub [0, 1, 2, 3, 4, 5, 6] rfl) hsh
        · rw [if_neg c261] at hsh
          refine lv_iconst (v := iI (-1)) hx hb dX6_linesGone_264 rfl ?_
          refine lv_goto (tgt := 280) hx hb dX6_linesGone_265 (by decide) ?_
          exact w6_linesGone_b280 (hk215 := hk215) E hp hS (hl.sub [0, 1, 2, 3, 4, 5, 6] rfl) hsh
      · rw [if_neg c239] at hsh
        refine e_aload_n (B := B) (x := x0) hx hb dX6_linesGone_242 rfl (hl.at 0 rfl) ?_
        obtain ⟨v243, h243, hsh⟩ := Option.bind_eq_some_iff.mp hsh
        refine e_getR (k := 8) hx hb hts in_X6 hown hp h243 rfl (by decide) (by decide) rfl (hts _ kf6_37) rfl dX6_linesGone_243 ?_
        refine lv_iload hx hb dX6_linesGone_246 (hl.at 6 rfl) ?_
        obtain ⟨v248, h248, hsh⟩ := Option.bind_eq_some_iff.mp hsh
        refine e_iald hx hb hp h248 dX6_linesGone_248 ?_
        refine lv_goto (tgt := 280) hx hb dX6_linesGone_249 (by decide) ?_
        exact w6_linesGone_b280 (hk215 := hk215) E hp hS (hl.sub [0, 1, 2, 3, 4, 5, 6] rfl) hsh
set_option maxRecDepth 100000 in
set_option maxHeartbeats 4000000 in
theorem w6_linesGone_b194 {p : Program} {l : Launch} {e : Env} {s : State} {m : MethodId} {args : Array Value} {below : List Frame} {meth : Method} {c : Code} {D : va_G} {cA : Nat → ClassId} {B : Nat} {res : HP} {k99 : HP → Int → Int → Int → Int → Int → Int → Int → Int → Int → Option (HP)} (hk99 : ∀ {ls : Array Slot} {H : Heap} {locs : List Loc} {S : HP} {x0 : Int} {x1 : Int} {x2 : Int} {x3 : Int} {x4 : Int} {x5 : Int} {x6 : Int} {x7 : Int} {x8 : Int} (hp : e_Pic D cA B S s H) (hS : va_S (e_A B) s.heap H locs) (hl : e_lo ls 11 [(0, e_rv B (x0)), (1, .int (iI (x1))), (2, .int (iI (x2))), (3, .int (iI (x3))), (4, .int (iI (x4))), (5, .int (iI (x5))), (6, .int (iI (x6))), (7, .int (iI (x7))), (8, .int (iI (x8)))]) (hsh : k99 S x0 x1 x2 x3 x4 x5 x6 x7 x8 = some res), W p l e ({ frames := 1, cells := 0, slots := 0, locals := 21 } : Room) s m args below meth c H locs 0 0 (MQ below (e_Qv D cA B res) args s 0 0 (e_A B)) (F0 m 99 ls [])) (E : e_En p s m args meth c cX6_linesGone RX6 11 none) {ls : Array Slot} {H : Heap} {locs : List Loc} {S : HP} {x0 : Int} {x1 : Int} {x2 : Int} {x3 : Int} {x4 : Int} {x5 : Int} {x6 : Int} {x7 : Int} {x8 : Int} (hp : e_Pic D cA B S s H) (hS : va_S (e_A B) s.heap H locs) (hl : e_lo ls 11 [(0, e_rv B (x0)), (1, .int (iI (x1))), (2, .int (iI (x2))), (3, .int (iI (x3))), (4, .int (iI (x4))), (5, .int (iI (x5))), (6, .int (iI (x6))), (7, .int (iI (x7))), (8, .int (iI (x8)))]) (hsh : s6_linesGone_b194 k99 S x0 x1 x2 x3 x4 x5 x6 x7 x8 = some res) : W p l e ({ frames := 1, cells := 0, slots := 0, locals := 21 } : Room) s m args below meth c H locs 0 0 (MQ below (e_Qv D cA B res) args s 0 0 (e_A B)) (F0 m 194 ls []) := by
  obtain ⟨hx, hb, hml, hown, hts, hlk, hrt⟩ := id E
  unfold s6_linesGone_b194 at hsh
  refine e_iinc (n := 1) (x := x8) (lv' := [(8, .int (iI ((x8 + 1)))), (0, e_rv B (x0)), (1, .int (iI (x1))), (2, .int (iI (x2))), (3, .int (iI (x3))), (4, .int (iI (x4))), (5, .int (iI (x5))), (6, .int (iI (x6))), (7, .int (iI (x7)))]) hx hb dX6_linesGone_194 hl (k := 8) rfl (by decide) rfl (fun ls hl => ?_)
  refine lv_goto (tgt := 99) hx hb dX6_linesGone_197 (by decide) ?_
  exact hk99 hp hS (hl.sub [1, 2, 3, 4, 5, 6, 7, 8, 0] rfl) hsh
set_option maxRecDepth 100000 in
set_option maxHeartbeats 4000000 in
theorem w6_linesGone_b190 {p : Program} {l : Launch} {e : Env} {s : State} {m : MethodId} {args : Array Value} {below : List Frame} {meth : Method} {c : Code} {D : va_G} {cA : Nat → ClassId} {B : Nat} {res : HP} {k99 : HP → Int → Int → Int → Int → Int → Int → Int → Int → Int → Option (HP)} (hk99 : ∀ {ls : Array Slot} {H : Heap} {locs : List Loc} {S : HP} {x0 : Int} {x1 : Int} {x2 : Int} {x3 : Int} {x4 : Int} {x5 : Int} {x6 : Int} {x7 : Int} {x8 : Int} (hp : e_Pic D cA B S s H) (hS : va_S (e_A B) s.heap H locs) (hl : e_lo ls 11 [(0, e_rv B (x0)), (1, .int (iI (x1))), (2, .int (iI (x2))), (3, .int (iI (x3))), (4, .int (iI (x4))), (5, .int (iI (x5))), (6, .int (iI (x6))), (7, .int (iI (x7))), (8, .int (iI (x8)))]) (hsh : k99 S x0 x1 x2 x3 x4 x5 x6 x7 x8 = some res), W p l e ({ frames := 1, cells := 0, slots := 0, locals := 21 } : Room) s m args below meth c H locs 0 0 (MQ below (e_Qv D cA B res) args s 0 0 (e_A B)) (F0 m 99 ls [])) (E : e_En p s m args meth c cX6_linesGone RX6 11 none) {ls : Array Slot} {H : Heap} {locs : List Loc} {S : HP} {x0 : Int} {x1 : Int} {x2 : Int} {x3 : Int} {x4 : Int} {x5 : Int} {x6 : Int} {x7 : Int} {x8 : Int} {y0 : Int} {y1 : Int} {y2 : Int} (hp : e_Pic D cA B S s H) (hS : va_S (e_A B) s.heap H locs) (hl : e_lo ls 11 [(0, e_rv B (x0)), (1, .int (iI (x1))), (2, .int (iI (x2))), (3, .int (iI (x3))), (4, .int (iI (x4))), (5, .int (iI (x5))), (6, .int (iI (x6))), (7, .int (iI (x7))), (8, .int (iI (x8)))]) (hsh : s6_linesGone_b190 k99 S x0 x1 x2 x3 x4 x5 x6 x7 x8 y0 y1 y2 = some res) : W p l e ({ frames := 1, cells := 0, slots := 0, locals := 21 } : Room) s m args below meth c H locs 0 0 (MQ below (e_Qv D cA B res) args s 0 0 (e_A B)) (F0 m 190 ls [.int (iI (y2)), .int (iI (y1)), e_rv B (y0)]) := by
  obtain ⟨hx, hb, hml, hown, hts, hlk, hrt⟩ := id E
  unfold s6_linesGone_b190 at hsh
  obtain ⟨S190, h190, hsh⟩ := Option.bind_eq_some_iff.mp hsh
  refine e_iast hx hb hp hS h190 dX6_linesGone_190 (fun H locs hp hS => ?_)
  refine e_iinc (n := 1) (x := x6) (lv' := [(6, .int (iI ((x6 + 1)))), (0, e_rv B (x0)), (1, .int (iI (x1))), (2, .int (iI (x2))), (3, .int (iI (x3))), (4, .int (iI (x4))), (5, .int (iI (x5))), (7, .int (iI (x7))), (8, .int (iI (x8)))]) hx hb dX6_linesGone_191 hl (k := 6) rfl (by decide) rfl (fun ls hl => ?_)
  exact w6_linesGone_b194 (hk99 := hk99) E hp hS (hl.sub [1, 2, 3, 4, 5, 6, 0, 7, 8] rfl) hsh
set_option maxRecDepth 100000 in
set_option maxHeartbeats 4000000 in
theorem w6_linesGone_b148 {p : Program} {l : Launch} {e : Env} {s : State} {m : MethodId} {args : Array Value} {below : List Frame} {meth : Method} {c : Code} {D : va_G} {cA : Nat → ClassId} {B : Nat} {res : HP} {k99 : HP → Int → Int → Int → Int → Int → Int → Int → Int → Int → Option (HP)} (hk99 : ∀ {ls : Array Slot} {H : Heap} {locs : List Loc} {S : HP} {x0 : Int} {x1 : Int} {x2 : Int} {x3 : Int} {x4 : Int} {x5 : Int} {x6 : Int} {x7 : Int} {x8 : Int} (hp : e_Pic D cA B S s H) (hS : va_S (e_A B) s.heap H locs) (hl : e_lo ls 11 [(0, e_rv B (x0)), (1, .int (iI (x1))), (2, .int (iI (x2))), (3, .int (iI (x3))), (4, .int (iI (x4))), (5, .int (iI (x5))), (6, .int (iI (x6))), (7, .int (iI (x7))), (8, .int (iI (x8)))]) (hsh : k99 S x0 x1 x2 x3 x4 x5 x6 x7 x8 = some res), W p l e ({ frames := 1, cells := 0, slots := 0, locals := 21 } : Room) s m args below meth c H locs 0 0 (MQ below (e_Qv D cA B res) args s 0 0 (e_A B)) (F0 m 99 ls [])) (E : e_En p s m args meth c cX6_linesGone RX6 11 none) {ls : Array Slot} {H : Heap} {locs : List Loc} {S : HP} {x0 : Int} {x1 : Int} {x2 : Int} {x3 : Int} {x4 : Int} {x5 : Int} {x6 : Int} {x8 : Int} {y0 : Int} (hp : e_Pic D cA B S s H) (hS : va_S (e_A B) s.heap H locs) (hl : e_lo ls 11 [(0, e_rv B (x0)), (1, .int (iI (x1))), (2, .int (iI (x2))), (3, .int (iI (x3))), (4, .int (iI (x4))), (5, .int (iI (x5))), (6, .int (iI (x6))), (8, .int (iI (x8)))]) (hsh : s6_linesGone_b148 k99 S x0 x1 x2 x3 x4 x5 x6 x8 y0 = some res) : W p l e ({ frames := 1, cells := 0, slots := 0, locals := 21 } : Room) s m args below meth c H locs 0 0 (MQ below (e_Qv D cA B res) args s 0 0 (e_A B)) (F0 m 148 ls [.int (iI (y0))]) := by
  obtain ⟨hx, hb, hml, hown, hts, hlk, hrt⟩ := id E
  unfold s6_linesGone_b148 at hsh
  refine e_istore (lv' := [(7, .int (iI (y0))), (0, e_rv B (x0)), (1, .int (iI (x1))), (2, .int (iI (x2))), (3, .int (iI (x3))), (4, .int (iI (x4))), (5, .int (iI (x5))), (6, .int (iI (x6))), (8, .int (iI (x8)))]) hx hb dX6_linesGone_148 hl (by decide) rfl (fun ls hl => ?_)
  refine e_aload_n (B := B) (x := x0) hx hb dX6_linesGone_150 rfl (hl.at 1 rfl) ?_
  obtain ⟨v151, h151, hsh⟩ := Option.bind_eq_some_iff.mp hsh
  refine e_getR (k := 5) hx hb hts in_X6 hown hp h151 rfl (by decide) (by decide) rfl (hts _ kf6_28) rfl dX6_linesGone_151 ?_
  refine lv_iload hx hb dX6_linesGone_154 (hl.at 7 rfl) ?_
  refine e_aload_n (B := B) (x := x0) hx hb dX6_linesGone_156 rfl (hl.at 1 rfl) ?_
  obtain ⟨v157, h157, hsh⟩ := Option.bind_eq_some_iff.mp hsh
  refine e_getR (k := 5) hx hb hts in_X6 hown hp h157 rfl (by decide) (by decide) rfl (hts _ kf6_28) rfl dX6_linesGone_157 ?_
  refine lv_iload hx hb dX6_linesGone_160 (hl.at 8 rfl) ?_
  obtain ⟨v162, h162, hsh⟩ := Option.bind_eq_some_iff.mp hsh
  refine e_iald hx hb hp h162 dX6_linesGone_162 ?_
  refine lv_iload hx hb dX6_linesGone_163 (hl.at 5 rfl) ?_
  refine e_icmp_ge (tgt := 178) hx hb dX6_linesGone_165 (by decide) (fun c165 => ?_) (fun c165 => ?_)
  · rw [if_pos c165] at hsh
    refine e_aload_n (B := B) (x := x0) hx hb dX6_linesGone_178 rfl (hl.at 1 rfl) ?_
    obtain ⟨v179, h179, hsh⟩ := Option.bind_eq_some_iff.mp hsh
    refine e_getR (k := 5) hx hb hts in_X6 hown hp h179 rfl (by decide) (by decide) rfl (hts _ kf6_28) rfl dX6_linesGone_179 ?_
    refine lv_iload hx hb dX6_linesGone_182 (hl.at 8 rfl) ?_
    obtain ⟨v184, h184, hsh⟩ := Option.bind_eq_some_iff.mp hsh
    refine e_iald hx hb hp h184 dX6_linesGone_184 ?_
    refine lv_iload_n hx hb dX6_linesGone_185 rfl (hl.at 3 rfl) ?_
    refine lv_bipush (v := iI (100)) hx hb dX6_linesGone_186 (by decide +kernel) ?_
    refine e_imul hx hb dX6_linesGone_188 ?_
    refine e_isub hx hb dX6_linesGone_189 ?_
    exact w6_linesGone_b190 (hk99 := hk99) E hp hS (hl.sub [1, 2, 3, 4, 5, 6, 7, 0, 8] rfl) hsh
  · rw [if_neg c165] at hsh
    refine e_aload_n (B := B) (x := x0) hx hb dX6_linesGone_168 rfl (hl.at 1 rfl) ?_
    obtain ⟨v169, h169, hsh⟩ := Option.bind_eq_some_iff.mp hsh
    refine e_getR (k := 5) hx hb hts in_X6 hown hp h169 rfl (by decide) (by decide) rfl (hts _ kf6_28) rfl dX6_linesGone_169 ?_
    refine lv_iload hx hb dX6_linesGone_172 (hl.at 8 rfl) ?_
    obtain ⟨v174, h174, hsh⟩ := Option.bind_eq_some_iff.mp hsh
    refine e_iald hx hb hp h174 dX6_linesGone_174 ?_
    refine lv_goto (tgt := 190) hx hb dX6_linesGone_175 (by decide) ?_
    exact w6_linesGone_b190 (hk99 := hk99) E hp hS (hl.sub [1, 2, 3, 4, 5, 6, 7, 0, 8] rfl) hsh
set_option maxRecDepth 100000 in
set_option maxHeartbeats 4000000 in
theorem w6_linesGone_b132 {p : Program} {l : Launch} {e : Env} {s : State} {m : MethodId} {args : Array Value} {below : List Frame} {meth : Method} {c : Code} {D : va_G} {cA : Nat → ClassId} {B : Nat} {res : HP} {k99 : HP → Int → Int → Int → Int → Int → Int → Int → Int → Int → Option (HP)} (hk99 : ∀ {ls : Array Slot} {H : Heap} {locs : List Loc} {S : HP} {x0 : Int} {x1 : Int} {x2 : Int} {x3 : Int} {x4 : Int} {x5 : Int} {x6 : Int} {x7 : Int} {x8 : Int} (hp : e_Pic D cA B S s H) (hS : va_S (e_A B) s.heap H locs) (hl : e_lo ls 11 [(0, e_rv B (x0)), (1, .int (iI (x1))), (2, .int (iI (x2))), (3, .int (iI (x3))), (4, .int (iI (x4))), (5, .int (iI (x5))), (6, .int (iI (x6))), (7, .int (iI (x7))), (8, .int (iI (x8)))]) (hsh : k99 S x0 x1 x2 x3 x4 x5 x6 x7 x8 = some res), W p l e ({ frames := 1, cells := 0, slots := 0, locals := 21 } : Room) s m args below meth c H locs 0 0 (MQ below (e_Qv D cA B res) args s 0 0 (e_A B)) (F0 m 99 ls [])) (E : e_En p s m args meth c cX6_linesGone RX6 11 none) {ls : Array Slot} {H : Heap} {locs : List Loc} {S : HP} {x0 : Int} {x1 : Int} {x2 : Int} {x3 : Int} {x4 : Int} {x5 : Int} {x6 : Int} {x7 : Int} {x8 : Int} (hp : e_Pic D cA B S s H) (hS : va_S (e_A B) s.heap H locs) (hl : e_lo ls 11 [(0, e_rv B (x0)), (1, .int (iI (x1))), (2, .int (iI (x2))), (3, .int (iI (x3))), (4, .int (iI (x4))), (5, .int (iI (x5))), (6, .int (iI (x6))), (7, .int (iI (x7))), (8, .int (iI (x8)))]) (hsh : s6_linesGone_b132 k99 S x0 x1 x2 x3 x4 x5 x6 x7 x8 = some res) : W p l e ({ frames := 1, cells := 0, slots := 0, locals := 21 } : Room) s m args below meth c H locs 0 0 (MQ below (e_Qv D cA B res) args s 0 0 (e_A B)) (F0 m 132 ls []) := by
  obtain ⟨hx, hb, hml, hown, hts, hlk, hrt⟩ := id E
  unfold s6_linesGone_b132 at hsh
  refine lv_iload hx hb dX6_linesGone_132 (hl.at 8 rfl) ?_
  refine e_aload_n (B := B) (x := x0) hx hb dX6_linesGone_134 rfl (hl.at 0 rfl) ?_
  obtain ⟨v135, h135, hsh⟩ := Option.bind_eq_some_iff.mp hsh
  refine e_getI (k := 7) hx hb hts in_X6 hown hp h135 rfl (by decide) (by decide) rfl (hts _ kf6_34) rfl dX6_linesGone_135 ?_
  refine e_icmp_ne (tgt := 146) hx hb dX6_linesGone_138 (by decide) (fun c138 => ?_) (fun c138 => ?_)
  · rw [if_neg c138] at hsh
    refine lv_iload hx hb dX6_linesGone_146 (hl.at 7 rfl) ?_
    exact w6_linesGone_b148 (hk99 := hk99) E hp hS (hl.sub [0, 1, 2, 3, 4, 5, 6, 8] rfl) hsh
  · rw [if_pos c138] at hsh
    refine lv_iload hx hb dX6_linesGone_141 (hl.at 6 rfl) ?_
    refine lv_goto (tgt := 148) hx hb dX6_linesGone_143 (by decide) ?_
    exact w6_linesGone_b148 (hk99 := hk99) E hp hS (hl.sub [0, 1, 2, 3, 4, 5, 6, 8] rfl) hsh
set_option maxRecDepth 100000 in
set_option maxHeartbeats 4000000 in
theorem w6_linesGone_l99 {p : Program} {l : Launch} {e : Env} {s : State} {m : MethodId} {args : Array Value} {below : List Frame} {meth : Method} {c : Code} {D : va_G} {cA : Nat → ClassId} {B : Nat} {res : HP} (E : e_En p s m args meth c cX6_linesGone RX6 11 none) : ∀ (f : Nat) {ls : Array Slot} {H : Heap} {locs : List Loc} {S : HP} {x0 : Int} {x1 : Int} {x2 : Int} {x3 : Int} {x4 : Int} {x5 : Int} {x6 : Int} {x7 : Int} {x8 : Int} (hp : e_Pic D cA B S s H) (hS : va_S (e_A B) s.heap H locs) (hl : e_lo ls 11 [(0, e_rv B (x0)), (1, .int (iI (x1))), (2, .int (iI (x2))), (3, .int (iI (x3))), (4, .int (iI (x4))), (5, .int (iI (x5))), (6, .int (iI (x6))), (7, .int (iI (x7))), (8, .int (iI (x8)))]) (hsh : s6_linesGone_l99 f S x0 x1 x2 x3 x4 x5 x6 x7 x8 = some res), W p l e ({ frames := 1, cells := 0, slots := 0, locals := 21 } : Room) s m args below meth c H locs 0 0 (MQ below (e_Qv D cA B res) args s 0 0 (e_A B)) (F0 m 99 ls []) := by
  obtain ⟨hx, hb, hml, hown, hts, hlk, hrt⟩ := id E
  intro f
  induction f with
  | zero => intro ls H locs S x0 x1 x2 x3 x4 x5 x6 x7 x8 hp hS hl hsh; cases hsh
  | succ f ih =>
    intro ls H locs S x0 x1 x2 x3 x4 x5 x6 x7 x8 hp hS hl hsh
    have hk99 : ∀ {ls : Array Slot} {H : Heap} {locs : List Loc} {S : HP} {x0 : Int} {x1 : Int} {x2 : Int} {x3 : Int} {x4 : Int} {x5 : Int} {x6 : Int} {x7 : Int} {x8 : Int} (hp : e_Pic D cA B S s H) (hS : va_S (e_A B) s.heap H locs) (hl : e_lo ls 11 [(0, e_rv B (x0)), (1, .int (iI (x1))), (2, .int (iI (x2))), (3, .int (iI (x3))), (4, .int (iI (x4))), (5, .int (iI (x5))), (6, .int (iI (x6))), (7, .int (iI (x7))), (8, .int (iI (x8)))]) (hsh : (s6_linesGone_l99 f) S x0 x1 x2 x3 x4 x5 x6 x7 x8 = some res), W p l e ({ frames := 1, cells := 0, slots := 0, locals := 21 } : Room) s m args below meth c H locs 0 0 (MQ below (e_Qv D cA B res) args s 0 0 (e_A B)) (F0 m 99 ls []) := ih
    generalize hkk : s6_linesGone_l99 f = k99 at hk99
    rw [s6_linesGone_l99] at hsh
    rw [hkk] at hsh
    try dsimp only at hsh
    refine lv_iload hx hb dX6_linesGone_99 (hl.at 8 rfl) ?_
    refine e_aload_n (B := B) (x := x0) hx hb dX6_linesGone_101 rfl (hl.at 0 rfl) ?_
    obtain ⟨v102, h102, hsh⟩ := Option.bind_eq_some_iff.mp hsh
    refine e_getI (k := 6) hx hb hts in_X6 hown hp h102 rfl (by decide) (by decide) rfl (hts _ kf6_31) rfl dX6_linesGone_102 ?_
    refine e_icmp_ge (tgt := 200) hx hb dX6_linesGone_105 (by decide) (fun c105 => ?_) (fun c105 => ?_)
    · rw [if_pos c105] at hsh
      refine e_aload_n (B := B) (x := x0) hx hb dX6_linesGone_200 rfl (hl.at 0 rfl) ?_
      refine lv_iload hx hb dX6_linesGone_201 (hl.at 6 rfl) ?_
      obtain ⟨S203, h203, hsh⟩ := Option.bind_eq_some_iff.mp hsh
      refine e_putI (k := 6) hx hb hts in_X6 tyX6 tyX6_ok nmX6 hown hp hS h203 rfl (by decide) (by decide) rfl (hts _ kf6_31) rfl rfl (by decide +kernel) dX6_linesGone_203 (fun H locs hp hS => ?_)
      refine e_aload_n (B := B) (x := x0) hx hb dX6_linesGone_206 rfl (hl.at 0 rfl) ?_
      refine lv_iload hx hb dX6_linesGone_207 (hl.at 7 rfl) ?_
      obtain ⟨S209, h209, hsh⟩ := Option.bind_eq_some_iff.mp hsh
      refine e_putI (k := 7) hx hb hts in_X6 tyX6 tyX6_ok nmX6 hown hp hS h209 rfl (by decide) (by decide) rfl (hts _ kf6_34) rfl rfl (by decide +kernel) dX6_linesGone_209 (fun H locs hp hS => ?_)
      refine lv_iconst (v := iI (0)) hx hb dX6_linesGone_212 rfl ?_
      refine e_istore (lv' := [(8, .int (iI (0))), (0, e_rv B (x0)), (1, .int (iI (x1))), (2, .int (iI (x2))), (3, .int (iI (x3))), (4, .int (iI (x4))), (5, .int (iI (x5))), (6, .int (iI (x6))), (7, .int (iI (x7)))]) hx hb dX6_linesGone_213 hl (by decide) rfl (fun ls hl => ?_)
      exact w6_linesGone_l215 E 1000000 hp hS (hl.sub [1, 2, 3, 4, 5, 6, 0] rfl) hsh
    · rw [if_neg c105] at hsh
      refine e_aload_n (B := B) (x := x0) hx hb dX6_linesGone_108 rfl (hl.at 0 rfl) ?_
      obtain ⟨v109, h109, hsh⟩ := Option.bind_eq_some_iff.mp hsh
      refine e_getR (k := 5) hx hb hts in_X6 hown hp h109 rfl (by decide) (by decide) rfl (hts _ kf6_28) rfl dX6_linesGone_109 ?_
      refine lv_iload hx hb dX6_linesGone_112 (hl.at 8 rfl) ?_
      obtain ⟨v114, h114, hsh⟩ := Option.bind_eq_some_iff.mp hsh
      refine e_iald hx hb hp h114 dX6_linesGone_114 ?_
      refine lv_iload hx hb dX6_linesGone_115 (hl.at 4 rfl) ?_
      refine e_icmp_lt (tgt := 132) hx hb dX6_linesGone_117 (by decide) (fun c117 => ?_) (fun c117 => ?_)
      · rw [if_pos c117] at hsh
        exact w6_linesGone_b132 (hk99 := hk99) E hp hS (hl.sub [0, 1, 2, 3, 4, 5, 6, 7, 8] rfl) hsh
      · rw [if_neg c117] at hsh
        refine e_aload_n (B := B) (x := x0) hx hb dX6_linesGone_120 rfl (hl.at 0 rfl) ?_
        obtain ⟨v121, h121, hsh⟩ := Option.bind_eq_some_iff.mp hsh
        refine e_getR (k := 5) hx hb hts in_X6 hown hp h121 rfl (by decide) (by decide) rfl (hts _ kf6_28) rfl dX6_linesGone_121 ?_
        refine lv_iload hx hb dX6_linesGone_124 (hl.at 8 rfl) ?_
        obtain ⟨v126, h126, hsh⟩ := Option.bind_eq_some_iff.mp hsh
        refine e_iald hx hb hp h126 dX6_linesGone_126 ?_
        refine lv_iload hx hb dX6_linesGone_127 (hl.at 5 rfl) ?_
        refine e_icmp_lt (tgt := 194) hx hb dX6_linesGone_129 (by decide) (fun c129 => ?_) (fun c129 => ?_)
        · rw [if_pos c129] at hsh
          exact w6_linesGone_b194 (hk99 := hk99) E hp hS (hl.sub [0, 1, 2, 3, 4, 5, 6, 7, 8] rfl) hsh
        · rw [if_neg c129] at hsh
          exact w6_linesGone_b132 (hk99 := hk99) E hp hS (hl.sub [0, 1, 2, 3, 4, 5, 6, 7, 8] rfl) hsh
set_option maxRecDepth 100000 in
set_option maxHeartbeats 4000000 in
theorem w6_linesGone_b83 {p : Program} {l : Launch} {e : Env} {s : State} {m : MethodId} {args : Array Value} {below : List Frame} {meth : Method} {c : Code} {D : va_G} {cA : Nat → ClassId} {B : Nat} {res : HP} {k17 : HP → Int → Int → Int → Int → Int → Int → Int → Option (HP)} (hk17 : ∀ {ls : Array Slot} {H : Heap} {locs : List Loc} {S : HP} {x0 : Int} {x1 : Int} {x2 : Int} {x3 : Int} {x4 : Int} {x5 : Int} {x6 : Int} (hp : e_Pic D cA B S s H) (hS : va_S (e_A B) s.heap H locs) (hl : e_lo ls 11 [(0, e_rv B (x0)), (1, .int (iI (x1))), (2, .int (iI (x2))), (3, .int (iI (x3))), (4, .int (iI (x4))), (5, .int (iI (x5))), (6, .int (iI (x6)))]) (hsh : k17 S x0 x1 x2 x3 x4 x5 x6 = some res), W p l e ({ frames := 1, cells := 0, slots := 0, locals := 21 } : Room) s m args below meth c H locs 0 0 (MQ below (e_Qv D cA B res) args s 0 0 (e_A B)) (F0 m 17 ls [])) (E : e_En p s m args meth c cX6_linesGone RX6 11 none) {ls : Array Slot} {H : Heap} {locs : List Loc} {S : HP} {x0 : Int} {x1 : Int} {x2 : Int} {x3 : Int} {x4 : Int} {x5 : Int} {x6 : Int} {y0 : Int} {y1 : Int} {y2 : Int} (hp : e_Pic D cA B S s H) (hS : va_S (e_A B) s.heap H locs) (hl : e_lo ls 11 [(0, e_rv B (x0)), (1, .int (iI (x1))), (2, .int (iI (x2))), (3, .int (iI (x3))), (4, .int (iI (x4))), (5, .int (iI (x5))), (6, .int (iI (x6)))]) (hsh : s6_linesGone_b83 k17 S x0 x1 x2 x3 x4 x5 x6 y0 y1 y2 = some res) : W p l e ({ frames := 1, cells := 0, slots := 0, locals := 21 } : Room) s m args below meth c H locs 0 0 (MQ below (e_Qv D cA B res) args s 0 0 (e_A B)) (F0 m 83 ls [.int (iI (y2)), .int (iI (y1)), e_rv B (y0)]) := by
  obtain ⟨hx, hb, hml, hown, hts, hlk, hrt⟩ := id E
  unfold s6_linesGone_b83 at hsh
  obtain ⟨S83, h83, hsh⟩ := Option.bind_eq_some_iff.mp hsh
  refine e_iast hx hb hp hS h83 dX6_linesGone_83 (fun H locs hp hS => ?_)
  refine e_iinc (n := 1) (x := x6) (lv' := [(6, .int (iI ((x6 + 1)))), (0, e_rv B (x0)), (1, .int (iI (x1))), (2, .int (iI (x2))), (3, .int (iI (x3))), (4, .int (iI (x4))), (5, .int (iI (x5)))]) hx hb dX6_linesGone_84 hl (k := 6) rfl (by decide) rfl (fun ls hl => ?_)
  refine lv_goto (tgt := 17) hx hb dX6_linesGone_87 (by decide) ?_
  exact hk17 hp hS (hl.sub [1, 2, 3, 4, 5, 6, 0] rfl) hsh
set_option maxRecDepth 100000 in
set_option maxHeartbeats 4000000 in
theorem w6_linesGone_l17 {p : Program} {l : Launch} {e : Env} {s : State} {m : MethodId} {args : Array Value} {below : List Frame} {meth : Method} {c : Code} {D : va_G} {cA : Nat → ClassId} {B : Nat} {res : HP} (E : e_En p s m args meth c cX6_linesGone RX6 11 none) : ∀ (f : Nat) {ls : Array Slot} {H : Heap} {locs : List Loc} {S : HP} {x0 : Int} {x1 : Int} {x2 : Int} {x3 : Int} {x4 : Int} {x5 : Int} {x6 : Int} (hp : e_Pic D cA B S s H) (hS : va_S (e_A B) s.heap H locs) (hl : e_lo ls 11 [(0, e_rv B (x0)), (1, .int (iI (x1))), (2, .int (iI (x2))), (3, .int (iI (x3))), (4, .int (iI (x4))), (5, .int (iI (x5))), (6, .int (iI (x6)))]) (hsh : s6_linesGone_l17 f S x0 x1 x2 x3 x4 x5 x6 = some res), W p l e ({ frames := 1, cells := 0, slots := 0, locals := 21 } : Room) s m args below meth c H locs 0 0 (MQ below (e_Qv D cA B res) args s 0 0 (e_A B)) (F0 m 17 ls []) := by
  obtain ⟨hx, hb, hml, hown, hts, hlk, hrt⟩ := id E
  intro f
  induction f with
  | zero => intro ls H locs S x0 x1 x2 x3 x4 x5 x6 hp hS hl hsh; cases hsh
  | succ f ih =>
    intro ls H locs S x0 x1 x2 x3 x4 x5 x6 hp hS hl hsh
    have hk17 : ∀ {ls : Array Slot} {H : Heap} {locs : List Loc} {S : HP} {x0 : Int} {x1 : Int} {x2 : Int} {x3 : Int} {x4 : Int} {x5 : Int} {x6 : Int} (hp : e_Pic D cA B S s H) (hS : va_S (e_A B) s.heap H locs) (hl : e_lo ls 11 [(0, e_rv B (x0)), (1, .int (iI (x1))), (2, .int (iI (x2))), (3, .int (iI (x3))), (4, .int (iI (x4))), (5, .int (iI (x5))), (6, .int (iI (x6)))]) (hsh : (s6_linesGone_l17 f) S x0 x1 x2 x3 x4 x5 x6 = some res), W p l e ({ frames := 1, cells := 0, slots := 0, locals := 21 } : Room) s m args below meth c H locs 0 0 (MQ below (e_Qv D cA B res) args s 0 0 (e_A B)) (F0 m 17 ls []) := ih
    generalize hkk : s6_linesGone_l17 f = k17 at hk17
    rw [s6_linesGone_l17] at hsh
    rw [hkk] at hsh
    try dsimp only at hsh
    refine lv_iload hx hb dX6_linesGone_17 (hl.at 6 rfl) ?_
    refine e_aload_n (B := B) (x := x0) hx hb dX6_linesGone_19 rfl (hl.at 0 rfl) ?_
    obtain ⟨v20, h20, hsh⟩ := Option.bind_eq_some_iff.mp hsh
    refine e_getR (k := 4) hx hb hts in_X6 hown hp h20 rfl (by decide) (by decide) rfl (hts _ kf6_24) rfl dX6_linesGone_20 ?_
    obtain ⟨v23, h23, hsh⟩ := Option.bind_eq_some_iff.mp hsh
    refine e_alen (t := 101) (t0 := 1) hx hb hp h23 (by decide) rfl dX6_linesGone_23 ?_
    refine e_icmp_ge (tgt := 90) hx hb dX6_linesGone_24 (by decide) (fun c24 => ?_) (fun c24 => ?_)
    · rw [if_pos c24] at hsh
      refine lv_iconst (v := iI (0)) hx hb dX6_linesGone_90 rfl ?_
      refine e_istore (lv' := [(6, .int (iI (0))), (0, e_rv B (x0)), (1, .int (iI (x1))), (2, .int (iI (x2))), (3, .int (iI (x3))), (4, .int (iI (x4))), (5, .int (iI (x5)))]) hx hb dX6_linesGone_91 hl (by decide) rfl (fun ls hl => ?_)
      refine lv_iconst (v := iI (-1)) hx hb dX6_linesGone_93 rfl ?_
      refine e_istore (lv' := [(7, .int (iI ((-1)))), (6, .int (iI (0))), (0, e_rv B (x0)), (1, .int (iI (x1))), (2, .int (iI (x2))), (3, .int (iI (x3))), (4, .int (iI (x4))), (5, .int (iI (x5)))]) hx hb dX6_linesGone_94 hl (by decide) rfl (fun ls hl => ?_)
      refine lv_iconst (v := iI (0)) hx hb dX6_linesGone_96 rfl ?_
      refine e_istore (lv' := [(8, .int (iI (0))), (7, .int (iI ((-1)))), (6, .int (iI (0))), (0, e_rv B (x0)), (1, .int (iI (x1))), (2, .int (iI (x2))), (3, .int (iI (x3))), (4, .int (iI (x4))), (5, .int (iI (x5)))]) hx hb dX6_linesGone_97 hl (by decide) rfl (fun ls hl => ?_)
      exact w6_linesGone_l99 E 1000000 hp hS (hl.sub [3, 4, 5, 6, 7, 8, 2, 1, 0] rfl) hsh
    · rw [if_neg c24] at hsh
      refine e_aload_n (B := B) (x := x0) hx hb dX6_linesGone_27 rfl (hl.at 0 rfl) ?_
      obtain ⟨v28, h28, hsh⟩ := Option.bind_eq_some_iff.mp hsh
      refine e_getR (k := 4) hx hb hts in_X6 hown hp h28 rfl (by decide) (by decide) rfl (hts _ kf6_24) rfl dX6_linesGone_28 ?_
      refine lv_iload hx hb dX6_linesGone_31 (hl.at 6 rfl) ?_
      refine e_aload_n (B := B) (x := x0) hx hb dX6_linesGone_33 rfl (hl.at 0 rfl) ?_
      obtain ⟨v34, h34, hsh⟩ := Option.bind_eq_some_iff.mp hsh
      refine e_getR (k := 4) hx hb hts in_X6 hown hp h34 rfl (by decide) (by decide) rfl (hts _ kf6_24) rfl dX6_linesGone_34 ?_
      refine lv_iload hx hb dX6_linesGone_37 (hl.at 6 rfl) ?_
      obtain ⟨v39, h39, hsh⟩ := Option.bind_eq_some_iff.mp hsh
      refine e_iald hx hb hp h39 dX6_linesGone_39 ?_
      refine lv_iload hx hb dX6_linesGone_40 (hl.at 4 rfl) ?_
      refine e_icmp_ge (tgt := 55) hx hb dX6_linesGone_42 (by decide) (fun c42 => ?_) (fun c42 => ?_)
      · rw [if_pos c42] at hsh
        refine e_aload_n (B := B) (x := x0) hx hb dX6_linesGone_55 rfl (hl.at 0 rfl) ?_
        obtain ⟨v56, h56, hsh⟩ := Option.bind_eq_some_iff.mp hsh
        refine e_getR (k := 4) hx hb hts in_X6 hown hp h56 rfl (by decide) (by decide) rfl (hts _ kf6_24) rfl dX6_linesGone_56 ?_
        refine lv_iload hx hb dX6_linesGone_59 (hl.at 6 rfl) ?_
        obtain ⟨v61, h61, hsh⟩ := Option.bind_eq_some_iff.mp hsh
        refine e_iald hx hb hp h61 dX6_linesGone_61 ?_
        refine lv_iload hx hb dX6_linesGone_62 (hl.at 5 rfl) ?_
        refine e_icmp_ge (tgt := 71) hx hb dX6_linesGone_64 (by decide) (fun c64 => ?_) (fun c64 => ?_)
        · rw [if_pos c64] at hsh
          refine e_aload_n (B := B) (x := x0) hx hb dX6_linesGone_71 rfl (hl.at 0 rfl) ?_
          obtain ⟨v72, h72, hsh⟩ := Option.bind_eq_some_iff.mp hsh
          refine e_getR (k := 4) hx hb hts in_X6 hown hp h72 rfl (by decide) (by decide) rfl (hts _ kf6_24) rfl dX6_linesGone_72 ?_
          refine lv_iload hx hb dX6_linesGone_75 (hl.at 6 rfl) ?_
          obtain ⟨v77, h77, hsh⟩ := Option.bind_eq_some_iff.mp hsh
          refine e_iald hx hb hp h77 dX6_linesGone_77 ?_
          refine lv_iload_n hx hb dX6_linesGone_78 rfl (hl.at 2 rfl) ?_
          refine lv_bipush (v := iI (100)) hx hb dX6_linesGone_79 (by decide +kernel) ?_
          refine e_imul hx hb dX6_linesGone_81 ?_
          refine e_isub hx hb dX6_linesGone_82 ?_
          exact w6_linesGone_b83 (hk17 := hk17) E hp hS (hl.sub [0, 1, 2, 3, 4, 5, 6] rfl) hsh
        · rw [if_neg c64] at hsh
          refine lv_iconst (v := iI (-1)) hx hb dX6_linesGone_67 rfl ?_
          refine lv_goto (tgt := 83) hx hb dX6_linesGone_68 (by decide) ?_
          exact w6_linesGone_b83 (hk17 := hk17) E hp hS (hl.sub [0, 1, 2, 3, 4, 5, 6] rfl) hsh
      · rw [if_neg c42] at hsh
        refine e_aload_n (B := B) (x := x0) hx hb dX6_linesGone_45 rfl (hl.at 0 rfl) ?_
        obtain ⟨v46, h46, hsh⟩ := Option.bind_eq_some_iff.mp hsh
        refine e_getR (k := 4) hx hb hts in_X6 hown hp h46 rfl (by decide) (by decide) rfl (hts _ kf6_24) rfl dX6_linesGone_46 ?_
        refine lv_iload hx hb dX6_linesGone_49 (hl.at 6 rfl) ?_
        obtain ⟨v51, h51, hsh⟩ := Option.bind_eq_some_iff.mp hsh
        refine e_iald hx hb hp h51 dX6_linesGone_51 ?_
        refine lv_goto (tgt := 83) hx hb dX6_linesGone_52 (by decide) ?_
        exact w6_linesGone_b83 (hk17 := hk17) E hp hS (hl.sub [0, 1, 2, 3, 4, 5, 6] rfl) hsh
set_option maxRecDepth 100000 in
set_option maxHeartbeats 4000000 in
theorem c6_linesGone (l : Launch) (D : va_G) (cA : Nat → ClassId) (B : Nat) (S S' : HP) (x0 : Int) (x1 : Int) (x2 : Int) (x3 : Int) (hsh : s6_linesGone S x0 x1 x2 x3 = some S') : Met l yX6_linesGone (e_wu yX6_linesGone cX6_linesGone 11 none) ({ frames := 1, cells := 0, slots := 0, locals := 21 } : Room) (va_Pc [e_rv B (x0), .int (iI (x1)), .int (iI (x2)), .int (iI (x3))] (fun U => e_PU D cA B S U)) (e_Qv D cA B S') 0 0 (e_A B) := by
  refine Met.ofW (cc := cX6_linesGone) (maxL := 11) (ret := none) (by decide +kernel) rfl ?_
  intro p e s m args below meth c s₁ Bd hml hv
  obtain ⟨rfl, hp⟩ := hv
  have hp : e_Pic D cA B S s s.heap := hp
  have hx := Bd.exec
  have hb := Bd.bytes
  have hrt := Bd.returns
  have hlk := Bd.notSynchronized
  have hown : s.vm.findClass RX6 = some m.cls := findClass_of_methodNamed Bd.named
  have hts : ∀ w ∈ e_tb, w.before ([e_rv B (x0), .int (iI (x1)), .int (iI (x2)), .int (iI (x3))] : List Value).toArray s = true := fun w h => atoms_spec (ws := (e_wu yX6_linesGone cX6_linesGone 11 none)) Bd.pre w (List.mem_cons_of_mem _ h)
  have E : e_En p s m ([e_rv B (x0), .int (iI (x1)), .int (iI (x2)), .int (iI (x3))] : List Value).toArray meth c cX6_linesGone RX6 11 none := ⟨hx, hb, hml, hown, hts, hlk, hrt⟩
  have hS : va_S (e_A B) s.heap s.heap [] := va_S.rf
  have hl := e_entry (vs := [e_rv B (x0), .int (iI (x1)), .int (iI (x2)), .int (iI (x3))]) (n := 11) (Nat.le_of_ble_eq_true rfl) (e_cc (e_rv_cat _ _) (e_cc rfl (e_cc rfl (e_cc rfl e_cn))))
  rw [lg_entry_eq]
  generalize (lg_sl [e_rv B (x0), .int (iI (x1)), .int (iI (x2)), .int (iI (x3))] ++ List.replicate (11 - (lg_sl [e_rv B (x0), .int (iI (x1)), .int (iI (x2)), .int (iI (x3))]).length) Slot.unset).toArray = ls at hl ⊢
  generalize ([e_rv B (x0), .int (iI (x1)), .int (iI (x2)), .int (iI (x3))] : List Value).toArray = args at hts E ⊢
  have hl : e_lo ls 11 [(0, e_rv B (x0)), (1, .int (iI (x1))), (2, .int (iI (x2))), (3, .int (iI (x3)))] := hl
  have hsh := (gd_some hsh).2
  refine lv_iload_n hx hb dX6_linesGone_0 rfl (hl.at 1 rfl) ?_
  refine lv_bipush (v := iI (100)) hx hb dX6_linesGone_1 (by decide +kernel) ?_
  refine e_imul hx hb dX6_linesGone_3 ?_
  refine e_istore (lv' := [(4, .int (iI ((x1 * 100)))), (0, e_rv B (x0)), (1, .int (iI (x1))), (2, .int (iI (x2))), (3, .int (iI (x3)))]) hx hb dX6_linesGone_4 hl (by decide) rfl (fun ls hl => ?_)
  refine lv_iload_n hx hb dX6_linesGone_6 rfl (hl.at 2 rfl) ?_
  refine lv_iload_n hx hb dX6_linesGone_7 rfl (hl.at 3 rfl) ?_
  refine e_iadd hx hb dX6_linesGone_8 ?_
  refine lv_bipush (v := iI (100)) hx hb dX6_linesGone_9 (by decide +kernel) ?_
  refine e_imul hx hb dX6_linesGone_11 ?_
  refine e_istore (lv' := [(5, .int (iI (((x1 + x2) * 100)))), (4, .int (iI ((x1 * 100)))), (0, e_rv B (x0)), (1, .int (iI (x1))), (2, .int (iI (x2))), (3, .int (iI (x3)))]) hx hb dX6_linesGone_12 hl (by decide) rfl (fun ls hl => ?_)
  refine lv_iconst (v := iI (0)) hx hb dX6_linesGone_14 rfl ?_
  refine e_istore (lv' := [(6, .int (iI (0))), (5, .int (iI (((x1 + x2) * 100)))), (4, .int (iI ((x1 * 100)))), (0, e_rv B (x0)), (1, .int (iI (x1))), (2, .int (iI (x2))), (3, .int (iI (x3)))]) hx hb dX6_linesGone_15 hl (by decide) rfl (fun ls hl => ?_)
  exact w6_linesGone_l17 E 1000000 hp hS (hl.sub [3, 4, 5, 6, 2, 1, 0] rfl) hsh
theorem ok6_cutTo {S : HP} {x0 : Int} {x1 : Int} {r : HP} (h : s6_cutTo S x0 x1 = some r) : 0 ≤ x0 ∧ x0.toNat < e_n S ∧ e_g S x0.toNat = 6 := (gd_some h).1
set_option maxRecDepth 100000 in
set_option maxHeartbeats 4000000 in
theorem w6_cutTo_b211 {p : Program} {l : Launch} {e : Env} {s : State} {m : MethodId} {args : Array Value} {below : List Frame} {meth : Method} {c : Code} {D : va_G} {cA : Nat → ClassId} {B : Nat} {res : HP} {k131 : HP → Int → Int → Int → Int → Option (HP)} (hk131 : ∀ {ls : Array Slot} {H : Heap} {locs : List Loc} {S : HP} {x0 : Int} {x1 : Int} {x3 : Int} {x5 : Int} (hp : e_Pic D cA B S s H) (hS : va_S (e_A B) s.heap H locs) (hl : e_lo ls 6 [(0, e_rv B (x0)), (1, .int (iI (x1))), (3, .int (iI (x3))), (5, .int (iI (x5)))]) (hsh : k131 S x0 x1 x3 x5 = some res), W p l e ({ frames := 1, cells := 0, slots := 0, locals := 21 } : Room) s m args below meth c H locs 0 0 (MQ below (e_Qv D cA B res) args s 0 0 (e_A B)) (F0 m 131 ls [])) (E : e_En p s m args meth c cX6_cutTo RX6 6 none) {ls : Array Slot} {H : Heap} {locs : List Loc} {S : HP} {x0 : Int} {x1 : Int} {x3 : Int} {x5 : Int} (hp : e_Pic D cA B S s H) (hS : va_S (e_A B) s.heap H locs) (hl : e_lo ls 6 [(0, e_rv B (x0)), (1, .int (iI (x1))), (3, .int (iI (x3))), (5, .int (iI (x5)))]) (hsh : s6_cutTo_b211 k131 S x0 x1 x3 x5 = some res) : W p l e ({ frames := 1, cells := 0, slots := 0, locals := 21 } : Room) s m args below meth c H locs 0 0 (MQ below (e_Qv D cA B res) args s 0 0 (e_A B)) (F0 m 211 ls []) := by
  obtain ⟨hx, hb, hml, hown, hts, hlk, hrt⟩ := id E
  unfold s6_cutTo_b211 at hsh
  refine e_iinc (n := 1) (x := x5) (lv' := [(5, .int (iI ((x5 + 1)))), (0, e_rv B (x0)), (1, .int (iI (x1))), (3, .int (iI (x3)))]) hx hb dX6_cutTo_211 hl (k := 3) rfl (by decide) rfl (fun ls hl => ?_)
  refine lv_goto (tgt := 131) hx hb dX6_cutTo_214 (by decide) ?_
  exact hk131 hp hS (hl.sub [1, 2, 3, 0] rfl) hsh
set_option maxRecDepth 100000 in
set_option maxHeartbeats 4000000 in
theorem w6_cutTo_l131 {p : Program} {l : Launch} {e : Env} {s : State} {m : MethodId} {args : Array Value} {below : List Frame} {meth : Method} {c : Code} {D : va_G} {cA : Nat → ClassId} {B : Nat} {res : HP} (E : e_En p s m args meth c cX6_cutTo RX6 6 none) : ∀ (f : Nat) {ls : Array Slot} {H : Heap} {locs : List Loc} {S : HP} {x0 : Int} {x1 : Int} {x3 : Int} {x5 : Int} (hp : e_Pic D cA B S s H) (hS : va_S (e_A B) s.heap H locs) (hl : e_lo ls 6 [(0, e_rv B (x0)), (1, .int (iI (x1))), (3, .int (iI (x3))), (5, .int (iI (x5)))]) (hsh : s6_cutTo_l131 f S x0 x1 x3 x5 = some res), W p l e ({ frames := 1, cells := 0, slots := 0, locals := 21 } : Room) s m args below meth c H locs 0 0 (MQ below (e_Qv D cA B res) args s 0 0 (e_A B)) (F0 m 131 ls []) := by
  obtain ⟨hx, hb, hml, hown, hts, hlk, hrt⟩ := id E
  intro f
  induction f with
  | zero => intro ls H locs S x0 x1 x3 x5 hp hS hl hsh; cases hsh
  | succ f ih =>
    intro ls H locs S x0 x1 x3 x5 hp hS hl hsh
    have hk131 : ∀ {ls : Array Slot} {H : Heap} {locs : List Loc} {S : HP} {x0 : Int} {x1 : Int} {x3 : Int} {x5 : Int} (hp : e_Pic D cA B S s H) (hS : va_S (e_A B) s.heap H locs) (hl : e_lo ls 6 [(0, e_rv B (x0)), (1, .int (iI (x1))), (3, .int (iI (x3))), (5, .int (iI (x5)))]) (hsh : (s6_cutTo_l131 f) S x0 x1 x3 x5 = some res), W p l e ({ frames := 1, cells := 0, slots := 0, locals := 21 } : Room) s m args below meth c H locs 0 0 (MQ below (e_Qv D cA B res) args s 0 0 (e_A B)) (F0 m 131 ls []) := ih
    generalize hkk : s6_cutTo_l131 f = k131 at hk131
    rw [s6_cutTo_l131] at hsh
    rw [hkk] at hsh
    try dsimp only at hsh
    refine lv_iload hx hb dX6_cutTo_131 (hl.at 3 rfl) ?_
    refine e_aload_n (B := B) (x := x0) hx hb dX6_cutTo_133 rfl (hl.at 0 rfl) ?_
    obtain ⟨v134, h134, hsh⟩ := Option.bind_eq_some_iff.mp hsh
    refine e_getI (k := 15) hx hb hts in_X6 hown hp h134 rfl (by decide) (by decide) rfl (hts _ kf6_59) rfl dX6_cutTo_134 ?_
    refine e_icmp_ge (tgt := 217) hx hb dX6_cutTo_137 (by decide) (fun c137 => ?_) (fun c137 => ?_)
    · rw [if_pos c137] at hsh
      refine e_aload_n (B := B) (x := x0) hx hb dX6_cutTo_217 rfl (hl.at 0 rfl) ?_
      refine lv_iload_n hx hb dX6_cutTo_218 rfl (hl.at 2 rfl) ?_
      obtain ⟨S219, h219, hsh⟩ := Option.bind_eq_some_iff.mp hsh
      refine e_putI (k := 15) hx hb hts in_X6 tyX6 tyX6_ok nmX6 hown hp hS h219 rfl (by decide) (by decide) rfl (hts _ kf6_59) rfl rfl (by decide +kernel) dX6_cutTo_219 (fun H locs hp hS => ?_)
      cases hsh
      exact e_vret hx hb hrt hlk hp hS dX6_cutTo_222
    · rw [if_neg c137] at hsh
      refine e_aload_n (B := B) (x := x0) hx hb dX6_cutTo_140 rfl (hl.at 0 rfl) ?_
      obtain ⟨v141, h141, hsh⟩ := Option.bind_eq_some_iff.mp hsh
      refine e_getR (k := 12) hx hb hts in_X6 hown hp h141 rfl (by decide) (by decide) rfl (hts _ kf6_49) rfl dX6_cutTo_141 ?_
      refine lv_iload hx hb dX6_cutTo_144 (hl.at 3 rfl) ?_
      obtain ⟨v146, h146, hsh⟩ := Option.bind_eq_some_iff.mp hsh
      refine e_iald hx hb hp h146 dX6_cutTo_146 ?_
      refine e_aload_n (B := B) (x := x0) hx hb dX6_cutTo_147 rfl (hl.at 0 rfl) ?_
      obtain ⟨v148, h148, hsh⟩ := Option.bind_eq_some_iff.mp hsh
      refine e_getR (k := 13) hx hb hts in_X6 hown hp h148 rfl (by decide) (by decide) rfl (hts _ kf6_52) rfl dX6_cutTo_148 ?_
      refine lv_iload hx hb dX6_cutTo_151 (hl.at 3 rfl) ?_
      obtain ⟨v153, h153, hsh⟩ := Option.bind_eq_some_iff.mp hsh
      refine e_iald hx hb hp h153 dX6_cutTo_153 ?_
      refine lv_iload_n hx hb dX6_cutTo_154 rfl (hl.at 1 rfl) ?_
      refine lv_iconst (v := iI (1)) hx hb dX6_cutTo_155 rfl ?_
      refine e_isub hx hb dX6_cutTo_156 ?_
      refine e_min (rest := [.int (iI (v146))]) hx hb (hml.trans hl.size.symm) hown hts kl6_73 kM_min_s kM_i kM_min_c (Nat.le_of_ble_eq_true rfl) (Nat.le_trans (Nat.add_le_add_right (show _ ≤ 8 by simp [e_rv_cat, e_int_cat]) 13) (Nat.le_of_ble_eq_true rfl)) (Nat.le_refl _) (Nat.le_refl _) dX6_cutTo_157 ?_
      refine e_icmp_ge (tgt := 211) hx hb dX6_cutTo_160 (by decide) (fun c160 => ?_) (fun c160 => ?_)
      · rw [if_pos c160] at hsh
        exact w6_cutTo_b211 (hk131 := hk131) E hp hS (hl.sub [0, 1, 2, 3] rfl) hsh
      · rw [if_neg c160] at hsh
        refine e_aload_n (B := B) (x := x0) hx hb dX6_cutTo_163 rfl (hl.at 0 rfl) ?_
        obtain ⟨v164, h164, hsh⟩ := Option.bind_eq_some_iff.mp hsh
        refine e_getR (k := 12) hx hb hts in_X6 hown hp h164 rfl (by decide) (by decide) rfl (hts _ kf6_49) rfl dX6_cutTo_164 ?_
        refine lv_iload_n hx hb dX6_cutTo_167 rfl (hl.at 2 rfl) ?_
        refine e_aload_n (B := B) (x := x0) hx hb dX6_cutTo_168 rfl (hl.at 0 rfl) ?_
        obtain ⟨v169, h169, hsh⟩ := Option.bind_eq_some_iff.mp hsh
        refine e_getR (k := 12) hx hb hts in_X6 hown hp h169 rfl (by decide) (by decide) rfl (hts _ kf6_49) rfl dX6_cutTo_169 ?_
        refine lv_iload hx hb dX6_cutTo_172 (hl.at 3 rfl) ?_
        obtain ⟨v174, h174, hsh⟩ := Option.bind_eq_some_iff.mp hsh
        refine e_iald hx hb hp h174 dX6_cutTo_174 ?_
        obtain ⟨S175, h175, hsh⟩ := Option.bind_eq_some_iff.mp hsh
        refine e_iast hx hb hp hS h175 dX6_cutTo_175 (fun H locs hp hS => ?_)
        refine e_aload_n (B := B) (x := x0) hx hb dX6_cutTo_176 rfl (hl.at 0 rfl) ?_
        obtain ⟨v177, h177, hsh⟩ := Option.bind_eq_some_iff.mp hsh
        refine e_getR (k := 13) hx hb hts in_X6 hown hp h177 rfl (by decide) (by decide) rfl (hts _ kf6_52) rfl dX6_cutTo_177 ?_
        refine lv_iload_n hx hb dX6_cutTo_180 rfl (hl.at 2 rfl) ?_
        refine e_aload_n (B := B) (x := x0) hx hb dX6_cutTo_181 rfl (hl.at 0 rfl) ?_
        obtain ⟨v182, h182, hsh⟩ := Option.bind_eq_some_iff.mp hsh
        refine e_getR (k := 13) hx hb hts in_X6 hown hp h182 rfl (by decide) (by decide) rfl (hts _ kf6_52) rfl dX6_cutTo_182 ?_
        refine lv_iload hx hb dX6_cutTo_185 (hl.at 3 rfl) ?_
        obtain ⟨v187, h187, hsh⟩ := Option.bind_eq_some_iff.mp hsh
        refine e_iald hx hb hp h187 dX6_cutTo_187 ?_
        refine lv_iload_n hx hb dX6_cutTo_188 rfl (hl.at 1 rfl) ?_
        refine lv_iconst (v := iI (1)) hx hb dX6_cutTo_189 rfl ?_
        refine e_isub hx hb dX6_cutTo_190 ?_
        refine e_min (rest := [.int (iI (x3)), e_rv B (v177)]) hx hb (hml.trans hl.size.symm) hown hts kl6_73 kM_min_s kM_i kM_min_c (Nat.le_of_ble_eq_true rfl) (Nat.le_trans (Nat.add_le_add_right (show _ ≤ 8 by simp [e_rv_cat, e_int_cat]) 13) (Nat.le_of_ble_eq_true rfl)) (Nat.le_refl _) (Nat.le_refl _) dX6_cutTo_191 ?_
        obtain ⟨S194, h194, hsh⟩ := Option.bind_eq_some_iff.mp hsh
        refine e_iast hx hb hp hS h194 dX6_cutTo_194 (fun H locs hp hS => ?_)
        refine e_aload_n (B := B) (x := x0) hx hb dX6_cutTo_195 rfl (hl.at 0 rfl) ?_
        obtain ⟨v196, h196, hsh⟩ := Option.bind_eq_some_iff.mp hsh
        refine e_getR (k := 14) hx hb hts in_X6 hown hp h196 rfl (by decide) (by decide) rfl (hts _ kf6_55) rfl dX6_cutTo_196 ?_
        refine lv_iload_n hx hb dX6_cutTo_199 rfl (hl.at 2 rfl) ?_
        refine e_aload_n (B := B) (x := x0) hx hb dX6_cutTo_200 rfl (hl.at 0 rfl) ?_
        obtain ⟨v201, h201, hsh⟩ := Option.bind_eq_some_iff.mp hsh
        refine e_getR (k := 14) hx hb hts in_X6 hown hp h201 rfl (by decide) (by decide) rfl (hts _ kf6_55) rfl dX6_cutTo_201 ?_
        refine lv_iload hx hb dX6_cutTo_204 (hl.at 3 rfl) ?_
        obtain ⟨v206, h206, hsh⟩ := Option.bind_eq_some_iff.mp hsh
        refine e_bald hx hb hp h206 dX6_cutTo_206 ?_
        obtain ⟨S207, h207, hsh⟩ := Option.bind_eq_some_iff.mp hsh
        refine e_bast hx hb hp hS h207 dX6_cutTo_207 (fun H locs hp hS => ?_)
        refine e_iinc (n := 1) (x := x3) (lv' := [(3, .int (iI ((x3 + 1)))), (0, e_rv B (x0)), (1, .int (iI (x1))), (5, .int (iI (x5)))]) hx hb dX6_cutTo_208 hl (k := 2) rfl (by decide) rfl (fun ls hl => ?_)
        exact w6_cutTo_b211 (hk131 := hk131) E hp hS (hl.sub [1, 2, 0, 3] rfl) hsh
set_option maxRecDepth 100000 in
set_option maxHeartbeats 4000000 in
theorem w6_cutTo_b109 {p : Program} {l : Launch} {e : Env} {s : State} {m : MethodId} {args : Array Value} {below : List Frame} {meth : Method} {c : Code} {D : va_G} {cA : Nat → ClassId} {B : Nat} {res : HP} {k56 : HP → Int → Int → Int → Int → Int → Int → Option (HP)} (hk56 : ∀ {ls : Array Slot} {H : Heap} {locs : List Loc} {S : HP} {x0 : Int} {x1 : Int} {x2 : Int} {x3 : Int} {x4 : Int} {x5 : Int} (hp : e_Pic D cA B S s H) (hS : va_S (e_A B) s.heap H locs) (hl : e_lo ls 6 [(0, e_rv B (x0)), (1, .int (iI (x1))), (2, .int (iI (x2))), (3, .int (iI (x3))), (4, .int (iI (x4))), (5, .int (iI (x5)))]) (hsh : k56 S x0 x1 x2 x3 x4 x5 = some res), W p l e ({ frames := 1, cells := 0, slots := 0, locals := 21 } : Room) s m args below meth c H locs 0 0 (MQ below (e_Qv D cA B res) args s 0 0 (e_A B)) (F0 m 56 ls [])) (E : e_En p s m args meth c cX6_cutTo RX6 6 none) {ls : Array Slot} {H : Heap} {locs : List Loc} {S : HP} {x0 : Int} {x1 : Int} {x2 : Int} {x3 : Int} {x4 : Int} {x5 : Int} (hp : e_Pic D cA B S s H) (hS : va_S (e_A B) s.heap H locs) (hl : e_lo ls 6 [(0, e_rv B (x0)), (1, .int (iI (x1))), (2, .int (iI (x2))), (3, .int (iI (x3))), (4, .int (iI (x4))), (5, .int (iI (x5)))]) (hsh : s6_cutTo_b109 k56 S x0 x1 x2 x3 x4 x5 = some res) : W p l e ({ frames := 1, cells := 0, slots := 0, locals := 21 } : Room) s m args below meth c H locs 0 0 (MQ below (e_Qv D cA B res) args s 0 0 (e_A B)) (F0 m 109 ls []) := by
  obtain ⟨hx, hb, hml, hown, hts, hlk, hrt⟩ := id E
  unfold s6_cutTo_b109 at hsh
  refine e_iinc (n := 1) (x := x5) (lv' := [(5, .int (iI ((x5 + 1)))), (0, e_rv B (x0)), (1, .int (iI (x1))), (2, .int (iI (x2))), (3, .int (iI (x3))), (4, .int (iI (x4)))]) hx hb dX6_cutTo_109 hl (k := 5) rfl (by decide) rfl (fun ls hl => ?_)
  refine lv_goto (tgt := 56) hx hb dX6_cutTo_112 (by decide) ?_
  exact hk56 hp hS (hl.sub [1, 2, 3, 4, 5, 0] rfl) hsh
set_option maxRecDepth 100000 in
set_option maxHeartbeats 4000000 in
theorem w6_cutTo_b91 {p : Program} {l : Launch} {e : Env} {s : State} {m : MethodId} {args : Array Value} {below : List Frame} {meth : Method} {c : Code} {D : va_G} {cA : Nat → ClassId} {B : Nat} {res : HP} {k56 : HP → Int → Int → Int → Int → Int → Int → Option (HP)} (hk56 : ∀ {ls : Array Slot} {H : Heap} {locs : List Loc} {S : HP} {x0 : Int} {x1 : Int} {x2 : Int} {x3 : Int} {x4 : Int} {x5 : Int} (hp : e_Pic D cA B S s H) (hS : va_S (e_A B) s.heap H locs) (hl : e_lo ls 6 [(0, e_rv B (x0)), (1, .int (iI (x1))), (2, .int (iI (x2))), (3, .int (iI (x3))), (4, .int (iI (x4))), (5, .int (iI (x5)))]) (hsh : k56 S x0 x1 x2 x3 x4 x5 = some res), W p l e ({ frames := 1, cells := 0, slots := 0, locals := 21 } : Room) s m args below meth c H locs 0 0 (MQ below (e_Qv D cA B res) args s 0 0 (e_A B)) (F0 m 56 ls [])) (E : e_En p s m args meth c cX6_cutTo RX6 6 none) {ls : Array Slot} {H : Heap} {locs : List Loc} {S : HP} {x0 : Int} {x1 : Int} {x2 : Int} {x3 : Int} {x5 : Int} {y0 : Int} (hp : e_Pic D cA B S s H) (hS : va_S (e_A B) s.heap H locs) (hl : e_lo ls 6 [(0, e_rv B (x0)), (1, .int (iI (x1))), (2, .int (iI (x2))), (3, .int (iI (x3))), (5, .int (iI (x5)))]) (hsh : s6_cutTo_b91 k56 S x0 x1 x2 x3 x5 y0 = some res) : W p l e ({ frames := 1, cells := 0, slots := 0, locals := 21 } : Room) s m args below meth c H locs 0 0 (MQ below (e_Qv D cA B res) args s 0 0 (e_A B)) (F0 m 91 ls [.int (iI (y0))]) := by
  obtain ⟨hx, hb, hml, hown, hts, hlk, hrt⟩ := id E
  unfold s6_cutTo_b91 at hsh
  refine e_istore (lv' := [(4, .int (iI (y0))), (0, e_rv B (x0)), (1, .int (iI (x1))), (2, .int (iI (x2))), (3, .int (iI (x3))), (5, .int (iI (x5)))]) hx hb dX6_cutTo_91 hl (by decide) rfl (fun ls hl => ?_)
  refine e_aload_n (B := B) (x := x0) hx hb dX6_cutTo_93 rfl (hl.at 1 rfl) ?_
  obtain ⟨v94, h94, hsh⟩ := Option.bind_eq_some_iff.mp hsh
  refine e_getR (k := 5) hx hb hts in_X6 hown hp h94 rfl (by decide) (by decide) rfl (hts _ kf6_28) rfl dX6_cutTo_94 ?_
  refine lv_iload_n hx hb dX6_cutTo_97 rfl (hl.at 4 rfl) ?_
  refine e_aload_n (B := B) (x := x0) hx hb dX6_cutTo_98 rfl (hl.at 1 rfl) ?_
  obtain ⟨v99, h99, hsh⟩ := Option.bind_eq_some_iff.mp hsh
  refine e_getR (k := 5) hx hb hts in_X6 hown hp h99 rfl (by decide) (by decide) rfl (hts _ kf6_28) rfl dX6_cutTo_99 ?_
  refine lv_iload hx hb dX6_cutTo_102 (hl.at 5 rfl) ?_
  obtain ⟨v104, h104, hsh⟩ := Option.bind_eq_some_iff.mp hsh
  refine e_iald hx hb hp h104 dX6_cutTo_104 ?_
  obtain ⟨S105, h105, hsh⟩ := Option.bind_eq_some_iff.mp hsh
  refine e_iast hx hb hp hS h105 dX6_cutTo_105 (fun H locs hp hS => ?_)
  refine e_iinc (n := 1) (x := x3) (lv' := [(3, .int (iI ((x3 + 1)))), (4, .int (iI (y0))), (0, e_rv B (x0)), (1, .int (iI (x1))), (2, .int (iI (x2))), (5, .int (iI (x5)))]) hx hb dX6_cutTo_106 hl (k := 4) rfl (by decide) rfl (fun ls hl => ?_)
  exact w6_cutTo_b109 (hk56 := hk56) E hp hS (hl.sub [2, 3, 4, 0, 1, 5] rfl) hsh
set_option maxRecDepth 100000 in
set_option maxHeartbeats 4000000 in
theorem w6_cutTo_l56 {p : Program} {l : Launch} {e : Env} {s : State} {m : MethodId} {args : Array Value} {below : List Frame} {meth : Method} {c : Code} {D : va_G} {cA : Nat → ClassId} {B : Nat} {res : HP} (E : e_En p s m args meth c cX6_cutTo RX6 6 none) : ∀ (f : Nat) {ls : Array Slot} {H : Heap} {locs : List Loc} {S : HP} {x0 : Int} {x1 : Int} {x2 : Int} {x3 : Int} {x4 : Int} {x5 : Int} (hp : e_Pic D cA B S s H) (hS : va_S (e_A B) s.heap H locs) (hl : e_lo ls 6 [(0, e_rv B (x0)), (1, .int (iI (x1))), (2, .int (iI (x2))), (3, .int (iI (x3))), (4, .int (iI (x4))), (5, .int (iI (x5)))]) (hsh : s6_cutTo_l56 f S x0 x1 x2 x3 x4 x5 = some res), W p l e ({ frames := 1, cells := 0, slots := 0, locals := 21 } : Room) s m args below meth c H locs 0 0 (MQ below (e_Qv D cA B res) args s 0 0 (e_A B)) (F0 m 56 ls []) := by
  obtain ⟨hx, hb, hml, hown, hts, hlk, hrt⟩ := id E
  intro f
  induction f with
  | zero => intro ls H locs S x0 x1 x2 x3 x4 x5 hp hS hl hsh; cases hsh
  | succ f ih =>
    intro ls H locs S x0 x1 x2 x3 x4 x5 hp hS hl hsh
    have hk56 : ∀ {ls : Array Slot} {H : Heap} {locs : List Loc} {S : HP} {x0 : Int} {x1 : Int} {x2 : Int} {x3 : Int} {x4 : Int} {x5 : Int} (hp : e_Pic D cA B S s H) (hS : va_S (e_A B) s.heap H locs) (hl : e_lo ls 6 [(0, e_rv B (x0)), (1, .int (iI (x1))), (2, .int (iI (x2))), (3, .int (iI (x3))), (4, .int (iI (x4))), (5, .int (iI (x5)))]) (hsh : (s6_cutTo_l56 f) S x0 x1 x2 x3 x4 x5 = some res), W p l e ({ frames := 1, cells := 0, slots := 0, locals := 21 } : Room) s m args below meth c H locs 0 0 (MQ below (e_Qv D cA B res) args s 0 0 (e_A B)) (F0 m 56 ls []) := ih
    generalize hkk : s6_cutTo_l56 f = k56 at hk56
    rw [s6_cutTo_l56] at hsh
    rw [hkk] at hsh
    try dsimp only at hsh
    refine lv_iload hx hb dX6_cutTo_56 (hl.at 5 rfl) ?_
    refine e_aload_n (B := B) (x := x0) hx hb dX6_cutTo_58 rfl (hl.at 0 rfl) ?_
    obtain ⟨v59, h59, hsh⟩ := Option.bind_eq_some_iff.mp hsh
    refine e_getI (k := 6) hx hb hts in_X6 hown hp h59 rfl (by decide) (by decide) rfl (hts _ kf6_31) rfl dX6_cutTo_59 ?_
    refine e_icmp_ge (tgt := 115) hx hb dX6_cutTo_62 (by decide) (fun c62 => ?_) (fun c62 => ?_)
    · rw [if_pos c62] at hsh
      refine e_aload_n (B := B) (x := x0) hx hb dX6_cutTo_115 rfl (hl.at 0 rfl) ?_
      refine lv_iload_n hx hb dX6_cutTo_116 rfl (hl.at 3 rfl) ?_
      obtain ⟨S117, h117, hsh⟩ := Option.bind_eq_some_iff.mp hsh
      refine e_putI (k := 6) hx hb hts in_X6 tyX6 tyX6_ok nmX6 hown hp hS h117 rfl (by decide) (by decide) rfl (hts _ kf6_31) rfl rfl (by decide +kernel) dX6_cutTo_117 (fun H locs hp hS => ?_)
      refine e_aload_n (B := B) (x := x0) hx hb dX6_cutTo_120 rfl (hl.at 0 rfl) ?_
      refine lv_iload hx hb dX6_cutTo_121 (hl.at 4 rfl) ?_
      obtain ⟨S123, h123, hsh⟩ := Option.bind_eq_some_iff.mp hsh
      refine e_putI (k := 7) hx hb hts in_X6 tyX6 tyX6_ok nmX6 hown hp hS h123 rfl (by decide) (by decide) rfl (hts _ kf6_34) rfl rfl (by decide +kernel) dX6_cutTo_123 (fun H locs hp hS => ?_)
      refine lv_iconst (v := iI (0)) hx hb dX6_cutTo_126 rfl ?_
      refine e_istore_n (lv' := [(3, .int (iI (0))), (0, e_rv B (x0)), (1, .int (iI (x1))), (2, .int (iI (x2))), (4, .int (iI (x4))), (5, .int (iI (x5)))]) hx hb dX6_cutTo_127 rfl hl (by decide) rfl (fun ls hl => ?_)
      refine lv_iconst (v := iI (0)) hx hb dX6_cutTo_128 rfl ?_
      refine e_istore (lv' := [(5, .int (iI (0))), (3, .int (iI (0))), (0, e_rv B (x0)), (1, .int (iI (x1))), (2, .int (iI (x2))), (4, .int (iI (x4)))]) hx hb dX6_cutTo_129 hl (by decide) rfl (fun ls hl => ?_)
      exact w6_cutTo_l131 E 1000000 hp hS (hl.sub [2, 3, 1, 0] rfl) hsh
    · rw [if_neg c62] at hsh
      refine e_aload_n (B := B) (x := x0) hx hb dX6_cutTo_65 rfl (hl.at 0 rfl) ?_
      obtain ⟨v66, h66, hsh⟩ := Option.bind_eq_some_iff.mp hsh
      refine e_getR (k := 5) hx hb hts in_X6 hown hp h66 rfl (by decide) (by decide) rfl (hts _ kf6_28) rfl dX6_cutTo_66 ?_
      refine lv_iload hx hb dX6_cutTo_69 (hl.at 5 rfl) ?_
      obtain ⟨v71, h71, hsh⟩ := Option.bind_eq_some_iff.mp hsh
      refine e_iald hx hb hp h71 dX6_cutTo_71 ?_
      refine lv_iload_n hx hb dX6_cutTo_72 rfl (hl.at 2 rfl) ?_
      refine e_icmp_ge (tgt := 109) hx hb dX6_cutTo_73 (by decide) (fun c73 => ?_) (fun c73 => ?_)
      · rw [if_pos c73] at hsh
        exact w6_cutTo_b109 (hk56 := hk56) E hp hS (hl.sub [0, 1, 2, 3, 4, 5] rfl) hsh
      · rw [if_neg c73] at hsh
        refine lv_iload hx hb dX6_cutTo_76 (hl.at 5 rfl) ?_
        refine e_aload_n (B := B) (x := x0) hx hb dX6_cutTo_78 rfl (hl.at 0 rfl) ?_
        obtain ⟨v79, h79, hsh⟩ := Option.bind_eq_some_iff.mp hsh
        refine e_getI (k := 7) hx hb hts in_X6 hown hp h79 rfl (by decide) (by decide) rfl (hts _ kf6_34) rfl dX6_cutTo_79 ?_
        refine e_icmp_ne (tgt := 89) hx hb dX6_cutTo_82 (by decide) (fun c82 => ?_) (fun c82 => ?_)
        · rw [if_neg c82] at hsh
          refine lv_iload hx hb dX6_cutTo_89 (hl.at 4 rfl) ?_
          exact w6_cutTo_b91 (hk56 := hk56) E hp hS (hl.sub [0, 1, 2, 3, 5] rfl) hsh
        · rw [if_pos c82] at hsh
          refine lv_iload_n hx hb dX6_cutTo_85 rfl (hl.at 3 rfl) ?_
          refine lv_goto (tgt := 91) hx hb dX6_cutTo_86 (by decide) ?_
          exact w6_cutTo_b91 (hk56 := hk56) E hp hS (hl.sub [0, 1, 2, 3, 5] rfl) hsh
set_option maxRecDepth 100000 in
set_option maxHeartbeats 4000000 in
theorem w6_cutTo_b41 {p : Program} {l : Launch} {e : Env} {s : State} {m : MethodId} {args : Array Value} {below : List Frame} {meth : Method} {c : Code} {D : va_G} {cA : Nat → ClassId} {B : Nat} {res : HP} {k7 : HP → Int → Int → Int → Int → Option (HP)} (hk7 : ∀ {ls : Array Slot} {H : Heap} {locs : List Loc} {S : HP} {x0 : Int} {x1 : Int} {x2 : Int} {x3 : Int} (hp : e_Pic D cA B S s H) (hS : va_S (e_A B) s.heap H locs) (hl : e_lo ls 6 [(0, e_rv B (x0)), (1, .int (iI (x1))), (2, .int (iI (x2))), (3, .int (iI (x3)))]) (hsh : k7 S x0 x1 x2 x3 = some res), W p l e ({ frames := 1, cells := 0, slots := 0, locals := 21 } : Room) s m args below meth c H locs 0 0 (MQ below (e_Qv D cA B res) args s 0 0 (e_A B)) (F0 m 7 ls [])) (E : e_En p s m args meth c cX6_cutTo RX6 6 none) {ls : Array Slot} {H : Heap} {locs : List Loc} {S : HP} {x0 : Int} {x1 : Int} {x2 : Int} {x3 : Int} {y0 : Int} {y1 : Int} {y2 : Int} (hp : e_Pic D cA B S s H) (hS : va_S (e_A B) s.heap H locs) (hl : e_lo ls 6 [(0, e_rv B (x0)), (1, .int (iI (x1))), (2, .int (iI (x2))), (3, .int (iI (x3)))]) (hsh : s6_cutTo_b41 k7 S x0 x1 x2 x3 y0 y1 y2 = some res) : W p l e ({ frames := 1, cells := 0, slots := 0, locals := 21 } : Room) s m args below meth c H locs 0 0 (MQ below (e_Qv D cA B res) args s 0 0 (e_A B)) (F0 m 41 ls [.int (iI (y2)), .int (iI (y1)), e_rv B (y0)]) := by
  obtain ⟨hx, hb, hml, hown, hts, hlk, hrt⟩ := id E
  unfold s6_cutTo_b41 at hsh
  obtain ⟨S41, h41, hsh⟩ := Option.bind_eq_some_iff.mp hsh
  refine e_iast hx hb hp hS h41 dX6_cutTo_41 (fun H locs hp hS => ?_)
  refine e_iinc (n := 1) (x := x3) (lv' := [(3, .int (iI ((x3 + 1)))), (0, e_rv B (x0)), (1, .int (iI (x1))), (2, .int (iI (x2)))]) hx hb dX6_cutTo_42 hl (k := 3) rfl (by decide) rfl (fun ls hl => ?_)
  refine lv_goto (tgt := 7) hx hb dX6_cutTo_45 (by decide) ?_
  exact hk7 hp hS (hl.sub [1, 2, 3, 0] rfl) hsh
set_option maxRecDepth 100000 in
set_option maxHeartbeats 4000000 in
theorem w6_cutTo_l7 {p : Program} {l : Launch} {e : Env} {s : State} {m : MethodId} {args : Array Value} {below : List Frame} {meth : Method} {c : Code} {D : va_G} {cA : Nat → ClassId} {B : Nat} {res : HP} (E : e_En p s m args meth c cX6_cutTo RX6 6 none) : ∀ (f : Nat) {ls : Array Slot} {H : Heap} {locs : List Loc} {S : HP} {x0 : Int} {x1 : Int} {x2 : Int} {x3 : Int} (hp : e_Pic D cA B S s H) (hS : va_S (e_A B) s.heap H locs) (hl : e_lo ls 6 [(0, e_rv B (x0)), (1, .int (iI (x1))), (2, .int (iI (x2))), (3, .int (iI (x3)))]) (hsh : s6_cutTo_l7 f S x0 x1 x2 x3 = some res), W p l e ({ frames := 1, cells := 0, slots := 0, locals := 21 } : Room) s m args below meth c H locs 0 0 (MQ below (e_Qv D cA B res) args s 0 0 (e_A B)) (F0 m 7 ls []) := by
  obtain ⟨hx, hb, hml, hown, hts, hlk, hrt⟩ := id E
  intro f
  induction f with
  | zero => intro ls H locs S x0 x1 x2 x3 hp hS hl hsh; cases hsh
  | succ f ih =>
    intro ls H locs S x0 x1 x2 x3 hp hS hl hsh
    have hk7 : ∀ {ls : Array Slot} {H : Heap} {locs : List Loc} {S : HP} {x0 : Int} {x1 : Int} {x2 : Int} {x3 : Int} (hp : e_Pic D cA B S s H) (hS : va_S (e_A B) s.heap H locs) (hl : e_lo ls 6 [(0, e_rv B (x0)), (1, .int (iI (x1))), (2, .int (iI (x2))), (3, .int (iI (x3)))]) (hsh : (s6_cutTo_l7 f) S x0 x1 x2 x3 = some res), W p l e ({ frames := 1, cells := 0, slots := 0, locals := 21 } : Room) s m args below meth c H locs 0 0 (MQ below (e_Qv D cA B res) args s 0 0 (e_A B)) (F0 m 7 ls []) := ih
    generalize hkk : s6_cutTo_l7 f = k7 at hk7
    rw [s6_cutTo_l7] at hsh
    rw [hkk] at hsh
    try dsimp only at hsh
    refine lv_iload_n hx hb dX6_cutTo_7 rfl (hl.at 3 rfl) ?_
    refine e_aload_n (B := B) (x := x0) hx hb dX6_cutTo_8 rfl (hl.at 0 rfl) ?_
    obtain ⟨v9, h9, hsh⟩ := Option.bind_eq_some_iff.mp hsh
    refine e_getR (k := 4) hx hb hts in_X6 hown hp h9 rfl (by decide) (by decide) rfl (hts _ kf6_24) rfl dX6_cutTo_9 ?_
    obtain ⟨v12, h12, hsh⟩ := Option.bind_eq_some_iff.mp hsh
    refine e_alen (t := 101) (t0 := 1) hx hb hp h12 (by decide) rfl dX6_cutTo_12 ?_
    refine e_icmp_ge (tgt := 48) hx hb dX6_cutTo_13 (by decide) (fun c13 => ?_) (fun c13 => ?_)
    · rw [if_pos c13] at hsh
      refine lv_iconst (v := iI (0)) hx hb dX6_cutTo_48 rfl ?_
      refine e_istore_n (lv' := [(3, .int (iI (0))), (0, e_rv B (x0)), (1, .int (iI (x1))), (2, .int (iI (x2)))]) hx hb dX6_cutTo_49 rfl hl (by decide) rfl (fun ls hl => ?_)
      refine lv_iconst (v := iI (-1)) hx hb dX6_cutTo_50 rfl ?_
      refine e_istore (lv' := [(4, .int (iI ((-1)))), (3, .int (iI (0))), (0, e_rv B (x0)), (1, .int (iI (x1))), (2, .int (iI (x2)))]) hx hb dX6_cutTo_51 hl (by decide) rfl (fun ls hl => ?_)
      refine lv_iconst (v := iI (0)) hx hb dX6_cutTo_53 rfl ?_
      refine e_istore (lv' := [(5, .int (iI (0))), (4, .int (iI ((-1)))), (3, .int (iI (0))), (0, e_rv B (x0)), (1, .int (iI (x1))), (2, .int (iI (x2)))]) hx hb dX6_cutTo_54 hl (by decide) rfl (fun ls hl => ?_)
      exact w6_cutTo_l56 E 1000000 hp hS (hl.sub [3, 4, 5, 2, 1, 0] rfl) hsh
    · rw [if_neg c13] at hsh
      refine e_aload_n (B := B) (x := x0) hx hb dX6_cutTo_16 rfl (hl.at 0 rfl) ?_
      obtain ⟨v17, h17, hsh⟩ := Option.bind_eq_some_iff.mp hsh
      refine e_getR (k := 4) hx hb hts in_X6 hown hp h17 rfl (by decide) (by decide) rfl (hts _ kf6_24) rfl dX6_cutTo_17 ?_
      refine lv_iload_n hx hb dX6_cutTo_20 rfl (hl.at 3 rfl) ?_
      refine e_aload_n (B := B) (x := x0) hx hb dX6_cutTo_21 rfl (hl.at 0 rfl) ?_
      obtain ⟨v22, h22, hsh⟩ := Option.bind_eq_some_iff.mp hsh
      refine e_getR (k := 4) hx hb hts in_X6 hown hp h22 rfl (by decide) (by decide) rfl (hts _ kf6_24) rfl dX6_cutTo_22 ?_
      refine lv_iload_n hx hb dX6_cutTo_25 rfl (hl.at 3 rfl) ?_
      obtain ⟨v26, h26, hsh⟩ := Option.bind_eq_some_iff.mp hsh
      refine e_iald hx hb hp h26 dX6_cutTo_26 ?_
      refine lv_iload_n hx hb dX6_cutTo_27 rfl (hl.at 2 rfl) ?_
      refine e_icmp_ge (tgt := 40) hx hb dX6_cutTo_28 (by decide) (fun c28 => ?_) (fun c28 => ?_)
      · rw [if_pos c28] at hsh
        refine lv_iconst (v := iI (-1)) hx hb dX6_cutTo_40 rfl ?_
        exact w6_cutTo_b41 (hk7 := hk7) E hp hS (hl.sub [0, 1, 2, 3] rfl) hsh
      · rw [if_neg c28] at hsh
        refine e_aload_n (B := B) (x := x0) hx hb dX6_cutTo_31 rfl (hl.at 0 rfl) ?_
        obtain ⟨v32, h32, hsh⟩ := Option.bind_eq_some_iff.mp hsh
        refine e_getR (k := 4) hx hb hts in_X6 hown hp h32 rfl (by decide) (by decide) rfl (hts _ kf6_24) rfl dX6_cutTo_32 ?_
        refine lv_iload_n hx hb dX6_cutTo_35 rfl (hl.at 3 rfl) ?_
        obtain ⟨v36, h36, hsh⟩ := Option.bind_eq_some_iff.mp hsh
        refine e_iald hx hb hp h36 dX6_cutTo_36 ?_
        refine lv_goto (tgt := 41) hx hb dX6_cutTo_37 (by decide) ?_
        exact w6_cutTo_b41 (hk7 := hk7) E hp hS (hl.sub [0, 1, 2, 3] rfl) hsh
set_option maxRecDepth 100000 in
set_option maxHeartbeats 4000000 in
theorem c6_cutTo (l : Launch) (D : va_G) (cA : Nat → ClassId) (B : Nat) (S S' : HP) (x0 : Int) (x1 : Int) (hsh : s6_cutTo S x0 x1 = some S') : Met l yX6_cutTo (e_wu yX6_cutTo cX6_cutTo 6 none) ({ frames := 1, cells := 0, slots := 0, locals := 21 } : Room) (va_Pc [e_rv B (x0), .int (iI (x1))] (fun U => e_PU D cA B S U)) (e_Qv D cA B S') 0 0 (e_A B) := by
  refine Met.ofW (cc := cX6_cutTo) (maxL := 6) (ret := none) (by decide +kernel) rfl ?_
  intro p e s m args below meth c s₁ Bd hml hv
  obtain ⟨rfl, hp⟩ := hv
  have hp : e_Pic D cA B S s s.heap := hp
  have hx := Bd.exec
  have hb := Bd.bytes
  have hrt := Bd.returns
  have hlk := Bd.notSynchronized
  have hown : s.vm.findClass RX6 = some m.cls := findClass_of_methodNamed Bd.named
  have hts : ∀ w ∈ e_tb, w.before ([e_rv B (x0), .int (iI (x1))] : List Value).toArray s = true := fun w h => atoms_spec (ws := (e_wu yX6_cutTo cX6_cutTo 6 none)) Bd.pre w (List.mem_cons_of_mem _ h)
  have E : e_En p s m ([e_rv B (x0), .int (iI (x1))] : List Value).toArray meth c cX6_cutTo RX6 6 none := ⟨hx, hb, hml, hown, hts, hlk, hrt⟩
  have hS : va_S (e_A B) s.heap s.heap [] := va_S.rf
  have hl := e_entry (vs := [e_rv B (x0), .int (iI (x1))]) (n := 6) (Nat.le_of_ble_eq_true rfl) (e_cc (e_rv_cat _ _) (e_cc rfl e_cn))
  rw [lg_entry_eq]
  generalize (lg_sl [e_rv B (x0), .int (iI (x1))] ++ List.replicate (6 - (lg_sl [e_rv B (x0), .int (iI (x1))]).length) Slot.unset).toArray = ls at hl ⊢
  generalize ([e_rv B (x0), .int (iI (x1))] : List Value).toArray = args at hts E ⊢
  have hl : e_lo ls 6 [(0, e_rv B (x0)), (1, .int (iI (x1)))] := hl
  have hsh := (gd_some hsh).2
  refine lv_iload_n hx hb dX6_cutTo_0 rfl (hl.at 1 rfl) ?_
  refine lv_bipush (v := iI (100)) hx hb dX6_cutTo_1 (by decide +kernel) ?_
  refine e_imul hx hb dX6_cutTo_3 ?_
  refine e_istore_n (lv' := [(2, .int (iI ((x1 * 100)))), (0, e_rv B (x0)), (1, .int (iI (x1)))]) hx hb dX6_cutTo_4 rfl hl (by decide) rfl (fun ls hl => ?_)
  refine lv_iconst (v := iI (0)) hx hb dX6_cutTo_5 rfl ?_
  refine e_istore_n (lv' := [(3, .int (iI (0))), (2, .int (iI ((x1 * 100)))), (0, e_rv B (x0)), (1, .int (iI (x1)))]) hx hb dX6_cutTo_6 rfl hl (by decide) rfl (fun ls hl => ?_)
  exact w6_cutTo_l7 E 1000000 hp hS (hl.sub [2, 3, 1, 0] rfl) hsh
theorem ok11_sizeOf {S : HP} {x0 : Int} {x1 : Int} {r : Int × HP} (h : s11_sizeOf S x0 x1 = some r) : 0 ≤ x0 ∧ x0.toNat < e_n S ∧ e_g S x0.toNat = 11 := (gd_some h).1
set_option maxRecDepth 100000 in
set_option maxHeartbeats 4000000 in
theorem w11_sizeOf_b22 {p : Program} {l : Launch} {e : Env} {s : State} {m : MethodId} {args : Array Value} {below : List Frame} {meth : Method} {c : Code} {D : va_G} {cA : Nat → ClassId} {B : Nat} {res : Int × HP} (E : e_En p s m args meth c cX11_sizeOf RX11 2 (some .int)) {ls : Array Slot} {H : Heap} {locs : List Loc} {S : HP} {y0 : Int} (hp : e_Pic D cA B S s H) (hS : va_S (e_A B) s.heap H locs) (hl : e_lo ls 2 []) (hsh : s11_sizeOf_b22 S y0 = some res) : W p l e ({ frames := 0, cells := 0, slots := 0, locals := 0 } : Room) s m args below meth c H locs 0 0 (MQ below (e_Qi D cA B res.1 res.2) args s 0 0 (e_A B)) (F0 m 22 ls [.int (iI (y0))]) := by
  obtain ⟨hx, hb, hml, hown, hts, hlk, hrt⟩ := id E
  unfold s11_sizeOf_b22 at hsh
  cases hsh
  exact e_iret hx hb hrt hlk hp hS dX11_sizeOf_22
set_option maxRecDepth 100000 in
set_option maxHeartbeats 4000000 in
theorem w11_sizeOf_b12 {p : Program} {l : Launch} {e : Env} {s : State} {m : MethodId} {args : Array Value} {below : List Frame} {meth : Method} {c : Code} {D : va_G} {cA : Nat → ClassId} {B : Nat} {res : Int × HP} (E : e_En p s m args meth c cX11_sizeOf RX11 2 (some .int)) {ls : Array Slot} {H : Heap} {locs : List Loc} {S : HP} (hp : e_Pic D cA B S s H) (hS : va_S (e_A B) s.heap H locs) (hl : e_lo ls 2 []) (hsh : s11_sizeOf_b12 S  = some res) : W p l e ({ frames := 0, cells := 0, slots := 0, locals := 0 } : Room) s m args below meth c H locs 0 0 (MQ below (e_Qi D cA B res.1 res.2) args s 0 0 (e_A B)) (F0 m 12 ls []) := by
  obtain ⟨hx, hb, hml, hown, hts, hlk, hrt⟩ := id E
  unfold s11_sizeOf_b12 at hsh
  refine lv_iconst (v := iI (0)) hx hb dX11_sizeOf_12 rfl ?_
  refine lv_goto (tgt := 22) hx hb dX11_sizeOf_13 (by decide) ?_
  exact w11_sizeOf_b22 E hp hS (hl.sub [] rfl) hsh
set_option maxRecDepth 100000 in
set_option maxHeartbeats 4000000 in
theorem c11_sizeOf (l : Launch) (D : va_G) (cA : Nat → ClassId) (B : Nat) (S S' : HP) (x0 : Int) (x1 : Int) (r : Int) (hsh : s11_sizeOf S x0 x1 = some (r, S')) : Met l yX11_sizeOf (e_wu yX11_sizeOf cX11_sizeOf 2 (some .int)) ({ frames := 0, cells := 0, slots := 0, locals := 0 } : Room) (va_Pc [e_rv B (x0), .int (iI (x1))] (fun U => e_PU D cA B S U)) (e_Qi D cA B r S') 0 0 (e_A B) := by
  refine Met.ofW (cc := cX11_sizeOf) (maxL := 2) (ret := (some .int)) (by decide +kernel) rfl ?_
  intro p e s m args below meth c s₁ Bd hml hv
  obtain ⟨rfl, hp⟩ := hv
  have hp : e_Pic D cA B S s s.heap := hp
  have hx := Bd.exec
  have hb := Bd.bytes
  have hrt := Bd.returns
  have hlk := Bd.notSynchronized
  have hown : s.vm.findClass RX11 = some m.cls := findClass_of_methodNamed Bd.named
  have hts : ∀ w ∈ e_tb, w.before ([e_rv B (x0), .int (iI (x1))] : List Value).toArray s = true := fun w h => atoms_spec (ws := (e_wu yX11_sizeOf cX11_sizeOf 2 (some .int))) Bd.pre w (List.mem_cons_of_mem _ h)
  have E : e_En p s m ([e_rv B (x0), .int (iI (x1))] : List Value).toArray meth c cX11_sizeOf RX11 2 (some .int) := ⟨hx, hb, hml, hown, hts, hlk, hrt⟩
  have hS : va_S (e_A B) s.heap s.heap [] := va_S.rf
  have hl := e_entry (vs := [e_rv B (x0), .int (iI (x1))]) (n := 2) (Nat.le_of_ble_eq_true rfl) (e_cc (e_rv_cat _ _) (e_cc rfl e_cn))
  rw [lg_entry_eq]
  generalize (lg_sl [e_rv B (x0), .int (iI (x1))] ++ List.replicate (2 - (lg_sl [e_rv B (x0), .int (iI (x1))]).length) Slot.unset).toArray = ls at hl ⊢
  generalize ([e_rv B (x0), .int (iI (x1))] : List Value).toArray = args at hts E ⊢
  have hl : e_lo ls 2 [(0, e_rv B (x0)), (1, .int (iI (x1)))] := hl
  have hsh := (gd_some hsh).2
  refine lv_iload_n hx hb dX11_sizeOf_0 rfl (hl.at 1 rfl) ?_
  refine e_if_lt (tgt := 12) hx hb dX11_sizeOf_1 (by decide) (fun c1 => ?_) (fun c1 => ?_)
  · rw [if_pos c1] at hsh
    exact w11_sizeOf_b12 E hp hS (hl.sub [] rfl) hsh
  · rw [if_neg c1] at hsh
    refine lv_iload_n hx hb dX11_sizeOf_4 rfl (hl.at 1 rfl) ?_
    refine e_aload_n (B := B) (x := x0) hx hb dX11_sizeOf_5 rfl (hl.at 0 rfl) ?_
    obtain ⟨v6, h6, hsh⟩ := Option.bind_eq_some_iff.mp hsh
    refine e_getI (k := 5) hx hb hts in_X11 hown hp h6 rfl (by decide) (by decide) rfl (hts _ kf11_26) rfl dX11_sizeOf_6 ?_
    refine e_icmp_lt (tgt := 16) hx hb dX11_sizeOf_9 (by decide) (fun c9 => ?_) (fun c9 => ?_)
    · rw [if_pos c9] at hsh
      refine e_aload_n (B := B) (x := x0) hx hb dX11_sizeOf_16 rfl (hl.at 0 rfl) ?_
      obtain ⟨v17, h17, hsh⟩ := Option.bind_eq_some_iff.mp hsh
      refine e_getR (k := 1) hx hb hts in_X11 hown hp h17 rfl (by decide) (by decide) rfl (hts _ kf11_15) rfl dX11_sizeOf_17 ?_
      refine lv_iload_n hx hb dX11_sizeOf_20 rfl (hl.at 1 rfl) ?_
      obtain ⟨v21, h21, hsh⟩ := Option.bind_eq_some_iff.mp hsh
      refine e_iald hx hb hp h21 dX11_sizeOf_21 ?_
      exact w11_sizeOf_b22 E hp hS (hl.sub [] rfl) hsh
    · rw [if_neg c9] at hsh
      exact w11_sizeOf_b12 E hp hS (hl.sub [] rfl) hsh
theorem ok11_signAt {S : HP} {x0 : Int} {x1 : Int} {x2 : Int} {r : Int × HP} (h : s11_signAt S x0 x1 x2 = some r) : 0 ≤ x0 ∧ x0.toNat < e_n S ∧ e_g S x0.toNat = 11 := (gd_some h).1
set_option maxRecDepth 100000 in
set_option maxHeartbeats 4000000 in
theorem w11_signAt_b41 {p : Program} {l : Launch} {e : Env} {s : State} {m : MethodId} {args : Array Value} {below : List Frame} {meth : Method} {c : Code} {D : va_G} {cA : Nat → ClassId} {B : Nat} {res : Int × HP} (E : e_En p s m args meth c cX11_signAt RX11 3 (some .int)) {ls : Array Slot} {H : Heap} {locs : List Loc} {S : HP} {y0 : Int} (hp : e_Pic D cA B S s H) (hS : va_S (e_A B) s.heap H locs) (hl : e_lo ls 3 []) (hsh : s11_signAt_b41 S y0 = some res) : W p l e ({ frames := 0, cells := 0, slots := 0, locals := 0 } : Room) s m args below meth c H locs 0 0 (MQ below (e_Qi D cA B res.1 res.2) args s 0 0 (e_A B)) (F0 m 41 ls [.int (iI (y0))]) := by
  obtain ⟨hx, hb, hml, hown, hts, hlk, hrt⟩ := id E
  unfold s11_signAt_b41 at hsh
  cases hsh
  exact e_iret hx hb hrt hlk hp hS dX11_signAt_41
set_option maxRecDepth 100000 in
set_option maxHeartbeats 4000000 in
theorem w11_signAt_b26 {p : Program} {l : Launch} {e : Env} {s : State} {m : MethodId} {args : Array Value} {below : List Frame} {meth : Method} {c : Code} {D : va_G} {cA : Nat → ClassId} {B : Nat} {res : Int × HP} (E : e_En p s m args meth c cX11_signAt RX11 3 (some .int)) {ls : Array Slot} {H : Heap} {locs : List Loc} {S : HP} (hp : e_Pic D cA B S s H) (hS : va_S (e_A B) s.heap H locs) (hl : e_lo ls 3 []) (hsh : s11_signAt_b26 S  = some res) : W p l e ({ frames := 0, cells := 0, slots := 0, locals := 0 } : Room) s m args below meth c H locs 0 0 (MQ below (e_Qi D cA B res.1 res.2) args s 0 0 (e_A B)) (F0 m 26 ls []) := by
  obtain ⟨hx, hb, hml, hown, hts, hlk, hrt⟩ := id E
  unfold s11_signAt_b26 at hsh
  refine lv_iconst (v := iI (0)) hx hb dX11_signAt_26 rfl ?_
  refine lv_goto (tgt := 41) hx hb dX11_signAt_27 (by decide) ?_
  exact w11_signAt_b41 E hp hS (hl.sub [] rfl) hsh
set_option maxRecDepth 100000 in
set_option maxHeartbeats 4000000 in
theorem c11_signAt (l : Launch) (D : va_G) (cA : Nat → ClassId) (B : Nat) (S S' : HP) (x0 : Int) (x1 : Int) (x2 : Int) (r : Int) (hsh : s11_signAt S x0 x1 x2 = some (r, S')) : Met l yX11_signAt (e_wu yX11_signAt cX11_signAt 3 (some .int)) ({ frames := 0, cells := 0, slots := 0, locals := 0 } : Room) (va_Pc [e_rv B (x0), .int (iI (x1)), .int (iI (x2))] (fun U => e_PU D cA B S U)) (e_Qi D cA B r S') 0 0 (e_A B) := by
  refine Met.ofW (cc := cX11_signAt) (maxL := 3) (ret := (some .int)) (by decide +kernel) rfl ?_
  intro p e s m args below meth c s₁ Bd hml hv
  obtain ⟨rfl, hp⟩ := hv
  have hp : e_Pic D cA B S s s.heap := hp
  have hx := Bd.exec
  have hb := Bd.bytes
  have hrt := Bd.returns
  have hlk := Bd.notSynchronized
  have hown : s.vm.findClass RX11 = some m.cls := findClass_of_methodNamed Bd.named
  have hts : ∀ w ∈ e_tb, w.before ([e_rv B (x0), .int (iI (x1)), .int (iI (x2))] : List Value).toArray s = true := fun w h => atoms_spec (ws := (e_wu yX11_signAt cX11_signAt 3 (some .int))) Bd.pre w (List.mem_cons_of_mem _ h)
  have E : e_En p s m ([e_rv B (x0), .int (iI (x1)), .int (iI (x2))] : List Value).toArray meth c cX11_signAt RX11 3 (some .int) := ⟨hx, hb, hml, hown, hts, hlk, hrt⟩
  have hS : va_S (e_A B) s.heap s.heap [] := va_S.rf
  have hl := e_entry (vs := [e_rv B (x0), .int (iI (x1)), .int (iI (x2))]) (n := 3) (Nat.le_of_ble_eq_true rfl) (e_cc (e_rv_cat _ _) (e_cc rfl (e_cc rfl e_cn)))
  rw [lg_entry_eq]
  generalize (lg_sl [e_rv B (x0), .int (iI (x1)), .int (iI (x2))] ++ List.replicate (3 - (lg_sl [e_rv B (x0), .int (iI (x1)), .int (iI (x2))]).length) Slot.unset).toArray = ls at hl ⊢
  generalize ([e_rv B (x0), .int (iI (x1)), .int (iI (x2))] : List Value).toArray = args at hts E ⊢
  have hl : e_lo ls 3 [(0, e_rv B (x0)), (1, .int (iI (x1))), (2, .int (iI (x2)))] := hl
  have hsh := (gd_some hsh).2
  refine lv_iload_n hx hb dX11_signAt_0 rfl (hl.at 1 rfl) ?_
  refine e_if_lt (tgt := 26) hx hb dX11_signAt_1 (by decide) (fun c1 => ?_) (fun c1 => ?_)
  · rw [if_pos c1] at hsh
    exact w11_signAt_b26 E hp hS (hl.sub [] rfl) hsh
  · rw [if_neg c1] at hsh
    refine lv_iload_n hx hb dX11_signAt_4 rfl (hl.at 1 rfl) ?_
    refine e_aload_n (B := B) (x := x0) hx hb dX11_signAt_5 rfl (hl.at 0 rfl) ?_
    obtain ⟨v6, h6, hsh⟩ := Option.bind_eq_some_iff.mp hsh
    refine e_getI (k := 5) hx hb hts in_X11 hown hp h6 rfl (by decide) (by decide) rfl (hts _ kf11_26) rfl dX11_signAt_6 ?_
    refine e_icmp_ge (tgt := 26) hx hb dX11_signAt_9 (by decide) (fun c9 => ?_) (fun c9 => ?_)
    · rw [if_pos c9] at hsh
      exact w11_signAt_b26 E hp hS (hl.sub [] rfl) hsh
    · rw [if_neg c9] at hsh
      refine lv_iload_n hx hb dX11_signAt_12 rfl (hl.at 2 rfl) ?_
      refine e_if_lt (tgt := 26) hx hb dX11_signAt_13 (by decide) (fun c13 => ?_) (fun c13 => ?_)
      · rw [if_pos c13] at hsh
        exact w11_signAt_b26 E hp hS (hl.sub [] rfl) hsh
      · rw [if_neg c13] at hsh
        refine lv_iload_n hx hb dX11_signAt_16 rfl (hl.at 2 rfl) ?_
        refine e_aload_n (B := B) (x := x0) hx hb dX11_signAt_17 rfl (hl.at 0 rfl) ?_
        obtain ⟨v18, h18, hsh⟩ := Option.bind_eq_some_iff.mp hsh
        refine e_getR (k := 1) hx hb hts in_X11 hown hp h18 rfl (by decide) (by decide) rfl (hts _ kf11_15) rfl dX11_signAt_18 ?_
        refine lv_iload_n hx hb dX11_signAt_21 rfl (hl.at 1 rfl) ?_
        obtain ⟨v22, h22, hsh⟩ := Option.bind_eq_some_iff.mp hsh
        refine e_iald hx hb hp h22 dX11_signAt_22 ?_
        refine e_icmp_lt (tgt := 30) hx hb dX11_signAt_23 (by decide) (fun c23 => ?_) (fun c23 => ?_)
        · rw [if_pos c23] at hsh
          refine e_aload_n (B := B) (x := x0) hx hb dX11_signAt_30 rfl (hl.at 0 rfl) ?_
          obtain ⟨v31, h31, hsh⟩ := Option.bind_eq_some_iff.mp hsh
          refine e_getR (k := 0) hx hb hts in_X11 hown hp h31 rfl (by decide) (by decide) rfl (hts _ kf11_9) rfl dX11_signAt_31 ?_
          refine lv_iload_n hx hb dX11_signAt_34 rfl (hl.at 1 rfl) ?_
          refine lv_bipush (v := iI (60)) hx hb dX11_signAt_35 (by decide +kernel) ?_
          refine e_imul hx hb dX11_signAt_37 ?_
          refine lv_iload_n hx hb dX11_signAt_38 rfl (hl.at 2 rfl) ?_
          refine e_iadd hx hb dX11_signAt_39 ?_
          obtain ⟨v40, h40, hsh⟩ := Option.bind_eq_some_iff.mp hsh
          refine e_cald hx hb hp h40 dX11_signAt_40 ?_
          exact w11_signAt_b41 E hp hS (hl.sub [] rfl) hsh
        · rw [if_neg c23] at hsh
          exact w11_signAt_b26 E hp hS (hl.sub [] rfl) hsh
theorem ok11_kindAt {S : HP} {x0 : Int} {x1 : Int} {x2 : Int} {r : Int × HP} (h : s11_kindAt S x0 x1 x2 = some r) : 0 ≤ x0 ∧ x0.toNat < e_n S ∧ e_g S x0.toNat = 11 := (gd_some h).1
set_option maxRecDepth 100000 in
set_option maxHeartbeats 4000000 in
theorem w11_kindAt_b26 {p : Program} {l : Launch} {e : Env} {s : State} {m : MethodId} {args : Array Value} {below : List Frame} {meth : Method} {c : Code} {D : va_G} {cA : Nat → ClassId} {B : Nat} {res : Int × HP} (E : e_En p s m args meth c cX11_kindAt RX11 5 (some .int)) {ls : Array Slot} {H : Heap} {locs : List Loc} {S : HP} (hp : e_Pic D cA B S s H) (hS : va_S (e_A B) s.heap H locs) (hl : e_lo ls 5 []) (hsh : s11_kindAt_b26 S  = some res) : W p l e ({ frames := 0, cells := 0, slots := 0, locals := 0 } : Room) s m args below meth c H locs 0 0 (MQ below (e_Qi D cA B res.1 res.2) args s 0 0 (e_A B)) (F0 m 26 ls []) := by
  obtain ⟨hx, hb, hml, hown, hts, hlk, hrt⟩ := id E
  unfold s11_kindAt_b26 at hsh
  refine lv_iconst (v := iI (-1)) hx hb dX11_kindAt_26 rfl ?_
  cases hsh
  exact e_iret hx hb hrt hlk hp hS dX11_kindAt_27
set_option maxRecDepth 100000 in
set_option maxHeartbeats 4000000 in
theorem w11_kindAt_b107 {p : Program} {l : Launch} {e : Env} {s : State} {m : MethodId} {args : Array Value} {below : List Frame} {meth : Method} {c : Code} {D : va_G} {cA : Nat → ClassId} {B : Nat} {res : Int × HP} (E : e_En p s m args meth c cX11_kindAt RX11 5 (some .int)) {ls : Array Slot} {H : Heap} {locs : List Loc} {S : HP} {y0 : Int} (hp : e_Pic D cA B S s H) (hS : va_S (e_A B) s.heap H locs) (hl : e_lo ls 5 []) (hsh : s11_kindAt_b107 S y0 = some res) : W p l e ({ frames := 0, cells := 0, slots := 0, locals := 0 } : Room) s m args below meth c H locs 0 0 (MQ below (e_Qi D cA B res.1 res.2) args s 0 0 (e_A B)) (F0 m 107 ls [.int (iI (y0))]) := by
  obtain ⟨hx, hb, hml, hown, hts, hlk, hrt⟩ := id E
  unfold s11_kindAt_b107 at hsh
  cases hsh
  exact e_iret hx hb hrt hlk hp hS dX11_kindAt_107
set_option maxRecDepth 100000 in
set_option maxHeartbeats 4000000 in
theorem w11_kindAt_b95 {p : Program} {l : Launch} {e : Env} {s : State} {m : MethodId} {args : Array Value} {below : List Frame} {meth : Method} {c : Code} {D : va_G} {cA : Nat → ClassId} {B : Nat} {res : Int × HP} (E : e_En p s m args meth c cX11_kindAt RX11 5 (some .int)) {ls : Array Slot} {H : Heap} {locs : List Loc} {S : HP} {y0 : Int} (hp : e_Pic D cA B S s H) (hS : va_S (e_A B) s.heap H locs) (hl : e_lo ls 5 []) (hsh : s11_kindAt_b95 S y0 = some res) : W p l e ({ frames := 0, cells := 0, slots := 0, locals := 0 } : Room) s m args below meth c H locs 0 0 (MQ below (e_Qi D cA B res.1 res.2) args s 0 0 (e_A B)) (F0 m 95 ls [.int (iI (y0))]) := by
  obtain ⟨hx, hb, hml, hown, hts, hlk, hrt⟩ := id E
  unfold s11_kindAt_b95 at hsh
  refine e_istore (lv' := [(4, .int (iI (y0)))]) hx hb dX11_kindAt_95 hl (by decide) rfl (fun ls hl => ?_)
  refine lv_iload hx hb dX11_kindAt_97 (hl.at 0 rfl) ?_
  refine e_if_eq (tgt := 106) hx hb dX11_kindAt_99 (by decide) (fun c99 => ?_) (fun c99 => ?_)
  · rw [if_pos c99] at hsh
    refine lv_iconst (v := iI (2)) hx hb dX11_kindAt_106 rfl ?_
    exact w11_kindAt_b107 E hp hS (hl.sub [] rfl) hsh
  · rw [if_neg c99] at hsh
    refine lv_iconst (v := iI (1)) hx hb dX11_kindAt_102 rfl ?_
    refine lv_goto (tgt := 107) hx hb dX11_kindAt_103 (by decide) ?_
    exact w11_kindAt_b107 E hp hS (hl.sub [] rfl) hsh
set_option maxRecDepth 100000 in
set_option maxHeartbeats 4000000 in
theorem w11_kindAt_b90 {p : Program} {l : Launch} {e : Env} {s : State} {m : MethodId} {args : Array Value} {below : List Frame} {meth : Method} {c : Code} {D : va_G} {cA : Nat → ClassId} {B : Nat} {res : Int × HP} (E : e_En p s m args meth c cX11_kindAt RX11 5 (some .int)) {ls : Array Slot} {H : Heap} {locs : List Loc} {S : HP} (hp : e_Pic D cA B S s H) (hS : va_S (e_A B) s.heap H locs) (hl : e_lo ls 5 []) (hsh : s11_kindAt_b90 S  = some res) : W p l e ({ frames := 0, cells := 0, slots := 0, locals := 0 } : Room) s m args below meth c H locs 0 0 (MQ below (e_Qi D cA B res.1 res.2) args s 0 0 (e_A B)) (F0 m 90 ls []) := by
  obtain ⟨hx, hb, hml, hown, hts, hlk, hrt⟩ := id E
  unfold s11_kindAt_b90 at hsh
  refine lv_iconst (v := iI (1)) hx hb dX11_kindAt_90 rfl ?_
  refine lv_goto (tgt := 95) hx hb dX11_kindAt_91 (by decide) ?_
  exact w11_kindAt_b95 E hp hS (hl.sub [] rfl) hsh
set_option maxRecDepth 100000 in
set_option maxHeartbeats 4000000 in
theorem w11_kindAt_b84 {p : Program} {l : Launch} {e : Env} {s : State} {m : MethodId} {args : Array Value} {below : List Frame} {meth : Method} {c : Code} {D : va_G} {cA : Nat → ClassId} {B : Nat} {res : Int × HP} (E : e_En p s m args meth c cX11_kindAt RX11 5 (some .int)) {ls : Array Slot} {H : Heap} {locs : List Loc} {S : HP} {x3 : Int} (hp : e_Pic D cA B S s H) (hS : va_S (e_A B) s.heap H locs) (hl : e_lo ls 5 [(3, .int (iI (x3)))]) (hsh : s11_kindAt_b84 S x3 = some res) : W p l e ({ frames := 0, cells := 0, slots := 0, locals := 0 } : Room) s m args below meth c H locs 0 0 (MQ below (e_Qi D cA B res.1 res.2) args s 0 0 (e_A B)) (F0 m 84 ls []) := by
  obtain ⟨hx, hb, hml, hown, hts, hlk, hrt⟩ := id E
  unfold s11_kindAt_b84 at hsh
  refine lv_iload_n hx hb dX11_kindAt_84 rfl (hl.at 0 rfl) ?_
  refine lv_bipush (v := iI (95)) hx hb dX11_kindAt_85 (by decide +kernel) ?_
  refine e_icmp_ne (tgt := 94) hx hb dX11_kindAt_87 (by decide) (fun c87 => ?_) (fun c87 => ?_)
  · rw [if_neg c87] at hsh
    refine lv_iconst (v := iI (0)) hx hb dX11_kindAt_94 rfl ?_
    exact w11_kindAt_b95 E hp hS (hl.sub [] rfl) hsh
  · rw [if_pos c87] at hsh
    exact w11_kindAt_b90 E hp hS (hl.sub [] rfl) hsh
set_option maxRecDepth 100000 in
set_option maxHeartbeats 4000000 in
theorem w11_kindAt_b72 {p : Program} {l : Launch} {e : Env} {s : State} {m : MethodId} {args : Array Value} {below : List Frame} {meth : Method} {c : Code} {D : va_G} {cA : Nat → ClassId} {B : Nat} {res : Int × HP} (E : e_En p s m args meth c cX11_kindAt RX11 5 (some .int)) {ls : Array Slot} {H : Heap} {locs : List Loc} {S : HP} {x3 : Int} (hp : e_Pic D cA B S s H) (hS : va_S (e_A B) s.heap H locs) (hl : e_lo ls 5 [(3, .int (iI (x3)))]) (hsh : s11_kindAt_b72 S x3 = some res) : W p l e ({ frames := 0, cells := 0, slots := 0, locals := 0 } : Room) s m args below meth c H locs 0 0 (MQ below (e_Qi D cA B res.1 res.2) args s 0 0 (e_A B)) (F0 m 72 ls []) := by
  obtain ⟨hx, hb, hml, hown, hts, hlk, hrt⟩ := id E
  unfold s11_kindAt_b72 at hsh
  refine lv_iload_n hx hb dX11_kindAt_72 rfl (hl.at 0 rfl) ?_
  refine lv_bipush (v := iI (48)) hx hb dX11_kindAt_73 (by decide +kernel) ?_
  refine e_icmp_lt (tgt := 84) hx hb dX11_kindAt_75 (by decide) (fun c75 => ?_) (fun c75 => ?_)
  · rw [if_pos c75] at hsh
    exact w11_kindAt_b84 E hp hS (hl.sub [0] rfl) hsh
  · rw [if_neg c75] at hsh
    refine lv_iload_n hx hb dX11_kindAt_78 rfl (hl.at 0 rfl) ?_
    refine lv_bipush (v := iI (57)) hx hb dX11_kindAt_79 (by decide +kernel) ?_
    refine e_icmp_le (tgt := 90) hx hb dX11_kindAt_81 (by decide) (fun c81 => ?_) (fun c81 => ?_)
    · rw [if_pos c81] at hsh
      exact w11_kindAt_b90 E hp hS (hl.sub [] rfl) hsh
    · rw [if_neg c81] at hsh
      exact w11_kindAt_b84 E hp hS (hl.sub [0] rfl) hsh
set_option maxRecDepth 100000 in
set_option maxHeartbeats 4000000 in
theorem w11_kindAt_b60 {p : Program} {l : Launch} {e : Env} {s : State} {m : MethodId} {args : Array Value} {below : List Frame} {meth : Method} {c : Code} {D : va_G} {cA : Nat → ClassId} {B : Nat} {res : Int × HP} (E : e_En p s m args meth c cX11_kindAt RX11 5 (some .int)) {ls : Array Slot} {H : Heap} {locs : List Loc} {S : HP} {x3 : Int} (hp : e_Pic D cA B S s H) (hS : va_S (e_A B) s.heap H locs) (hl : e_lo ls 5 [(3, .int (iI (x3)))]) (hsh : s11_kindAt_b60 S x3 = some res) : W p l e ({ frames := 0, cells := 0, slots := 0, locals := 0 } : Room) s m args below meth c H locs 0 0 (MQ below (e_Qi D cA B res.1 res.2) args s 0 0 (e_A B)) (F0 m 60 ls []) := by
  obtain ⟨hx, hb, hml, hown, hts, hlk, hrt⟩ := id E
  unfold s11_kindAt_b60 at hsh
  refine lv_iload_n hx hb dX11_kindAt_60 rfl (hl.at 0 rfl) ?_
  refine lv_bipush (v := iI (65)) hx hb dX11_kindAt_61 (by decide +kernel) ?_
  refine e_icmp_lt (tgt := 72) hx hb dX11_kindAt_63 (by decide) (fun c63 => ?_) (fun c63 => ?_)
  · rw [if_pos c63] at hsh
    exact w11_kindAt_b72 E hp hS (hl.sub [0] rfl) hsh
  · rw [if_neg c63] at hsh
    refine lv_iload_n hx hb dX11_kindAt_66 rfl (hl.at 0 rfl) ?_
    refine lv_bipush (v := iI (90)) hx hb dX11_kindAt_67 (by decide +kernel) ?_
    refine e_icmp_le (tgt := 90) hx hb dX11_kindAt_69 (by decide) (fun c69 => ?_) (fun c69 => ?_)
    · rw [if_pos c69] at hsh
      exact w11_kindAt_b90 E hp hS (hl.sub [] rfl) hsh
    · rw [if_neg c69] at hsh
      exact w11_kindAt_b72 E hp hS (hl.sub [0] rfl) hsh
set_option maxRecDepth 100000 in
set_option maxHeartbeats 4000000 in
theorem c11_kindAt (l : Launch) (D : va_G) (cA : Nat → ClassId) (B : Nat) (S S' : HP) (x0 : Int) (x1 : Int) (x2 : Int) (r : Int) (hsh : s11_kindAt S x0 x1 x2 = some (r, S')) : Met l yX11_kindAt (e_wu yX11_kindAt cX11_kindAt 5 (some .int)) ({ frames := 0, cells := 0, slots := 0, locals := 0 } : Room) (va_Pc [e_rv B (x0), .int (iI (x1)), .int (iI (x2))] (fun U => e_PU D cA B S U)) (e_Qi D cA B r S') 0 0 (e_A B) := by
  refine Met.ofW (cc := cX11_kindAt) (maxL := 5) (ret := (some .int)) (by decide +kernel) rfl ?_
  intro p e s m args below meth c s₁ Bd hml hv
  obtain ⟨rfl, hp⟩ := hv
  have hp : e_Pic D cA B S s s.heap := hp
  have hx := Bd.exec
  have hb := Bd.bytes
  have hrt := Bd.returns
  have hlk := Bd.notSynchronized
  have hown : s.vm.findClass RX11 = some m.cls := findClass_of_methodNamed Bd.named
  have hts : ∀ w ∈ e_tb, w.before ([e_rv B (x0), .int (iI (x1)), .int (iI (x2))] : List Value).toArray s = true := fun w h => atoms_spec (ws := (e_wu yX11_kindAt cX11_kindAt 5 (some .int))) Bd.pre w (List.mem_cons_of_mem _ h)
  have E : e_En p s m ([e_rv B (x0), .int (iI (x1)), .int (iI (x2))] : List Value).toArray meth c cX11_kindAt RX11 5 (some .int) := ⟨hx, hb, hml, hown, hts, hlk, hrt⟩
  have hS : va_S (e_A B) s.heap s.heap [] := va_S.rf
  have hl := e_entry (vs := [e_rv B (x0), .int (iI (x1)), .int (iI (x2))]) (n := 5) (Nat.le_of_ble_eq_true rfl) (e_cc (e_rv_cat _ _) (e_cc rfl (e_cc rfl e_cn)))
  rw [lg_entry_eq]
  generalize (lg_sl [e_rv B (x0), .int (iI (x1)), .int (iI (x2))] ++ List.replicate (5 - (lg_sl [e_rv B (x0), .int (iI (x1)), .int (iI (x2))]).length) Slot.unset).toArray = ls at hl ⊢
  generalize ([e_rv B (x0), .int (iI (x1)), .int (iI (x2))] : List Value).toArray = args at hts E ⊢
  have hl : e_lo ls 5 [(0, e_rv B (x0)), (1, .int (iI (x1))), (2, .int (iI (x2)))] := hl
  have hsh := (gd_some hsh).2
  refine lv_iload_n hx hb dX11_kindAt_0 rfl (hl.at 1 rfl) ?_
  refine e_if_lt (tgt := 26) hx hb dX11_kindAt_1 (by decide) (fun c1 => ?_) (fun c1 => ?_)
  · rw [if_pos c1] at hsh
    exact w11_kindAt_b26 E hp hS (hl.sub [] rfl) hsh
  · rw [if_neg c1] at hsh
    refine lv_iload_n hx hb dX11_kindAt_4 rfl (hl.at 1 rfl) ?_
    refine e_aload_n (B := B) (x := x0) hx hb dX11_kindAt_5 rfl (hl.at 0 rfl) ?_
    obtain ⟨v6, h6, hsh⟩ := Option.bind_eq_some_iff.mp hsh
    refine e_getI (k := 5) hx hb hts in_X11 hown hp h6 rfl (by decide) (by decide) rfl (hts _ kf11_26) rfl dX11_kindAt_6 ?_
    refine e_icmp_ge (tgt := 26) hx hb dX11_kindAt_9 (by decide) (fun c9 => ?_) (fun c9 => ?_)
    · rw [if_pos c9] at hsh
      exact w11_kindAt_b26 E hp hS (hl.sub [] rfl) hsh
    · rw [if_neg c9] at hsh
      refine lv_iload_n hx hb dX11_kindAt_12 rfl (hl.at 2 rfl) ?_
      refine e_if_lt (tgt := 26) hx hb dX11_kindAt_13 (by decide) (fun c13 => ?_) (fun c13 => ?_)
      · rw [if_pos c13] at hsh
        exact w11_kindAt_b26 E hp hS (hl.sub [] rfl) hsh
      · rw [if_neg c13] at hsh
        refine lv_iload_n hx hb dX11_kindAt_16 rfl (hl.at 2 rfl) ?_
        refine e_aload_n (B := B) (x := x0) hx hb dX11_kindAt_17 rfl (hl.at 0 rfl) ?_
        obtain ⟨v18, h18, hsh⟩ := Option.bind_eq_some_iff.mp hsh
        refine e_getR (k := 1) hx hb hts in_X11 hown hp h18 rfl (by decide) (by decide) rfl (hts _ kf11_15) rfl dX11_kindAt_18 ?_
        refine lv_iload_n hx hb dX11_kindAt_21 rfl (hl.at 1 rfl) ?_
        obtain ⟨v22, h22, hsh⟩ := Option.bind_eq_some_iff.mp hsh
        refine e_iald hx hb hp h22 dX11_kindAt_22 ?_
        refine e_icmp_lt (tgt := 28) hx hb dX11_kindAt_23 (by decide) (fun c23 => ?_) (fun c23 => ?_)
        · rw [if_pos c23] at hsh
          refine e_aload_n (B := B) (x := x0) hx hb dX11_kindAt_28 rfl (hl.at 0 rfl) ?_
          obtain ⟨v29, h29, hsh⟩ := Option.bind_eq_some_iff.mp hsh
          refine e_getR (k := 0) hx hb hts in_X11 hown hp h29 rfl (by decide) (by decide) rfl (hts _ kf11_9) rfl dX11_kindAt_29 ?_
          refine lv_iload_n hx hb dX11_kindAt_32 rfl (hl.at 1 rfl) ?_
          refine lv_bipush (v := iI (60)) hx hb dX11_kindAt_33 (by decide +kernel) ?_
          refine e_imul hx hb dX11_kindAt_35 ?_
          refine lv_iload_n hx hb dX11_kindAt_36 rfl (hl.at 2 rfl) ?_
          refine e_iadd hx hb dX11_kindAt_37 ?_
          obtain ⟨v38, h38, hsh⟩ := Option.bind_eq_some_iff.mp hsh
          refine e_cald hx hb hp h38 dX11_kindAt_38 ?_
          refine e_istore_n (lv' := [(3, .int (iI (v38))), (0, e_rv B (x0)), (1, .int (iI (x1))), (2, .int (iI (x2)))]) hx hb dX11_kindAt_39 rfl hl (by decide) rfl (fun ls hl => ?_)
          refine lv_iload_n hx hb dX11_kindAt_40 rfl (hl.at 0 rfl) ?_
          refine lv_bipush (v := iI (32)) hx hb dX11_kindAt_41 (by decide +kernel) ?_
          refine e_icmp_ne (tgt := 48) hx hb dX11_kindAt_43 (by decide) (fun c43 => ?_) (fun c43 => ?_)
          · rw [if_neg c43] at hsh
            refine lv_iload_n hx hb dX11_kindAt_48 rfl (hl.at 0 rfl) ?_
            refine lv_bipush (v := iI (97)) hx hb dX11_kindAt_49 (by decide +kernel) ?_
            refine e_icmp_lt (tgt := 60) hx hb dX11_kindAt_51 (by decide) (fun c51 => ?_) (fun c51 => ?_)
            · rw [if_pos c51] at hsh
              exact w11_kindAt_b60 E hp hS (hl.sub [0] rfl) hsh
            · rw [if_neg c51] at hsh
              refine lv_iload_n hx hb dX11_kindAt_54 rfl (hl.at 0 rfl) ?_
              refine lv_bipush (v := iI (122)) hx hb dX11_kindAt_55 (by decide +kernel) ?_
              refine e_icmp_le (tgt := 90) hx hb dX11_kindAt_57 (by decide) (fun c57 => ?_) (fun c57 => ?_)
              · rw [if_pos c57] at hsh
                exact w11_kindAt_b90 E hp hS (hl.sub [] rfl) hsh
              · rw [if_neg c57] at hsh
                exact w11_kindAt_b60 E hp hS (hl.sub [0] rfl) hsh
          · rw [if_pos c43] at hsh
            refine lv_iconst (v := iI (0)) hx hb dX11_kindAt_46 rfl ?_
            cases hsh
            exact e_iret hx hb hrt hlk hp hS dX11_kindAt_47
        · rw [if_neg c23] at hsh
          exact w11_kindAt_b26 E hp hS (hl.sub [] rfl) hsh
theorem ok11_firstSign {S : HP} {x0 : Int} {x1 : Int} {r : Int × HP} (h : s11_firstSign S x0 x1 = some r) : 0 ≤ x0 ∧ x0.toNat < e_n S ∧ e_g S x0.toNat = 11 := (gd_some h).1
set_option maxRecDepth 100000 in
set_option maxHeartbeats 4000000 in
theorem w11_firstSign_b12 {p : Program} {l : Launch} {e : Env} {s : State} {m : MethodId} {args : Array Value} {below : List Frame} {meth : Method} {c : Code} {D : va_G} {cA : Nat → ClassId} {B : Nat} {res : Int × HP} (E : e_En p s m args meth c cX11_firstSign RX11 3 (some .int)) {ls : Array Slot} {H : Heap} {locs : List Loc} {S : HP} (hp : e_Pic D cA B S s H) (hS : va_S (e_A B) s.heap H locs) (hl : e_lo ls 3 []) (hsh : s11_firstSign_b12 S  = some res) : W p l e ({ frames := 0, cells := 0, slots := 0, locals := 0 } : Room) s m args below meth c H locs 0 0 (MQ below (e_Qi D cA B res.1 res.2) args s 0 0 (e_A B)) (F0 m 12 ls []) := by
  obtain ⟨hx, hb, hml, hown, hts, hlk, hrt⟩ := id E
  unfold s11_firstSign_b12 at hsh
  refine lv_iconst (v := iI (0)) hx hb dX11_firstSign_12 rfl ?_
  cases hsh
  exact e_iret hx hb hrt hlk hp hS dX11_firstSign_13
set_option maxRecDepth 100000 in
set_option maxHeartbeats 4000000 in
theorem w11_firstSign_b50 {p : Program} {l : Launch} {e : Env} {s : State} {m : MethodId} {args : Array Value} {below : List Frame} {meth : Method} {c : Code} {D : va_G} {cA : Nat → ClassId} {B : Nat} {res : Int × HP} (E : e_En p s m args meth c cX11_firstSign RX11 3 (some .int)) {ls : Array Slot} {H : Heap} {locs : List Loc} {S : HP} {x2 : Int} (hp : e_Pic D cA B S s H) (hS : va_S (e_A B) s.heap H locs) (hl : e_lo ls 3 [(2, .int (iI (x2)))]) (hsh : s11_firstSign_b50 S x2 = some res) : W p l e ({ frames := 0, cells := 0, slots := 0, locals := 0 } : Room) s m args below meth c H locs 0 0 (MQ below (e_Qi D cA B res.1 res.2) args s 0 0 (e_A B)) (F0 m 50 ls []) := by
  obtain ⟨hx, hb, hml, hown, hts, hlk, hrt⟩ := id E
  unfold s11_firstSign_b50 at hsh
  refine lv_iload_n hx hb dX11_firstSign_50 rfl (hl.at 0 rfl) ?_
  cases hsh
  exact e_iret hx hb hrt hlk hp hS dX11_firstSign_51
set_option maxRecDepth 100000 in
set_option maxHeartbeats 4000000 in
theorem w11_firstSign_l16 {p : Program} {l : Launch} {e : Env} {s : State} {m : MethodId} {args : Array Value} {below : List Frame} {meth : Method} {c : Code} {D : va_G} {cA : Nat → ClassId} {B : Nat} {res : Int × HP} (E : e_En p s m args meth c cX11_firstSign RX11 3 (some .int)) : ∀ (f : Nat) {ls : Array Slot} {H : Heap} {locs : List Loc} {S : HP} {x0 : Int} {x1 : Int} {x2 : Int} (hp : e_Pic D cA B S s H) (hS : va_S (e_A B) s.heap H locs) (hl : e_lo ls 3 [(0, e_rv B (x0)), (1, .int (iI (x1))), (2, .int (iI (x2)))]) (hsh : s11_firstSign_l16 f S x0 x1 x2 = some res), W p l e ({ frames := 0, cells := 0, slots := 0, locals := 0 } : Room) s m args below meth c H locs 0 0 (MQ below (e_Qi D cA B res.1 res.2) args s 0 0 (e_A B)) (F0 m 16 ls []) := by
  obtain ⟨hx, hb, hml, hown, hts, hlk, hrt⟩ := id E
  intro f
  induction f with
  | zero => intro ls H locs S x0 x1 x2 hp hS hl hsh; cases hsh
  | succ f ih =>
    intro ls H locs S x0 x1 x2 hp hS hl hsh
    have hk16 : ∀ {ls : Array Slot} {H : Heap} {locs : List Loc} {S : HP} {x0 : Int} {x1 : Int} {x2 : Int} (hp : e_Pic D cA B S s H) (hS : va_S (e_A B) s.heap H locs) (hl : e_lo ls 3 [(0, e_rv B (x0)), (1, .int (iI (x1))), (2, .int (iI (x2)))]) (hsh : (s11_firstSign_l16 f) S x0 x1 x2 = some res), W p l e ({ frames := 0, cells := 0, slots := 0, locals := 0 } : Room) s m args below meth c H locs 0 0 (MQ below (e_Qi D cA B res.1 res.2) args s 0 0 (e_A B)) (F0 m 16 ls []) := ih
    generalize hkk : s11_firstSign_l16 f = k16 at hk16
    rw [s11_firstSign_l16] at hsh
    rw [hkk] at hsh
    try dsimp only at hsh
    refine lv_iload_n hx hb dX11_firstSign_16 rfl (hl.at 2 rfl) ?_
    refine e_aload_n (B := B) (x := x0) hx hb dX11_firstSign_17 rfl (hl.at 0 rfl) ?_
    obtain ⟨v18, h18, hsh⟩ := Option.bind_eq_some_iff.mp hsh
    refine e_getR (k := 1) hx hb hts in_X11 hown hp h18 rfl (by decide) (by decide) rfl (hts _ kf11_15) rfl dX11_firstSign_18 ?_
    refine lv_iload_n hx hb dX11_firstSign_21 rfl (hl.at 1 rfl) ?_
    obtain ⟨v22, h22, hsh⟩ := Option.bind_eq_some_iff.mp hsh
    refine e_iald hx hb hp h22 dX11_firstSign_22 ?_
    refine lv_iconst (v := iI (1)) hx hb dX11_firstSign_23 rfl ?_
    refine e_isub hx hb dX11_firstSign_24 ?_
    refine e_icmp_ge (tgt := 50) hx hb dX11_firstSign_25 (by decide) (fun c25 => ?_) (fun c25 => ?_)
    · rw [if_pos c25] at hsh
      exact w11_firstSign_b50 E hp hS (hl.sub [2] rfl) hsh
    · rw [if_neg c25] at hsh
      refine e_aload_n (B := B) (x := x0) hx hb dX11_firstSign_28 rfl (hl.at 0 rfl) ?_
      obtain ⟨v29, h29, hsh⟩ := Option.bind_eq_some_iff.mp hsh
      refine e_getR (k := 0) hx hb hts in_X11 hown hp h29 rfl (by decide) (by decide) rfl (hts _ kf11_9) rfl dX11_firstSign_29 ?_
      refine lv_iload_n hx hb dX11_firstSign_32 rfl (hl.at 1 rfl) ?_
      refine lv_bipush (v := iI (60)) hx hb dX11_firstSign_33 (by decide +kernel) ?_
      refine e_imul hx hb dX11_firstSign_35 ?_
      refine lv_iload_n hx hb dX11_firstSign_36 rfl (hl.at 2 rfl) ?_
      refine e_iadd hx hb dX11_firstSign_37 ?_
      obtain ⟨v38, h38, hsh⟩ := Option.bind_eq_some_iff.mp hsh
      refine e_cald hx hb hp h38 dX11_firstSign_38 ?_
      refine lv_bipush (v := iI (32)) hx hb dX11_firstSign_39 (by decide +kernel) ?_
      refine e_icmp_ne (tgt := 50) hx hb dX11_firstSign_41 (by decide) (fun c41 => ?_) (fun c41 => ?_)
      · rw [if_neg c41] at hsh
        exact w11_firstSign_b50 E hp hS (hl.sub [2] rfl) hsh
      · rw [if_pos c41] at hsh
        refine e_iinc (n := 1) (x := x2) (lv' := [(2, .int (iI ((x2 + 1)))), (0, e_rv B (x0)), (1, .int (iI (x1)))]) hx hb dX11_firstSign_44 hl (k := 2) rfl (by decide) rfl (fun ls hl => ?_)
        refine lv_goto (tgt := 16) hx hb dX11_firstSign_47 (by decide) ?_
        exact hk16 hp hS (hl.sub [1, 2, 0] rfl) hsh
set_option maxRecDepth 100000 in
set_option maxHeartbeats 4000000 in
theorem c11_firstSign (l : Launch) (D : va_G) (cA : Nat → ClassId) (B : Nat) (S S' : HP) (x0 : Int) (x1 : Int) (r : Int) (hsh : s11_firstSign S x0 x1 = some (r, S')) : Met l yX11_firstSign (e_wu yX11_firstSign cX11_firstSign 3 (some .int)) ({ frames := 0, cells := 0, slots := 0, locals := 0 } : Room) (va_Pc [e_rv B (x0), .int (iI (x1))] (fun U => e_PU D cA B S U)) (e_Qi D cA B r S') 0 0 (e_A B) := by
  refine Met.ofW (cc := cX11_firstSign) (maxL := 3) (ret := (some .int)) (by decide +kernel) rfl ?_
  intro p e s m args below meth c s₁ Bd hml hv
  obtain ⟨rfl, hp⟩ := hv
  have hp : e_Pic D cA B S s s.heap := hp
  have hx := Bd.exec
  have hb := Bd.bytes
  have hrt := Bd.returns
  have hlk := Bd.notSynchronized
  have hown : s.vm.findClass RX11 = some m.cls := findClass_of_methodNamed Bd.named
  have hts : ∀ w ∈ e_tb, w.before ([e_rv B (x0), .int (iI (x1))] : List Value).toArray s = true := fun w h => atoms_spec (ws := (e_wu yX11_firstSign cX11_firstSign 3 (some .int))) Bd.pre w (List.mem_cons_of_mem _ h)
  have E : e_En p s m ([e_rv B (x0), .int (iI (x1))] : List Value).toArray meth c cX11_firstSign RX11 3 (some .int) := ⟨hx, hb, hml, hown, hts, hlk, hrt⟩
  have hS : va_S (e_A B) s.heap s.heap [] := va_S.rf
  have hl := e_entry (vs := [e_rv B (x0), .int (iI (x1))]) (n := 3) (Nat.le_of_ble_eq_true rfl) (e_cc (e_rv_cat _ _) (e_cc rfl e_cn))
  rw [lg_entry_eq]
  generalize (lg_sl [e_rv B (x0), .int (iI (x1))] ++ List.replicate (3 - (lg_sl [e_rv B (x0), .int (iI (x1))]).length) Slot.unset).toArray = ls at hl ⊢
  generalize ([e_rv B (x0), .int (iI (x1))] : List Value).toArray = args at hts E ⊢
  have hl : e_lo ls 3 [(0, e_rv B (x0)), (1, .int (iI (x1)))] := hl
  have hsh := (gd_some hsh).2
  refine lv_iload_n hx hb dX11_firstSign_0 rfl (hl.at 1 rfl) ?_
  refine e_if_lt (tgt := 12) hx hb dX11_firstSign_1 (by decide) (fun c1 => ?_) (fun c1 => ?_)
  · rw [if_pos c1] at hsh
    exact w11_firstSign_b12 E hp hS (hl.sub [] rfl) hsh
  · rw [if_neg c1] at hsh
    refine lv_iload_n hx hb dX11_firstSign_4 rfl (hl.at 1 rfl) ?_
    refine e_aload_n (B := B) (x := x0) hx hb dX11_firstSign_5 rfl (hl.at 0 rfl) ?_
    obtain ⟨v6, h6, hsh⟩ := Option.bind_eq_some_iff.mp hsh
    refine e_getI (k := 5) hx hb hts in_X11 hown hp h6 rfl (by decide) (by decide) rfl (hts _ kf11_26) rfl dX11_firstSign_6 ?_
    refine e_icmp_lt (tgt := 14) hx hb dX11_firstSign_9 (by decide) (fun c9 => ?_) (fun c9 => ?_)
    · rw [if_pos c9] at hsh
      refine lv_iconst (v := iI (0)) hx hb dX11_firstSign_14 rfl ?_
      refine e_istore_n (lv' := [(2, .int (iI (0))), (0, e_rv B (x0)), (1, .int (iI (x1)))]) hx hb dX11_firstSign_15 rfl hl (by decide) rfl (fun ls hl => ?_)
      exact w11_firstSign_l16 E 1000000 hp hS (hl.sub [1, 2, 0] rfl) hsh
    · rw [if_neg c9] at hsh
      exact w11_firstSign_b12 E hp hS (hl.sub [] rfl) hsh
theorem ok11_blanks {S : HP} {x0 : Int} {x1 : Int} {r : Int × HP} (h : s11_blanks S x0 x1 = some r) : 0 ≤ x0 ∧ x0.toNat < e_n S ∧ e_g S x0.toNat = 11 := (gd_some h).1
set_option maxRecDepth 100000 in
set_option maxHeartbeats 4000000 in
theorem w11_blanks_b35 {p : Program} {l : Launch} {e : Env} {s : State} {m : MethodId} {args : Array Value} {below : List Frame} {meth : Method} {c : Code} {D : va_G} {cA : Nat → ClassId} {B : Nat} {res : Int × HP} (E : e_En p s m args meth c cX11_blanks RX11 4 (some .int)) {ls : Array Slot} {H : Heap} {locs : List Loc} {S : HP} {x3 : Int} (hp : e_Pic D cA B S s H) (hS : va_S (e_A B) s.heap H locs) (hl : e_lo ls 4 [(3, .int (iI (x3)))]) (hsh : s11_blanks_b35 S x3 = some res) : W p l e ({ frames := 1, cells := 0, slots := 0, locals := 21 } : Room) s m args below meth c H locs 0 0 (MQ below (e_Qi D cA B res.1 res.2) args s 0 0 (e_A B)) (F0 m 35 ls []) := by
  obtain ⟨hx, hb, hml, hown, hts, hlk, hrt⟩ := id E
  unfold s11_blanks_b35 at hsh
  refine lv_iload_n hx hb dX11_blanks_35 rfl (hl.at 0 rfl) ?_
  cases hsh
  exact e_iret hx hb hrt hlk hp hS dX11_blanks_36
set_option maxRecDepth 100000 in
set_option maxHeartbeats 4000000 in
theorem w11_blanks_l8 {p : Program} {l : Launch} {e : Env} {s : State} {m : MethodId} {args : Array Value} {below : List Frame} {meth : Method} {c : Code} {D : va_G} {cA : Nat → ClassId} {B : Nat} {res : Int × HP} (E : e_En p s m args meth c cX11_blanks RX11 4 (some .int)) : ∀ (f : Nat) {ls : Array Slot} {H : Heap} {locs : List Loc} {S : HP} {x0 : Int} {x1 : Int} {x2 : Int} {x3 : Int} (hp : e_Pic D cA B S s H) (hS : va_S (e_A B) s.heap H locs) (hl : e_lo ls 4 [(0, e_rv B (x0)), (1, .int (iI (x1))), (2, .int (iI (x2))), (3, .int (iI (x3)))]) (hsh : s11_blanks_l8 f S x0 x1 x2 x3 = some res), W p l e ({ frames := 1, cells := 0, slots := 0, locals := 21 } : Room) s m args below meth c H locs 0 0 (MQ below (e_Qi D cA B res.1 res.2) args s 0 0 (e_A B)) (F0 m 8 ls []) := by
  obtain ⟨hx, hb, hml, hown, hts, hlk, hrt⟩ := id E
  intro f
  induction f with
  | zero => intro ls H locs S x0 x1 x2 x3 hp hS hl hsh; cases hsh
  | succ f ih =>
    intro ls H locs S x0 x1 x2 x3 hp hS hl hsh
    have hk8 : ∀ {ls : Array Slot} {H : Heap} {locs : List Loc} {S : HP} {x0 : Int} {x1 : Int} {x2 : Int} {x3 : Int} (hp : e_Pic D cA B S s H) (hS : va_S (e_A B) s.heap H locs) (hl : e_lo ls 4 [(0, e_rv B (x0)), (1, .int (iI (x1))), (2, .int (iI (x2))), (3, .int (iI (x3)))]) (hsh : (s11_blanks_l8 f) S x0 x1 x2 x3 = some res), W p l e ({ frames := 1, cells := 0, slots := 0, locals := 21 } : Room) s m args below meth c H locs 0 0 (MQ below (e_Qi D cA B res.1 res.2) args s 0 0 (e_A B)) (F0 m 8 ls []) := ih
    generalize hkk : s11_blanks_l8 f = k8 at hk8
    rw [s11_blanks_l8] at hsh
    rw [hkk] at hsh
    try dsimp only at hsh
    refine lv_iload_n hx hb dX11_blanks_8 rfl (hl.at 3 rfl) ?_
    refine lv_iload_n hx hb dX11_blanks_9 rfl (hl.at 2 rfl) ?_
    refine e_icmp_ge (tgt := 35) hx hb dX11_blanks_10 (by decide) (fun c10 => ?_) (fun c10 => ?_)
    · rw [if_pos c10] at hsh
      exact w11_blanks_b35 E hp hS (hl.sub [3] rfl) hsh
    · rw [if_neg c10] at hsh
      refine e_aload_n (B := B) (x := x0) hx hb dX11_blanks_13 rfl (hl.at 0 rfl) ?_
      obtain ⟨v14, h14, hsh⟩ := Option.bind_eq_some_iff.mp hsh
      refine e_getR (k := 0) hx hb hts in_X11 hown hp h14 rfl (by decide) (by decide) rfl (hts _ kf11_9) rfl dX11_blanks_14 ?_
      refine lv_iload_n hx hb dX11_blanks_17 rfl (hl.at 1 rfl) ?_
      refine lv_bipush (v := iI (60)) hx hb dX11_blanks_18 (by decide +kernel) ?_
      refine e_imul hx hb dX11_blanks_20 ?_
      refine lv_iload_n hx hb dX11_blanks_21 rfl (hl.at 3 rfl) ?_
      refine e_iadd hx hb dX11_blanks_22 ?_
      obtain ⟨v23, h23, hsh⟩ := Option.bind_eq_some_iff.mp hsh
      refine e_cald hx hb hp h23 dX11_blanks_23 ?_
      refine lv_bipush (v := iI (32)) hx hb dX11_blanks_24 (by decide +kernel) ?_
      refine e_icmp_ne (tgt := 35) hx hb dX11_blanks_26 (by decide) (fun c26 => ?_) (fun c26 => ?_)
      · rw [if_neg c26] at hsh
        exact w11_blanks_b35 E hp hS (hl.sub [3] rfl) hsh
      · rw [if_pos c26] at hsh
        refine e_iinc (n := 1) (x := x3) (lv' := [(3, .int (iI ((x3 + 1)))), (0, e_rv B (x0)), (1, .int (iI (x1))), (2, .int (iI (x2)))]) hx hb dX11_blanks_29 hl (k := 3) rfl (by decide) rfl (fun ls hl => ?_)
        refine lv_goto (tgt := 8) hx hb dX11_blanks_32 (by decide) ?_
        exact hk8 hp hS (hl.sub [1, 2, 3, 0] rfl) hsh
set_option maxRecDepth 100000 in
set_option maxHeartbeats 4000000 in
theorem c11_blanks (l : Launch) (D : va_G) (cA : Nat → ClassId) (B : Nat) (S S' : HP) (x0 : Int) (x1 : Int) (r : Int) (hsh : s11_blanks S x0 x1 = some (r, S')) : Met l yX11_blanks (e_wu yX11_blanks cX11_blanks 4 (some .int)) ({ frames := 1, cells := 0, slots := 0, locals := 21 } : Room) (va_Pc [e_rv B (x0), .int (iI (x1))] (fun U => e_PU D cA B S U)) (e_Qi D cA B r S') 0 0 (e_A B) := by
  refine Met.ofW (cc := cX11_blanks) (maxL := 4) (ret := (some .int)) (by decide +kernel) rfl ?_
  intro p e s m args below meth c s₁ Bd hml hv
  obtain ⟨rfl, hp⟩ := hv
  have hp : e_Pic D cA B S s s.heap := hp
  have hx := Bd.exec
  have hb := Bd.bytes
  have hrt := Bd.returns
  have hlk := Bd.notSynchronized
  have hown : s.vm.findClass RX11 = some m.cls := findClass_of_methodNamed Bd.named
  have hts : ∀ w ∈ e_tb, w.before ([e_rv B (x0), .int (iI (x1))] : List Value).toArray s = true := fun w h => atoms_spec (ws := (e_wu yX11_blanks cX11_blanks 4 (some .int))) Bd.pre w (List.mem_cons_of_mem _ h)
  have E : e_En p s m ([e_rv B (x0), .int (iI (x1))] : List Value).toArray meth c cX11_blanks RX11 4 (some .int) := ⟨hx, hb, hml, hown, hts, hlk, hrt⟩
  have hS : va_S (e_A B) s.heap s.heap [] := va_S.rf
  have hl := e_entry (vs := [e_rv B (x0), .int (iI (x1))]) (n := 4) (Nat.le_of_ble_eq_true rfl) (e_cc (e_rv_cat _ _) (e_cc rfl e_cn))
  rw [lg_entry_eq]
  generalize (lg_sl [e_rv B (x0), .int (iI (x1))] ++ List.replicate (4 - (lg_sl [e_rv B (x0), .int (iI (x1))]).length) Slot.unset).toArray = ls at hl ⊢
  generalize ([e_rv B (x0), .int (iI (x1))] : List Value).toArray = args at hts E ⊢
  have hl : e_lo ls 4 [(0, e_rv B (x0)), (1, .int (iI (x1)))] := hl
  have hsh := (gd_some hsh).2
  refine e_aload_n (B := B) (x := x0) hx hb dX11_blanks_0 rfl (hl.at 0 rfl) ?_
  refine lv_iload_n hx hb dX11_blanks_1 rfl (hl.at 1 rfl) ?_
  obtain ⟨⟨v2, S2⟩, h2, hsh⟩ := Option.bind_eq_some_iff.mp hsh
  have hsh : _ = _ := hsh
  try dsimp only at hsh
  have ok2 := ok11_sizeOf h2
  refine e_callI (nL := 4) (mc := 0) (ms := 0) (T := TX11) (N := 6) (As := [.int (iI (x1))]) (rest := []) hx hb hml hown hts hp hS hl.size ok2.1 ok2.2.1 ok2.2.2 rfl (by decide) (c11_sizeOf l D cA B S S2 (x0) (x1) v2 h2) rfl rfl kd11_sizeOf (kl11_33) ks11_sizeOf kv11_sizeOf ki11 kh11_sizeOf ⟨Nat.le_of_ble_eq_true rfl, Nat.le_of_ble_eq_true rfl⟩ rfl (by simp [e_rv_cat, e_int_cat]) ⟨Nat.le_refl _, Nat.le_refl _⟩ dX11_blanks_2 rfl (fun H locs hp hS => ?_)
  refine e_istore_n (lv' := [(2, .int (iI (v2))), (0, e_rv B (x0)), (1, .int (iI (x1)))]) hx hb dX11_blanks_5 rfl hl (by decide) rfl (fun ls hl => ?_)
  refine lv_iconst (v := iI (0)) hx hb dX11_blanks_6 rfl ?_
  refine e_istore_n (lv' := [(3, .int (iI (0))), (2, .int (iI (v2))), (0, e_rv B (x0)), (1, .int (iI (x1)))]) hx hb dX11_blanks_7 rfl hl (by decide) rfl (fun ls hl => ?_)
  exact w11_blanks_l8 E 1000000 hp hS (hl.sub [2, 3, 1, 0] rfl) hsh
theorem ok11_nameOf {S : HP} {x0 : Int} {x1 : Int} {r : Int × HP} (h : s11_nameOf S x0 x1 = some r) : 0 ≤ x0 ∧ x0.toNat < e_n S ∧ e_g S x0.toNat = 11 := (gd_some h).1
set_option maxRecDepth 100000 in
set_option maxHeartbeats 4000000 in
theorem w11_nameOf_b22 {p : Program} {l : Launch} {e : Env} {s : State} {m : MethodId} {args : Array Value} {below : List Frame} {meth : Method} {c : Code} {D : va_G} {cA : Nat → ClassId} {B : Nat} {res : Int × HP} (E : e_En p s m args meth c cX11_nameOf RX11 2 (some .int)) {ls : Array Slot} {H : Heap} {locs : List Loc} {S : HP} {y0 : Int} (hp : e_Pic D cA B S s H) (hS : va_S (e_A B) s.heap H locs) (hl : e_lo ls 2 []) (hsh : s11_nameOf_b22 S y0 = some res) : W p l e ({ frames := 0, cells := 0, slots := 0, locals := 0 } : Room) s m args below meth c H locs 0 0 (MQ below (e_Qi D cA B res.1 res.2) args s 0 0 (e_A B)) (F0 m 22 ls [.int (iI (y0))]) := by
  obtain ⟨hx, hb, hml, hown, hts, hlk, hrt⟩ := id E
  unfold s11_nameOf_b22 at hsh
  cases hsh
  exact e_iret hx hb hrt hlk hp hS dX11_nameOf_22
set_option maxRecDepth 100000 in
set_option maxHeartbeats 4000000 in
theorem w11_nameOf_b12 {p : Program} {l : Launch} {e : Env} {s : State} {m : MethodId} {args : Array Value} {below : List Frame} {meth : Method} {c : Code} {D : va_G} {cA : Nat → ClassId} {B : Nat} {res : Int × HP} (E : e_En p s m args meth c cX11_nameOf RX11 2 (some .int)) {ls : Array Slot} {H : Heap} {locs : List Loc} {S : HP} (hp : e_Pic D cA B S s H) (hS : va_S (e_A B) s.heap H locs) (hl : e_lo ls 2 []) (hsh : s11_nameOf_b12 S  = some res) : W p l e ({ frames := 0, cells := 0, slots := 0, locals := 0 } : Room) s m args below meth c H locs 0 0 (MQ below (e_Qi D cA B res.1 res.2) args s 0 0 (e_A B)) (F0 m 12 ls []) := by
  obtain ⟨hx, hb, hml, hown, hts, hlk, hrt⟩ := id E
  unfold s11_nameOf_b12 at hsh
  refine lv_iconst (v := iI (-1)) hx hb dX11_nameOf_12 rfl ?_
  refine lv_goto (tgt := 22) hx hb dX11_nameOf_13 (by decide) ?_
  exact w11_nameOf_b22 E hp hS (hl.sub [] rfl) hsh
set_option maxRecDepth 100000 in
set_option maxHeartbeats 4000000 in
theorem c11_nameOf (l : Launch) (D : va_G) (cA : Nat → ClassId) (B : Nat) (S S' : HP) (x0 : Int) (x1 : Int) (r : Int) (hsh : s11_nameOf S x0 x1 = some (r, S')) : Met l yX11_nameOf (e_wu yX11_nameOf cX11_nameOf 2 (some .int)) ({ frames := 0, cells := 0, slots := 0, locals := 0 } : Room) (va_Pc [e_rv B (x0), .int (iI (x1))] (fun U => e_PU D cA B S U)) (e_Qi D cA B r S') 0 0 (e_A B) := by
  refine Met.ofW (cc := cX11_nameOf) (maxL := 2) (ret := (some .int)) (by decide +kernel) rfl ?_
  intro p e s m args below meth c s₁ Bd hml hv
  obtain ⟨rfl, hp⟩ := hv
  have hp : e_Pic D cA B S s s.heap := hp
  have hx := Bd.exec
  have hb := Bd.bytes
  have hrt := Bd.returns
  have hlk := Bd.notSynchronized
  have hown : s.vm.findClass RX11 = some m.cls := findClass_of_methodNamed Bd.named
  have hts : ∀ w ∈ e_tb, w.before ([e_rv B (x0), .int (iI (x1))] : List Value).toArray s = true := fun w h => atoms_spec (ws := (e_wu yX11_nameOf cX11_nameOf 2 (some .int))) Bd.pre w (List.mem_cons_of_mem _ h)
  have E : e_En p s m ([e_rv B (x0), .int (iI (x1))] : List Value).toArray meth c cX11_nameOf RX11 2 (some .int) := ⟨hx, hb, hml, hown, hts, hlk, hrt⟩
  have hS : va_S (e_A B) s.heap s.heap [] := va_S.rf
  have hl := e_entry (vs := [e_rv B (x0), .int (iI (x1))]) (n := 2) (Nat.le_of_ble_eq_true rfl) (e_cc (e_rv_cat _ _) (e_cc rfl e_cn))
  rw [lg_entry_eq]
  generalize (lg_sl [e_rv B (x0), .int (iI (x1))] ++ List.replicate (2 - (lg_sl [e_rv B (x0), .int (iI (x1))]).length) Slot.unset).toArray = ls at hl ⊢
  generalize ([e_rv B (x0), .int (iI (x1))] : List Value).toArray = args at hts E ⊢
  have hl : e_lo ls 2 [(0, e_rv B (x0)), (1, .int (iI (x1)))] := hl
  have hsh := (gd_some hsh).2
  refine lv_iload_n hx hb dX11_nameOf_0 rfl (hl.at 1 rfl) ?_
  refine e_if_lt (tgt := 12) hx hb dX11_nameOf_1 (by decide) (fun c1 => ?_) (fun c1 => ?_)
  · rw [if_pos c1] at hsh
    exact w11_nameOf_b12 E hp hS (hl.sub [] rfl) hsh
  · rw [if_neg c1] at hsh
    refine lv_iload_n hx hb dX11_nameOf_4 rfl (hl.at 1 rfl) ?_
    refine e_aload_n (B := B) (x := x0) hx hb dX11_nameOf_5 rfl (hl.at 0 rfl) ?_
    obtain ⟨v6, h6, hsh⟩ := Option.bind_eq_some_iff.mp hsh
    refine e_getI (k := 5) hx hb hts in_X11 hown hp h6 rfl (by decide) (by decide) rfl (hts _ kf11_26) rfl dX11_nameOf_6 ?_
    refine e_icmp_lt (tgt := 16) hx hb dX11_nameOf_9 (by decide) (fun c9 => ?_) (fun c9 => ?_)
    · rw [if_pos c9] at hsh
      refine e_aload_n (B := B) (x := x0) hx hb dX11_nameOf_16 rfl (hl.at 0 rfl) ?_
      obtain ⟨v17, h17, hsh⟩ := Option.bind_eq_some_iff.mp hsh
      refine e_getR (k := 2) hx hb hts in_X11 hown hp h17 rfl (by decide) (by decide) rfl (hts _ kf11_19) rfl dX11_nameOf_17 ?_
      refine lv_iload_n hx hb dX11_nameOf_20 rfl (hl.at 1 rfl) ?_
      obtain ⟨v21, h21, hsh⟩ := Option.bind_eq_some_iff.mp hsh
      refine e_iald hx hb hp h21 dX11_nameOf_21 ?_
      exact w11_nameOf_b22 E hp hS (hl.sub [] rfl) hsh
    · rw [if_neg c9] at hsh
      exact w11_nameOf_b12 E hp hS (hl.sub [] rfl) hsh
theorem ok11_rowNamed {S : HP} {x0 : Int} {x1 : Int} {r : Int × HP} (h : s11_rowNamed S x0 x1 = some r) : 0 ≤ x0 ∧ x0.toNat < e_n S ∧ e_g S x0.toNat = 11 := (gd_some h).1
set_option maxRecDepth 100000 in
set_option maxHeartbeats 4000000 in
theorem w11_rowNamed_l2 {p : Program} {l : Launch} {e : Env} {s : State} {m : MethodId} {args : Array Value} {below : List Frame} {meth : Method} {c : Code} {D : va_G} {cA : Nat → ClassId} {B : Nat} {res : Int × HP} (E : e_En p s m args meth c cX11_rowNamed RX11 3 (some .int)) : ∀ (f : Nat) {ls : Array Slot} {H : Heap} {locs : List Loc} {S : HP} {x0 : Int} {x1 : Int} {x2 : Int} (hp : e_Pic D cA B S s H) (hS : va_S (e_A B) s.heap H locs) (hl : e_lo ls 3 [(0, e_rv B (x0)), (1, .int (iI (x1))), (2, .int (iI (x2)))]) (hsh : s11_rowNamed_l2 f S x0 x1 x2 = some res), W p l e ({ frames := 0, cells := 0, slots := 0, locals := 0 } : Room) s m args below meth c H locs 0 0 (MQ below (e_Qi D cA B res.1 res.2) args s 0 0 (e_A B)) (F0 m 2 ls []) := by
  obtain ⟨hx, hb, hml, hown, hts, hlk, hrt⟩ := id E
  intro f
  induction f with
  | zero => intro ls H locs S x0 x1 x2 hp hS hl hsh; cases hsh
  | succ f ih =>
    intro ls H locs S x0 x1 x2 hp hS hl hsh
    have hk2 : ∀ {ls : Array Slot} {H : Heap} {locs : List Loc} {S : HP} {x0 : Int} {x1 : Int} {x2 : Int} (hp : e_Pic D cA B S s H) (hS : va_S (e_A B) s.heap H locs) (hl : e_lo ls 3 [(0, e_rv B (x0)), (1, .int (iI (x1))), (2, .int (iI (x2)))]) (hsh : (s11_rowNamed_l2 f) S x0 x1 x2 = some res), W p l e ({ frames := 0, cells := 0, slots := 0, locals := 0 } : Room) s m args below meth c H locs 0 0 (MQ below (e_Qi D cA B res.1 res.2) args s 0 0 (e_A B)) (F0 m 2 ls []) := ih
    generalize hkk : s11_rowNamed_l2 f = k2 at hk2
    rw [s11_rowNamed_l2] at hsh
    rw [hkk] at hsh
    try dsimp only at hsh
    refine lv_iload_n hx hb dX11_rowNamed_2 rfl (hl.at 2 rfl) ?_
    refine e_aload_n (B := B) (x := x0) hx hb dX11_rowNamed_3 rfl (hl.at 0 rfl) ?_
    obtain ⟨v4, h4, hsh⟩ := Option.bind_eq_some_iff.mp hsh
    refine e_getI (k := 5) hx hb hts in_X11 hown hp h4 rfl (by decide) (by decide) rfl (hts _ kf11_26) rfl dX11_rowNamed_4 ?_
    refine e_icmp_ge (tgt := 28) hx hb dX11_rowNamed_7 (by decide) (fun c7 => ?_) (fun c7 => ?_)
    · rw [if_pos c7] at hsh
      refine lv_iconst (v := iI (-1)) hx hb dX11_rowNamed_28 rfl ?_
      cases hsh
      exact e_iret hx hb hrt hlk hp hS dX11_rowNamed_29
    · rw [if_neg c7] at hsh
      refine e_aload_n (B := B) (x := x0) hx hb dX11_rowNamed_10 rfl (hl.at 0 rfl) ?_
      obtain ⟨v11, h11, hsh⟩ := Option.bind_eq_some_iff.mp hsh
      refine e_getR (k := 2) hx hb hts in_X11 hown hp h11 rfl (by decide) (by decide) rfl (hts _ kf11_19) rfl dX11_rowNamed_11 ?_
      refine lv_iload_n hx hb dX11_rowNamed_14 rfl (hl.at 2 rfl) ?_
      obtain ⟨v15, h15, hsh⟩ := Option.bind_eq_some_iff.mp hsh
      refine e_iald hx hb hp h15 dX11_rowNamed_15 ?_
      refine lv_iload_n hx hb dX11_rowNamed_16 rfl (hl.at 1 rfl) ?_
      refine e_icmp_ne (tgt := 22) hx hb dX11_rowNamed_17 (by decide) (fun c17 => ?_) (fun c17 => ?_)
      · rw [if_neg c17] at hsh
        refine e_iinc (n := 1) (x := x2) (lv' := [(2, .int (iI ((x2 + 1)))), (0, e_rv B (x0)), (1, .int (iI (x1)))]) hx hb dX11_rowNamed_22 hl (k := 2) rfl (by decide) rfl (fun ls hl => ?_)
        refine lv_goto (tgt := 2) hx hb dX11_rowNamed_25 (by decide) ?_
        exact hk2 hp hS (hl.sub [1, 2, 0] rfl) hsh
      · rw [if_pos c17] at hsh
        refine lv_iload_n hx hb dX11_rowNamed_20 rfl (hl.at 2 rfl) ?_
        cases hsh
        exact e_iret hx hb hrt hlk hp hS dX11_rowNamed_21
set_option maxRecDepth 100000 in
set_option maxHeartbeats 4000000 in
theorem c11_rowNamed (l : Launch) (D : va_G) (cA : Nat → ClassId) (B : Nat) (S S' : HP) (x0 : Int) (x1 : Int) (r : Int) (hsh : s11_rowNamed S x0 x1 = some (r, S')) : Met l yX11_rowNamed (e_wu yX11_rowNamed cX11_rowNamed 3 (some .int)) ({ frames := 0, cells := 0, slots := 0, locals := 0 } : Room) (va_Pc [e_rv B (x0), .int (iI (x1))] (fun U => e_PU D cA B S U)) (e_Qi D cA B r S') 0 0 (e_A B) := by
  refine Met.ofW (cc := cX11_rowNamed) (maxL := 3) (ret := (some .int)) (by decide +kernel) rfl ?_
  intro p e s m args below meth c s₁ Bd hml hv
  obtain ⟨rfl, hp⟩ := hv
  have hp : e_Pic D cA B S s s.heap := hp
  have hx := Bd.exec
  have hb := Bd.bytes
  have hrt := Bd.returns
  have hlk := Bd.notSynchronized
  have hown : s.vm.findClass RX11 = some m.cls := findClass_of_methodNamed Bd.named
  have hts : ∀ w ∈ e_tb, w.before ([e_rv B (x0), .int (iI (x1))] : List Value).toArray s = true := fun w h => atoms_spec (ws := (e_wu yX11_rowNamed cX11_rowNamed 3 (some .int))) Bd.pre w (List.mem_cons_of_mem _ h)
  have E : e_En p s m ([e_rv B (x0), .int (iI (x1))] : List Value).toArray meth c cX11_rowNamed RX11 3 (some .int) := ⟨hx, hb, hml, hown, hts, hlk, hrt⟩
  have hS : va_S (e_A B) s.heap s.heap [] := va_S.rf
  have hl := e_entry (vs := [e_rv B (x0), .int (iI (x1))]) (n := 3) (Nat.le_of_ble_eq_true rfl) (e_cc (e_rv_cat _ _) (e_cc rfl e_cn))
  rw [lg_entry_eq]
  generalize (lg_sl [e_rv B (x0), .int (iI (x1))] ++ List.replicate (3 - (lg_sl [e_rv B (x0), .int (iI (x1))]).length) Slot.unset).toArray = ls at hl ⊢
  generalize ([e_rv B (x0), .int (iI (x1))] : List Value).toArray = args at hts E ⊢
  have hl : e_lo ls 3 [(0, e_rv B (x0)), (1, .int (iI (x1)))] := hl
  have hsh := (gd_some hsh).2
  refine lv_iconst (v := iI (0)) hx hb dX11_rowNamed_0 rfl ?_
  refine e_istore_n (lv' := [(2, .int (iI (0))), (0, e_rv B (x0)), (1, .int (iI (x1)))]) hx hb dX11_rowNamed_1 rfl hl (by decide) rfl (fun ls hl => ?_)
  exact w11_rowNamed_l2 E 1000000 hp hS (hl.sub [1, 2, 0] rfl) hsh
theorem ok11_firstDifference {S : HP} {x0 : Int} {x1 : Int} {r : Int × HP} (h : s11_firstDifference S x0 x1 = some r) : 0 ≤ x0 ∧ x0.toNat < e_n S ∧ e_g S x0.toNat = 11 := (gd_some h).1
set_option maxRecDepth 100000 in
set_option maxHeartbeats 4000000 in
theorem w11_firstDifference_b110 {p : Program} {l : Launch} {e : Env} {s : State} {m : MethodId} {args : Array Value} {below : List Frame} {meth : Method} {c : Code} {D : va_G} {cA : Nat → ClassId} {B : Nat} {res : Int × HP} (E : e_En p s m args meth c cX11_firstDifference RX11 4 (some .int)) {ls : Array Slot} {H : Heap} {locs : List Loc} {S : HP} {y0 : Int} (hp : e_Pic D cA B S s H) (hS : va_S (e_A B) s.heap H locs) (hl : e_lo ls 4 []) (hsh : s11_firstDifference_b110 S y0 = some res) : W p l e ({ frames := 1, cells := 0, slots := 0, locals := 21 } : Room) s m args below meth c H locs 0 0 (MQ below (e_Qi D cA B res.1 res.2) args s 0 0 (e_A B)) (F0 m 110 ls [.int (iI (y0))]) := by
  obtain ⟨hx, hb, hml, hown, hts, hlk, hrt⟩ := id E
  unfold s11_firstDifference_b110 at hsh
  cases hsh
  exact e_iret hx hb hrt hlk hp hS dX11_firstDifference_110
set_option maxRecDepth 100000 in
set_option maxHeartbeats 4000000 in
theorem w11_firstDifference_b84 {p : Program} {l : Launch} {e : Env} {s : State} {m : MethodId} {args : Array Value} {below : List Frame} {meth : Method} {c : Code} {D : va_G} {cA : Nat → ClassId} {B : Nat} {res : Int × HP} (E : e_En p s m args meth c cX11_firstDifference RX11 4 (some .int)) {ls : Array Slot} {H : Heap} {locs : List Loc} {S : HP} {x0 : Int} {x1 : Int} (hp : e_Pic D cA B S s H) (hS : va_S (e_A B) s.heap H locs) (hl : e_lo ls 4 [(0, e_rv B (x0)), (1, e_rv B (x1))]) (hsh : s11_firstDifference_b84 S x0 x1 = some res) : W p l e ({ frames := 1, cells := 0, slots := 0, locals := 21 } : Room) s m args below meth c H locs 0 0 (MQ below (e_Qi D cA B res.1 res.2) args s 0 0 (e_A B)) (F0 m 84 ls []) := by
  obtain ⟨hx, hb, hml, hown, hts, hlk, hrt⟩ := id E
  unfold s11_firstDifference_b84 at hsh
  refine e_aload_n (B := B) (x := x0) hx hb dX11_firstDifference_84 rfl (hl.at 0 rfl) ?_
  obtain ⟨v85, h85, hsh⟩ := Option.bind_eq_some_iff.mp hsh
  refine e_getI (k := 5) hx hb hts in_X11 hown hp h85 rfl (by decide) (by decide) rfl (hts _ kf11_26) rfl dX11_firstDifference_85 ?_
  refine e_aload_n (B := B) (x := x1) hx hb dX11_firstDifference_88 rfl (hl.at 1 rfl) ?_
  obtain ⟨v89, h89, hsh⟩ := Option.bind_eq_some_iff.mp hsh
  refine e_getI (k := 5) hx hb hts in_X11 hown hp h89 rfl (by decide) (by decide) rfl (hts _ kf11_26) rfl dX11_firstDifference_89 ?_
  refine e_icmp_ne (tgt := 99) hx hb dX11_firstDifference_92 (by decide) (fun c92 => ?_) (fun c92 => ?_)
  · rw [if_neg c92] at hsh
    refine e_aload_n (B := B) (x := x0) hx hb dX11_firstDifference_99 rfl (hl.at 0 rfl) ?_
    obtain ⟨v100, h100, hsh⟩ := Option.bind_eq_some_iff.mp hsh
    refine e_getI (k := 5) hx hb hts in_X11 hown hp h100 rfl (by decide) (by decide) rfl (hts _ kf11_26) rfl dX11_firstDifference_100 ?_
    refine e_aload_n (B := B) (x := x1) hx hb dX11_firstDifference_103 rfl (hl.at 1 rfl) ?_
    obtain ⟨v104, h104, hsh⟩ := Option.bind_eq_some_iff.mp hsh
    refine e_getI (k := 5) hx hb hts in_X11 hown hp h104 rfl (by decide) (by decide) rfl (hts _ kf11_26) rfl dX11_firstDifference_104 ?_
    refine e_min (rest := []) hx hb (hml.trans hl.size.symm) hown hts kl11_41 kM_min_s kM_i kM_min_c (Nat.le_of_ble_eq_true rfl) (Nat.le_trans (Nat.add_le_add_right (show _ ≤ 8 by simp [e_rv_cat, e_int_cat]) 13) (Nat.le_of_ble_eq_true rfl)) (Nat.le_refl _) (Nat.le_refl _) dX11_firstDifference_107 ?_
    exact w11_firstDifference_b110 E hp hS (hl.sub [] rfl) hsh
  · rw [if_pos c92] at hsh
    refine lv_iconst (v := iI (-1)) hx hb dX11_firstDifference_95 rfl ?_
    refine lv_goto (tgt := 110) hx hb dX11_firstDifference_96 (by decide) ?_
    exact w11_firstDifference_b110 E hp hS (hl.sub [] rfl) hsh
set_option maxRecDepth 100000 in
set_option maxHeartbeats 4000000 in
theorem w11_firstDifference_l40 {p : Program} {l : Launch} {e : Env} {s : State} {m : MethodId} {args : Array Value} {below : List Frame} {meth : Method} {c : Code} {D : va_G} {cA : Nat → ClassId} {B : Nat} {res : Int × HP} {k2 : HP → Int → Int → Int → Option (Int × HP)} (hk2 : ∀ {ls : Array Slot} {H : Heap} {locs : List Loc} {S : HP} {x0 : Int} {x1 : Int} {x2 : Int} (hp : e_Pic D cA B S s H) (hS : va_S (e_A B) s.heap H locs) (hl : e_lo ls 4 [(0, e_rv B (x0)), (1, e_rv B (x1)), (2, .int (iI (x2)))]) (hsh : k2 S x0 x1 x2 = some res), W p l e ({ frames := 1, cells := 0, slots := 0, locals := 21 } : Room) s m args below meth c H locs 0 0 (MQ below (e_Qi D cA B res.1 res.2) args s 0 0 (e_A B)) (F0 m 2 ls [])) (E : e_En p s m args meth c cX11_firstDifference RX11 4 (some .int)) : ∀ (f : Nat) {ls : Array Slot} {H : Heap} {locs : List Loc} {S : HP} {x0 : Int} {x1 : Int} {x2 : Int} {x3 : Int} (hp : e_Pic D cA B S s H) (hS : va_S (e_A B) s.heap H locs) (hl : e_lo ls 4 [(0, e_rv B (x0)), (1, e_rv B (x1)), (2, .int (iI (x2))), (3, .int (iI (x3)))]) (hsh : s11_firstDifference_l40 k2 f S x0 x1 x2 x3 = some res), W p l e ({ frames := 1, cells := 0, slots := 0, locals := 21 } : Room) s m args below meth c H locs 0 0 (MQ below (e_Qi D cA B res.1 res.2) args s 0 0 (e_A B)) (F0 m 40 ls []) := by
  obtain ⟨hx, hb, hml, hown, hts, hlk, hrt⟩ := id E
  intro f
  induction f with
  | zero => intro ls H locs S x0 x1 x2 x3 hp hS hl hsh; cases hsh
  | succ f ih =>
    intro ls H locs S x0 x1 x2 x3 hp hS hl hsh
    have hk40 : ∀ {ls : Array Slot} {H : Heap} {locs : List Loc} {S : HP} {x0 : Int} {x1 : Int} {x2 : Int} {x3 : Int} (hp : e_Pic D cA B S s H) (hS : va_S (e_A B) s.heap H locs) (hl : e_lo ls 4 [(0, e_rv B (x0)), (1, e_rv B (x1)), (2, .int (iI (x2))), (3, .int (iI (x3)))]) (hsh : (s11_firstDifference_l40 k2 f) S x0 x1 x2 x3 = some res), W p l e ({ frames := 1, cells := 0, slots := 0, locals := 21 } : Room) s m args below meth c H locs 0 0 (MQ below (e_Qi D cA B res.1 res.2) args s 0 0 (e_A B)) (F0 m 40 ls []) := ih
    generalize hkk : s11_firstDifference_l40 k2 f = k40 at hk40
    rw [s11_firstDifference_l40] at hsh
    rw [hkk] at hsh
    try dsimp only at hsh
    refine lv_iload_n hx hb dX11_firstDifference_40 rfl (hl.at 3 rfl) ?_
    refine lv_iload_n hx hb dX11_firstDifference_41 rfl (hl.at 2 rfl) ?_
    refine lv_bipush (v := iI (60)) hx hb dX11_firstDifference_42 (by decide +kernel) ?_
    refine e_imul hx hb dX11_firstDifference_44 ?_
    refine e_aload_n (B := B) (x := x0) hx hb dX11_firstDifference_45 rfl (hl.at 0 rfl) ?_
    obtain ⟨v46, h46, hsh⟩ := Option.bind_eq_some_iff.mp hsh
    refine e_getR (k := 1) hx hb hts in_X11 hown hp h46 rfl (by decide) (by decide) rfl (hts _ kf11_15) rfl dX11_firstDifference_46 ?_
    refine lv_iload_n hx hb dX11_firstDifference_49 rfl (hl.at 2 rfl) ?_
    obtain ⟨v50, h50, hsh⟩ := Option.bind_eq_some_iff.mp hsh
    refine e_iald hx hb hp h50 dX11_firstDifference_50 ?_
    refine e_iadd hx hb dX11_firstDifference_51 ?_
    refine e_icmp_ge (tgt := 78) hx hb dX11_firstDifference_52 (by decide) (fun c52 => ?_) (fun c52 => ?_)
    · rw [if_pos c52] at hsh
      refine e_iinc (n := 1) (x := x2) (lv' := [(2, .int (iI ((x2 + 1)))), (0, e_rv B (x0)), (1, e_rv B (x1)), (3, .int (iI (x3)))]) hx hb dX11_firstDifference_78 hl (k := 2) rfl (by decide) rfl (fun ls hl => ?_)
      refine lv_goto (tgt := 2) hx hb dX11_firstDifference_81 (by decide) ?_
      exact hk2 hp hS (hl.sub [1, 2, 0] rfl) hsh
    · rw [if_neg c52] at hsh
      refine e_aload_n (B := B) (x := x0) hx hb dX11_firstDifference_55 rfl (hl.at 0 rfl) ?_
      obtain ⟨v56, h56, hsh⟩ := Option.bind_eq_some_iff.mp hsh
      refine e_getR (k := 0) hx hb hts in_X11 hown hp h56 rfl (by decide) (by decide) rfl (hts _ kf11_9) rfl dX11_firstDifference_56 ?_
      refine lv_iload_n hx hb dX11_firstDifference_59 rfl (hl.at 3 rfl) ?_
      obtain ⟨v60, h60, hsh⟩ := Option.bind_eq_some_iff.mp hsh
      refine e_cald hx hb hp h60 dX11_firstDifference_60 ?_
      refine e_aload_n (B := B) (x := x1) hx hb dX11_firstDifference_61 rfl (hl.at 1 rfl) ?_
      obtain ⟨v62, h62, hsh⟩ := Option.bind_eq_some_iff.mp hsh
      refine e_getR (k := 0) hx hb hts in_X11 hown hp h62 rfl (by decide) (by decide) rfl (hts _ kf11_9) rfl dX11_firstDifference_62 ?_
      refine lv_iload_n hx hb dX11_firstDifference_65 rfl (hl.at 3 rfl) ?_
      obtain ⟨v66, h66, hsh⟩ := Option.bind_eq_some_iff.mp hsh
      refine e_cald hx hb hp h66 dX11_firstDifference_66 ?_
      refine e_icmp_eq (tgt := 72) hx hb dX11_firstDifference_67 (by decide) (fun c67 => ?_) (fun c67 => ?_)
      · rw [if_pos c67] at hsh
        refine e_iinc (n := 1) (x := x3) (lv' := [(3, .int (iI ((x3 + 1)))), (0, e_rv B (x0)), (1, e_rv B (x1)), (2, .int (iI (x2)))]) hx hb dX11_firstDifference_72 hl (k := 3) rfl (by decide) rfl (fun ls hl => ?_)
        refine lv_goto (tgt := 40) hx hb dX11_firstDifference_75 (by decide) ?_
        exact hk40 hp hS (hl.sub [1, 2, 3, 0] rfl) hsh
      · rw [if_neg c67] at hsh
        refine lv_iload_n hx hb dX11_firstDifference_70 rfl (hl.at 2 rfl) ?_
        cases hsh
        exact e_iret hx hb hrt hlk hp hS dX11_firstDifference_71
set_option maxRecDepth 100000 in
set_option maxHeartbeats 4000000 in
theorem w11_firstDifference_l2 {p : Program} {l : Launch} {e : Env} {s : State} {m : MethodId} {args : Array Value} {below : List Frame} {meth : Method} {c : Code} {D : va_G} {cA : Nat → ClassId} {B : Nat} {res : Int × HP} (E : e_En p s m args meth c cX11_firstDifference RX11 4 (some .int)) : ∀ (f : Nat) {ls : Array Slot} {H : Heap} {locs : List Loc} {S : HP} {x0 : Int} {x1 : Int} {x2 : Int} (hp : e_Pic D cA B S s H) (hS : va_S (e_A B) s.heap H locs) (hl : e_lo ls 4 [(0, e_rv B (x0)), (1, e_rv B (x1)), (2, .int (iI (x2)))]) (hsh : s11_firstDifference_l2 f S x0 x1 x2 = some res), W p l e ({ frames := 1, cells := 0, slots := 0, locals := 21 } : Room) s m args below meth c H locs 0 0 (MQ below (e_Qi D cA B res.1 res.2) args s 0 0 (e_A B)) (F0 m 2 ls []) := by
  obtain ⟨hx, hb, hml, hown, hts, hlk, hrt⟩ := id E
  intro f
  induction f with
  | zero => intro ls H locs S x0 x1 x2 hp hS hl hsh; cases hsh
  | succ f ih =>
    intro ls H locs S x0 x1 x2 hp hS hl hsh
    have hk2 : ∀ {ls : Array Slot} {H : Heap} {locs : List Loc} {S : HP} {x0 : Int} {x1 : Int} {x2 : Int} (hp : e_Pic D cA B S s H) (hS : va_S (e_A B) s.heap H locs) (hl : e_lo ls 4 [(0, e_rv B (x0)), (1, e_rv B (x1)), (2, .int (iI (x2)))]) (hsh : (s11_firstDifference_l2 f) S x0 x1 x2 = some res), W p l e ({ frames := 1, cells := 0, slots := 0, locals := 21 } : Room) s m args below meth c H locs 0 0 (MQ below (e_Qi D cA B res.1 res.2) args s 0 0 (e_A B)) (F0 m 2 ls []) := ih
    generalize hkk : s11_firstDifference_l2 f = k2 at hk2
    rw [s11_firstDifference_l2] at hsh
    rw [hkk] at hsh
    try dsimp only at hsh
    refine lv_iload_n hx hb dX11_firstDifference_2 rfl (hl.at 2 rfl) ?_
    refine e_aload_n (B := B) (x := x0) hx hb dX11_firstDifference_3 rfl (hl.at 0 rfl) ?_
    obtain ⟨v4, h4, hsh⟩ := Option.bind_eq_some_iff.mp hsh
    refine e_getI (k := 5) hx hb hts in_X11 hown hp h4 rfl (by decide) (by decide) rfl (hts _ kf11_26) rfl dX11_firstDifference_4 ?_
    refine e_icmp_ge (tgt := 84) hx hb dX11_firstDifference_7 (by decide) (fun c7 => ?_) (fun c7 => ?_)
    · rw [if_pos c7] at hsh
      exact w11_firstDifference_b84 E hp hS (hl.sub [0, 1] rfl) hsh
    · rw [if_neg c7] at hsh
      refine lv_iload_n hx hb dX11_firstDifference_10 rfl (hl.at 2 rfl) ?_
      refine e_aload_n (B := B) (x := x1) hx hb dX11_firstDifference_11 rfl (hl.at 1 rfl) ?_
      obtain ⟨v12, h12, hsh⟩ := Option.bind_eq_some_iff.mp hsh
      refine e_getI (k := 5) hx hb hts in_X11 hown hp h12 rfl (by decide) (by decide) rfl (hts _ kf11_26) rfl dX11_firstDifference_12 ?_
      refine e_icmp_ge (tgt := 84) hx hb dX11_firstDifference_15 (by decide) (fun c15 => ?_) (fun c15 => ?_)
      · rw [if_pos c15] at hsh
        exact w11_firstDifference_b84 E hp hS (hl.sub [0, 1] rfl) hsh
      · rw [if_neg c15] at hsh
        refine e_aload_n (B := B) (x := x0) hx hb dX11_firstDifference_18 rfl (hl.at 0 rfl) ?_
        obtain ⟨v19, h19, hsh⟩ := Option.bind_eq_some_iff.mp hsh
        refine e_getR (k := 1) hx hb hts in_X11 hown hp h19 rfl (by decide) (by decide) rfl (hts _ kf11_15) rfl dX11_firstDifference_19 ?_
        refine lv_iload_n hx hb dX11_firstDifference_22 rfl (hl.at 2 rfl) ?_
        obtain ⟨v23, h23, hsh⟩ := Option.bind_eq_some_iff.mp hsh
        refine e_iald hx hb hp h23 dX11_firstDifference_23 ?_
        refine e_aload_n (B := B) (x := x1) hx hb dX11_firstDifference_24 rfl (hl.at 1 rfl) ?_
        obtain ⟨v25, h25, hsh⟩ := Option.bind_eq_some_iff.mp hsh
        refine e_getR (k := 1) hx hb hts in_X11 hown hp h25 rfl (by decide) (by decide) rfl (hts _ kf11_15) rfl dX11_firstDifference_25 ?_
        refine lv_iload_n hx hb dX11_firstDifference_28 rfl (hl.at 2 rfl) ?_
        obtain ⟨v29, h29, hsh⟩ := Option.bind_eq_some_iff.mp hsh
        refine e_iald hx hb hp h29 dX11_firstDifference_29 ?_
        refine e_icmp_eq (tgt := 35) hx hb dX11_firstDifference_30 (by decide) (fun c30 => ?_) (fun c30 => ?_)
        · rw [if_pos c30] at hsh
          refine lv_iload_n hx hb dX11_firstDifference_35 rfl (hl.at 2 rfl) ?_
          refine lv_bipush (v := iI (60)) hx hb dX11_firstDifference_36 (by decide +kernel) ?_
          refine e_imul hx hb dX11_firstDifference_38 ?_
          refine e_istore_n (lv' := [(3, .int (iI ((x2 * 60)))), (0, e_rv B (x0)), (1, e_rv B (x1)), (2, .int (iI (x2)))]) hx hb dX11_firstDifference_39 rfl hl (by decide) rfl (fun ls hl => ?_)
          exact w11_firstDifference_l40 (hk2 := hk2) E 1000000 hp hS (hl.sub [1, 2, 3, 0] rfl) hsh
        · rw [if_neg c30] at hsh
          refine lv_iload_n hx hb dX11_firstDifference_33 rfl (hl.at 2 rfl) ?_
          cases hsh
          exact e_iret hx hb hrt hlk hp hS dX11_firstDifference_34
set_option maxRecDepth 100000 in
set_option maxHeartbeats 4000000 in
theorem c11_firstDifference (l : Launch) (D : va_G) (cA : Nat → ClassId) (B : Nat) (S S' : HP) (x0 : Int) (x1 : Int) (r : Int) (hsh : s11_firstDifference S x0 x1 = some (r, S')) : Met l yX11_firstDifference (e_wu yX11_firstDifference cX11_firstDifference 4 (some .int)) ({ frames := 1, cells := 0, slots := 0, locals := 21 } : Room) (va_Pc [e_rv B (x0), e_rv B (x1)] (fun U => e_PU D cA B S U)) (e_Qi D cA B r S') 0 0 (e_A B) := by
  refine Met.ofW (cc := cX11_firstDifference) (maxL := 4) (ret := (some .int)) (by decide +kernel) rfl ?_
  intro p e s m args below meth c s₁ Bd hml hv
  obtain ⟨rfl, hp⟩ := hv
  have hp : e_Pic D cA B S s s.heap := hp
  have hx := Bd.exec
  have hb := Bd.bytes
  have hrt := Bd.returns
  have hlk := Bd.notSynchronized
  have hown : s.vm.findClass RX11 = some m.cls := findClass_of_methodNamed Bd.named
  have hts : ∀ w ∈ e_tb, w.before ([e_rv B (x0), e_rv B (x1)] : List Value).toArray s = true := fun w h => atoms_spec (ws := (e_wu yX11_firstDifference cX11_firstDifference 4 (some .int))) Bd.pre w (List.mem_cons_of_mem _ h)
  have E : e_En p s m ([e_rv B (x0), e_rv B (x1)] : List Value).toArray meth c cX11_firstDifference RX11 4 (some .int) := ⟨hx, hb, hml, hown, hts, hlk, hrt⟩
  have hS : va_S (e_A B) s.heap s.heap [] := va_S.rf
  have hl := e_entry (vs := [e_rv B (x0), e_rv B (x1)]) (n := 4) (Nat.le_of_ble_eq_true rfl) (e_cc (e_rv_cat _ _) (e_cc (e_rv_cat _ _) e_cn))
  rw [lg_entry_eq]
  generalize (lg_sl [e_rv B (x0), e_rv B (x1)] ++ List.replicate (4 - (lg_sl [e_rv B (x0), e_rv B (x1)]).length) Slot.unset).toArray = ls at hl ⊢
  generalize ([e_rv B (x0), e_rv B (x1)] : List Value).toArray = args at hts E ⊢
  have hl : e_lo ls 4 [(0, e_rv B (x0)), (1, e_rv B (x1))] := hl
  have hsh := (gd_some hsh).2
  refine lv_iconst (v := iI (0)) hx hb dX11_firstDifference_0 rfl ?_
  refine e_istore_n (lv' := [(2, .int (iI (0))), (0, e_rv B (x0)), (1, e_rv B (x1))]) hx hb dX11_firstDifference_1 rfl hl (by decide) rfl (fun ls hl => ?_)
  exact w11_firstDifference_l2 E 1000000 hp hS (hl.sub [1, 2, 0] rfl) hsh
theorem ok11_copyOf {S : HP} {x0 : Int} {x1 : Int} {r : HP} (h : s11_copyOf S x0 x1 = some r) : 0 ≤ x0 ∧ x0.toNat < e_n S ∧ e_g S x0.toNat = 11 := (gd_some h).1
set_option maxRecDepth 100000 in
set_option maxHeartbeats 4000000 in
theorem w11_copyOf_l46 {p : Program} {l : Launch} {e : Env} {s : State} {m : MethodId} {args : Array Value} {below : List Frame} {meth : Method} {c : Code} {D : va_G} {cA : Nat → ClassId} {B : Nat} {res : HP} (E : e_En p s m args meth c cX11_copyOf RX11 3 none) : ∀ (f : Nat) {ls : Array Slot} {H : Heap} {locs : List Loc} {S : HP} {x0 : Int} {x2 : Int} (hp : e_Pic D cA B S s H) (hS : va_S (e_A B) s.heap H locs) (hl : e_lo ls 3 [(0, e_rv B (x0)), (2, .int (iI (x2)))]) (hsh : s11_copyOf_l46 f S x0 x2 = some res), W p l e ({ frames := 1, cells := 0, slots := 0, locals := 60 } : Room) s m args below meth c H locs 0 0 (MQ below (e_Qv D cA B res) args s 0 0 (e_A B)) (F0 m 46 ls []) := by
  obtain ⟨hx, hb, hml, hown, hts, hlk, hrt⟩ := id E
  intro f
  induction f with
  | zero => intro ls H locs S x0 x2 hp hS hl hsh; cases hsh
  | succ f ih =>
    intro ls H locs S x0 x2 hp hS hl hsh
    have hk46 : ∀ {ls : Array Slot} {H : Heap} {locs : List Loc} {S : HP} {x0 : Int} {x2 : Int} (hp : e_Pic D cA B S s H) (hS : va_S (e_A B) s.heap H locs) (hl : e_lo ls 3 [(0, e_rv B (x0)), (2, .int (iI (x2)))]) (hsh : (s11_copyOf_l46 f) S x0 x2 = some res), W p l e ({ frames := 1, cells := 0, slots := 0, locals := 60 } : Room) s m args below meth c H locs 0 0 (MQ below (e_Qv D cA B res) args s 0 0 (e_A B)) (F0 m 46 ls []) := ih
    generalize hkk : s11_copyOf_l46 f = k46 at hk46
    rw [s11_copyOf_l46] at hsh
    rw [hkk] at hsh
    try dsimp only at hsh
    refine lv_iload_n hx hb dX11_copyOf_46 rfl (hl.at 1 rfl) ?_
    refine e_aload_n (B := B) (x := x0) hx hb dX11_copyOf_47 rfl (hl.at 0 rfl) ?_
    obtain ⟨v48, h48, hsh⟩ := Option.bind_eq_some_iff.mp hsh
    refine e_getI (k := 5) hx hb hts in_X11 hown hp h48 rfl (by decide) (by decide) rfl (hts _ kf11_26) rfl dX11_copyOf_48 ?_
    refine e_icmp_ge (tgt := 80) hx hb dX11_copyOf_51 (by decide) (fun c51 => ?_) (fun c51 => ?_)
    · rw [if_pos c51] at hsh
      cases hsh
      exact e_vret hx hb hrt hlk hp hS dX11_copyOf_80
    · rw [if_neg c51] at hsh
      refine e_aload_n (B := B) (x := x0) hx hb dX11_copyOf_54 rfl (hl.at 0 rfl) ?_
      refine lv_dup hx hb dX11_copyOf_55 (e_rv_cat _ _) ?_
      obtain ⟨v56, h56, hsh⟩ := Option.bind_eq_some_iff.mp hsh
      refine e_getI (k := 3) hx hb hts in_X11 hown hp h56 rfl (by decide) (by decide) rfl (hts _ kf11_22) rfl dX11_copyOf_56 ?_
      refine lv_iconst (v := iI (1)) hx hb dX11_copyOf_59 rfl ?_
      refine e_iadd hx hb dX11_copyOf_60 ?_
      obtain ⟨S61, h61, hsh⟩ := Option.bind_eq_some_iff.mp hsh
      refine e_putI (k := 3) hx hb hts in_X11 tyX11 tyX11_ok nmX11 hown hp hS h61 rfl (by decide) (by decide) rfl (hts _ kf11_22) rfl rfl (by decide +kernel) dX11_copyOf_61 (fun H locs hp hS => ?_)
      refine e_aload_n (B := B) (x := x0) hx hb dX11_copyOf_64 rfl (hl.at 0 rfl) ?_
      obtain ⟨v65, h65, hsh⟩ := Option.bind_eq_some_iff.mp hsh
      refine e_getR (k := 2) hx hb hts in_X11 hown hp h65 rfl (by decide) (by decide) rfl (hts _ kf11_19) rfl dX11_copyOf_65 ?_
      refine lv_iload_n hx hb dX11_copyOf_68 rfl (hl.at 1 rfl) ?_
      refine e_aload_n (B := B) (x := x0) hx hb dX11_copyOf_69 rfl (hl.at 0 rfl) ?_
      obtain ⟨v70, h70, hsh⟩ := Option.bind_eq_some_iff.mp hsh
      refine e_getI (k := 3) hx hb hts in_X11 hown hp h70 rfl (by decide) (by decide) rfl (hts _ kf11_22) rfl dX11_copyOf_70 ?_
      obtain ⟨S73, h73, hsh⟩ := Option.bind_eq_some_iff.mp hsh
      refine e_iast hx hb hp hS h73 dX11_copyOf_73 (fun H locs hp hS => ?_)
      refine e_iinc (n := 1) (x := x2) (lv' := [(2, .int (iI ((x2 + 1)))), (0, e_rv B (x0))]) hx hb dX11_copyOf_74 hl (k := 1) rfl (by decide) rfl (fun ls hl => ?_)
      refine lv_goto (tgt := 46) hx hb dX11_copyOf_77 (by decide) ?_
      exact hk46 hp hS (hl.sub [1, 0] rfl) hsh
set_option maxRecDepth 100000 in
set_option maxHeartbeats 4000000 in
theorem c11_copyOf (l : Launch) (D : va_G) (cA : Nat → ClassId) (B : Nat) (S S' : HP) (x0 : Int) (x1 : Int) (hsh : s11_copyOf S x0 x1 = some S') : Met l yX11_copyOf (e_wu yX11_copyOf cX11_copyOf 3 none) ({ frames := 1, cells := 0, slots := 0, locals := 60 } : Room) (va_Pc [e_rv B (x0), e_rv B (x1)] (fun U => e_PU D cA B S U)) (e_Qv D cA B S') 0 0 (e_A B) := by
  refine Met.ofW (cc := cX11_copyOf) (maxL := 3) (ret := none) (by decide +kernel) rfl ?_
  intro p e s m args below meth c s₁ Bd hml hv
  obtain ⟨rfl, hp⟩ := hv
  have hp : e_Pic D cA B S s s.heap := hp
  have hx := Bd.exec
  have hb := Bd.bytes
  have hrt := Bd.returns
  have hlk := Bd.notSynchronized
  have hown : s.vm.findClass RX11 = some m.cls := findClass_of_methodNamed Bd.named
  have hts : ∀ w ∈ e_tb, w.before ([e_rv B (x0), e_rv B (x1)] : List Value).toArray s = true := fun w h => atoms_spec (ws := (e_wu yX11_copyOf cX11_copyOf 3 none)) Bd.pre w (List.mem_cons_of_mem _ h)
  have E : e_En p s m ([e_rv B (x0), e_rv B (x1)] : List Value).toArray meth c cX11_copyOf RX11 3 none := ⟨hx, hb, hml, hown, hts, hlk, hrt⟩
  have hS : va_S (e_A B) s.heap s.heap [] := va_S.rf
  have hl := e_entry (vs := [e_rv B (x0), e_rv B (x1)]) (n := 3) (Nat.le_of_ble_eq_true rfl) (e_cc (e_rv_cat _ _) (e_cc (e_rv_cat _ _) e_cn))
  rw [lg_entry_eq]
  generalize (lg_sl [e_rv B (x0), e_rv B (x1)] ++ List.replicate (3 - (lg_sl [e_rv B (x0), e_rv B (x1)]).length) Slot.unset).toArray = ls at hl ⊢
  generalize ([e_rv B (x0), e_rv B (x1)] : List Value).toArray = args at hts E ⊢
  have hl : e_lo ls 3 [(0, e_rv B (x0)), (1, e_rv B (x1))] := hl
  have hsh := (gd_some hsh).2
  refine e_aload_n (B := B) (x := x1) hx hb dX11_copyOf_0 rfl (hl.at 1 rfl) ?_
  obtain ⟨v1, h1, hsh⟩ := Option.bind_eq_some_iff.mp hsh
  refine e_getR (k := 0) hx hb hts in_X11 hown hp h1 rfl (by decide) (by decide) rfl (hts _ kf11_9) rfl dX11_copyOf_1 ?_
  refine lv_iconst (v := iI (0)) hx hb dX11_copyOf_4 rfl ?_
  refine e_aload_n (B := B) (x := x0) hx hb dX11_copyOf_5 rfl (hl.at 0 rfl) ?_
  obtain ⟨v6, h6, hsh⟩ := Option.bind_eq_some_iff.mp hsh
  refine e_getR (k := 0) hx hb hts in_X11 hown hp h6 rfl (by decide) (by decide) rfl (hts _ kf11_9) rfl dX11_copyOf_6 ?_
  refine lv_iconst (v := iI (0)) hx hb dX11_copyOf_9 rfl ?_
  refine e_aload_n (B := B) (x := x0) hx hb dX11_copyOf_10 rfl (hl.at 0 rfl) ?_
  obtain ⟨v11, h11, hsh⟩ := Option.bind_eq_some_iff.mp hsh
  refine e_getR (k := 0) hx hb hts in_X11 hown hp h11 rfl (by decide) (by decide) rfl (hts _ kf11_9) rfl dX11_copyOf_11 ?_
  obtain ⟨v14, h14, hsh⟩ := Option.bind_eq_some_iff.mp hsh
  refine e_alen (t := 100) (t0 := 0) hx hb hp h14 (by decide) rfl dX11_copyOf_14 ?_
  obtain ⟨S15, h15, hsh⟩ := Option.bind_eq_some_iff.mp hsh
  refine e_copy (t := 100) (t0 := 0) (rest := []) hx hb (hml.trans hl.size.symm) hown hts kl11_47 kM_acn kM_acs kM_aci hp hS h15 (by decide) (by decide) (by decide) rfl rfl (by have h9 := hS.1; rw [hp.2.2.1] at h9; omega) (Nat.le_of_ble_eq_true rfl) (Nat.le_trans (Nat.add_le_add_right (show _ ≤ 8 by simp [e_rv_cat, e_int_cat]) _) (by decide +kernel)) dX11_copyOf_15 (fun H locs hp hS => ?_)
  refine e_aload_n (B := B) (x := x1) hx hb dX11_copyOf_18 rfl (hl.at 1 rfl) ?_
  obtain ⟨v19, h19, hsh⟩ := Option.bind_eq_some_iff.mp hsh
  refine e_getR (k := 1) hx hb hts in_X11 hown hp h19 rfl (by decide) (by decide) rfl (hts _ kf11_15) rfl dX11_copyOf_19 ?_
  refine lv_iconst (v := iI (0)) hx hb dX11_copyOf_22 rfl ?_
  refine e_aload_n (B := B) (x := x0) hx hb dX11_copyOf_23 rfl (hl.at 0 rfl) ?_
  obtain ⟨v24, h24, hsh⟩ := Option.bind_eq_some_iff.mp hsh
  refine e_getR (k := 1) hx hb hts in_X11 hown hp h24 rfl (by decide) (by decide) rfl (hts _ kf11_15) rfl dX11_copyOf_24 ?_
  refine lv_iconst (v := iI (0)) hx hb dX11_copyOf_27 rfl ?_
  refine e_aload_n (B := B) (x := x0) hx hb dX11_copyOf_28 rfl (hl.at 0 rfl) ?_
  obtain ⟨v29, h29, hsh⟩ := Option.bind_eq_some_iff.mp hsh
  refine e_getR (k := 1) hx hb hts in_X11 hown hp h29 rfl (by decide) (by decide) rfl (hts _ kf11_15) rfl dX11_copyOf_29 ?_
  obtain ⟨v32, h32, hsh⟩ := Option.bind_eq_some_iff.mp hsh
  refine e_alen (t := 101) (t0 := 1) hx hb hp h32 (by decide) rfl dX11_copyOf_32 ?_
  obtain ⟨S33, h33, hsh⟩ := Option.bind_eq_some_iff.mp hsh
  refine e_copy (t := 101) (t0 := 1) (rest := []) hx hb (hml.trans hl.size.symm) hown hts kl11_47 kM_acn kM_acs kM_aci hp hS h33 (by decide) (by decide) (by decide) rfl rfl (by have h9 := hS.1; rw [hp.2.2.1] at h9; omega) (Nat.le_of_ble_eq_true rfl) (Nat.le_trans (Nat.add_le_add_right (show _ ≤ 8 by simp [e_rv_cat, e_int_cat]) _) (by decide +kernel)) dX11_copyOf_33 (fun H locs hp hS => ?_)
  refine e_aload_n (B := B) (x := x0) hx hb dX11_copyOf_36 rfl (hl.at 0 rfl) ?_
  refine e_aload_n (B := B) (x := x1) hx hb dX11_copyOf_37 rfl (hl.at 1 rfl) ?_
  obtain ⟨v38, h38, hsh⟩ := Option.bind_eq_some_iff.mp hsh
  refine e_getI (k := 5) hx hb hts in_X11 hown hp h38 rfl (by decide) (by decide) rfl (hts _ kf11_26) rfl dX11_copyOf_38 ?_
  obtain ⟨S41, h41, hsh⟩ := Option.bind_eq_some_iff.mp hsh
  refine e_putI (k := 5) hx hb hts in_X11 tyX11 tyX11_ok nmX11 hown hp hS h41 rfl (by decide) (by decide) rfl (hts _ kf11_26) rfl rfl (by decide +kernel) dX11_copyOf_41 (fun H locs hp hS => ?_)
  refine lv_iconst (v := iI (0)) hx hb dX11_copyOf_44 rfl ?_
  refine e_istore_n (lv' := [(2, .int (iI (0))), (0, e_rv B (x0)), (1, e_rv B (x1))]) hx hb dX11_copyOf_45 rfl hl (by decide) rfl (fun ls hl => ?_)
  exact w11_copyOf_l46 E 1000000 hp hS (hl.sub [1, 0] rfl) hsh
theorem ok11_read {S : HP} {x0 : Int} {x1 : Int} {r : HP} (h : s11_read S x0 x1 = some r) : 0 ≤ x0 ∧ x0.toNat < e_n S ∧ e_g S x0.toNat = 11 := (gd_some h).1
set_option maxRecDepth 100000 in
set_option maxHeartbeats 4000000 in
theorem w11_read_l123 {p : Program} {l : Launch} {e : Env} {s : State} {m : MethodId} {args : Array Value} {below : List Frame} {meth : Method} {c : Code} {D : va_G} {cA : Nat → ClassId} {B : Nat} {res : HP} (E : e_En p s m args meth c cX11_read RX11 4 none) : ∀ (f : Nat) {ls : Array Slot} {H : Heap} {locs : List Loc} {S : HP} {x0 : Int} {x2 : Int} (hp : e_Pic D cA B S s H) (hS : va_S (e_A B) s.heap H locs) (hl : e_lo ls 4 [(0, e_rv B (x0)), (2, .int (iI (x2)))]) (hsh : s11_read_l123 f S x0 x2 = some res), W p l e ({ frames := 0, cells := 0, slots := 0, locals := 0 } : Room) s m args below meth c H locs 0 0 (MQ below (e_Qv D cA B res) args s 0 0 (e_A B)) (F0 m 123 ls []) := by
  obtain ⟨hx, hb, hml, hown, hts, hlk, hrt⟩ := id E
  intro f
  induction f with
  | zero => intro ls H locs S x0 x2 hp hS hl hsh; cases hsh
  | succ f ih =>
    intro ls H locs S x0 x2 hp hS hl hsh
    have hk123 : ∀ {ls : Array Slot} {H : Heap} {locs : List Loc} {S : HP} {x0 : Int} {x2 : Int} (hp : e_Pic D cA B S s H) (hS : va_S (e_A B) s.heap H locs) (hl : e_lo ls 4 [(0, e_rv B (x0)), (2, .int (iI (x2)))]) (hsh : (s11_read_l123 f) S x0 x2 = some res), W p l e ({ frames := 0, cells := 0, slots := 0, locals := 0 } : Room) s m args below meth c H locs 0 0 (MQ below (e_Qv D cA B res) args s 0 0 (e_A B)) (F0 m 123 ls []) := ih
    generalize hkk : s11_read_l123 f = k123 at hk123
    rw [s11_read_l123] at hsh
    rw [hkk] at hsh
    try dsimp only at hsh
    refine lv_iload_n hx hb dX11_read_123 rfl (hl.at 1 rfl) ?_
    refine e_aload_n (B := B) (x := x0) hx hb dX11_read_124 rfl (hl.at 0 rfl) ?_
    obtain ⟨v125, h125, hsh⟩ := Option.bind_eq_some_iff.mp hsh
    refine e_getI (k := 5) hx hb hts in_X11 hown hp h125 rfl (by decide) (by decide) rfl (hts _ kf11_26) rfl dX11_read_125 ?_
    refine e_icmp_ge (tgt := 157) hx hb dX11_read_128 (by decide) (fun c128 => ?_) (fun c128 => ?_)
    · rw [if_pos c128] at hsh
      cases hsh
      exact e_vret hx hb hrt hlk hp hS dX11_read_157
    · rw [if_neg c128] at hsh
      refine e_aload_n (B := B) (x := x0) hx hb dX11_read_131 rfl (hl.at 0 rfl) ?_
      refine lv_dup hx hb dX11_read_132 (e_rv_cat _ _) ?_
      obtain ⟨v133, h133, hsh⟩ := Option.bind_eq_some_iff.mp hsh
      refine e_getI (k := 3) hx hb hts in_X11 hown hp h133 rfl (by decide) (by decide) rfl (hts _ kf11_22) rfl dX11_read_133 ?_
      refine lv_iconst (v := iI (1)) hx hb dX11_read_136 rfl ?_
      refine e_iadd hx hb dX11_read_137 ?_
      obtain ⟨S138, h138, hsh⟩ := Option.bind_eq_some_iff.mp hsh
      refine e_putI (k := 3) hx hb hts in_X11 tyX11 tyX11_ok nmX11 hown hp hS h138 rfl (by decide) (by decide) rfl (hts _ kf11_22) rfl rfl (by decide +kernel) dX11_read_138 (fun H locs hp hS => ?_)
      refine e_aload_n (B := B) (x := x0) hx hb dX11_read_141 rfl (hl.at 0 rfl) ?_
      obtain ⟨v142, h142, hsh⟩ := Option.bind_eq_some_iff.mp hsh
      refine e_getR (k := 2) hx hb hts in_X11 hown hp h142 rfl (by decide) (by decide) rfl (hts _ kf11_19) rfl dX11_read_142 ?_
      refine lv_iload_n hx hb dX11_read_145 rfl (hl.at 1 rfl) ?_
      refine e_aload_n (B := B) (x := x0) hx hb dX11_read_146 rfl (hl.at 0 rfl) ?_
      obtain ⟨v147, h147, hsh⟩ := Option.bind_eq_some_iff.mp hsh
      refine e_getI (k := 3) hx hb hts in_X11 hown hp h147 rfl (by decide) (by decide) rfl (hts _ kf11_22) rfl dX11_read_147 ?_
      obtain ⟨S150, h150, hsh⟩ := Option.bind_eq_some_iff.mp hsh
      refine e_iast hx hb hp hS h150 dX11_read_150 (fun H locs hp hS => ?_)
      refine e_iinc (n := 1) (x := x2) (lv' := [(2, .int (iI ((x2 + 1)))), (0, e_rv B (x0))]) hx hb dX11_read_151 hl (k := 1) rfl (by decide) rfl (fun ls hl => ?_)
      refine lv_goto (tgt := 123) hx hb dX11_read_154 (by decide) ?_
      exact hk123 hp hS (hl.sub [1, 0] rfl) hsh
set_option maxRecDepth 100000 in
set_option maxHeartbeats 4000000 in
theorem w11_read_b115 {p : Program} {l : Launch} {e : Env} {s : State} {m : MethodId} {args : Array Value} {below : List Frame} {meth : Method} {c : Code} {D : va_G} {cA : Nat → ClassId} {B : Nat} {res : HP} {k14 : HP → Int → Int → Int → Option (HP)} (hk14 : ∀ {ls : Array Slot} {H : Heap} {locs : List Loc} {S : HP} {x0 : Int} {x1 : Int} {x2 : Int} (hp : e_Pic D cA B S s H) (hS : va_S (e_A B) s.heap H locs) (hl : e_lo ls 4 [(0, e_rv B (x0)), (1, e_rv B (x1)), (2, .int (iI (x2)))]) (hsh : k14 S x0 x1 x2 = some res), W p l e ({ frames := 0, cells := 0, slots := 0, locals := 0 } : Room) s m args below meth c H locs 0 0 (MQ below (e_Qv D cA B res) args s 0 0 (e_A B)) (F0 m 14 ls [])) (E : e_En p s m args meth c cX11_read RX11 4 none) {ls : Array Slot} {H : Heap} {locs : List Loc} {S : HP} {x0 : Int} {x1 : Int} {x2 : Int} (hp : e_Pic D cA B S s H) (hS : va_S (e_A B) s.heap H locs) (hl : e_lo ls 4 [(0, e_rv B (x0)), (1, e_rv B (x1)), (2, .int (iI (x2)))]) (hsh : s11_read_b115 k14 S x0 x1 x2 = some res) : W p l e ({ frames := 0, cells := 0, slots := 0, locals := 0 } : Room) s m args below meth c H locs 0 0 (MQ below (e_Qv D cA B res) args s 0 0 (e_A B)) (F0 m 115 ls []) := by
  obtain ⟨hx, hb, hml, hown, hts, hlk, hrt⟩ := id E
  unfold s11_read_b115 at hsh
  refine e_iinc (n := 1) (x := x2) (lv' := [(2, .int (iI ((x2 + 1)))), (0, e_rv B (x0)), (1, e_rv B (x1))]) hx hb dX11_read_115 hl (k := 2) rfl (by decide) rfl (fun ls hl => ?_)
  refine lv_goto (tgt := 14) hx hb dX11_read_118 (by decide) ?_
  exact hk14 hp hS (hl.sub [1, 2, 0] rfl) hsh
set_option maxRecDepth 100000 in
set_option maxHeartbeats 4000000 in
theorem w11_read_b72 {p : Program} {l : Launch} {e : Env} {s : State} {m : MethodId} {args : Array Value} {below : List Frame} {meth : Method} {c : Code} {D : va_G} {cA : Nat → ClassId} {B : Nat} {res : HP} {k14 : HP → Int → Int → Int → Option (HP)} (hk14 : ∀ {ls : Array Slot} {H : Heap} {locs : List Loc} {S : HP} {x0 : Int} {x1 : Int} {x2 : Int} (hp : e_Pic D cA B S s H) (hS : va_S (e_A B) s.heap H locs) (hl : e_lo ls 4 [(0, e_rv B (x0)), (1, e_rv B (x1)), (2, .int (iI (x2)))]) (hsh : k14 S x0 x1 x2 = some res), W p l e ({ frames := 0, cells := 0, slots := 0, locals := 0 } : Room) s m args below meth c H locs 0 0 (MQ below (e_Qv D cA B res) args s 0 0 (e_A B)) (F0 m 14 ls [])) (E : e_En p s m args meth c cX11_read RX11 4 none) {ls : Array Slot} {H : Heap} {locs : List Loc} {S : HP} {x0 : Int} {x1 : Int} {x2 : Int} {x3 : Int} (hp : e_Pic D cA B S s H) (hS : va_S (e_A B) s.heap H locs) (hl : e_lo ls 4 [(0, e_rv B (x0)), (1, e_rv B (x1)), (2, .int (iI (x2))), (3, .int (iI (x3)))]) (hsh : s11_read_b72 k14 S x0 x1 x2 x3 = some res) : W p l e ({ frames := 0, cells := 0, slots := 0, locals := 0 } : Room) s m args below meth c H locs 0 0 (MQ below (e_Qv D cA B res) args s 0 0 (e_A B)) (F0 m 72 ls []) := by
  obtain ⟨hx, hb, hml, hown, hts, hlk, hrt⟩ := id E
  unfold s11_read_b72 at hsh
  refine e_aload_n (B := B) (x := x0) hx hb dX11_read_72 rfl (hl.at 0 rfl) ?_
  obtain ⟨v73, h73, hsh⟩ := Option.bind_eq_some_iff.mp hsh
  refine e_getR (k := 1) hx hb hts in_X11 hown hp h73 rfl (by decide) (by decide) rfl (hts _ kf11_15) rfl dX11_read_73 ?_
  refine lv_iload_n hx hb dX11_read_76 rfl (hl.at 3 rfl) ?_
  obtain ⟨v77, h77, hsh⟩ := Option.bind_eq_some_iff.mp hsh
  refine e_iald hx hb hp h77 dX11_read_77 ?_
  refine lv_bipush (v := iI (60)) hx hb dX11_read_78 (by decide +kernel) ?_
  refine e_icmp_ge (tgt := 115) hx hb dX11_read_80 (by decide) (fun c80 => ?_) (fun c80 => ?_)
  · rw [if_pos c80] at hsh
    exact w11_read_b115 (hk14 := hk14) E hp hS (hl.sub [0, 1, 2] rfl) hsh
  · rw [if_neg c80] at hsh
    refine e_aload_n (B := B) (x := x0) hx hb dX11_read_83 rfl (hl.at 0 rfl) ?_
    obtain ⟨v84, h84, hsh⟩ := Option.bind_eq_some_iff.mp hsh
    refine e_getR (k := 0) hx hb hts in_X11 hown hp h84 rfl (by decide) (by decide) rfl (hts _ kf11_9) rfl dX11_read_84 ?_
    refine lv_iload_n hx hb dX11_read_87 rfl (hl.at 3 rfl) ?_
    refine lv_bipush (v := iI (60)) hx hb dX11_read_88 (by decide +kernel) ?_
    refine e_imul hx hb dX11_read_90 ?_
    refine e_aload_n (B := B) (x := x0) hx hb dX11_read_91 rfl (hl.at 0 rfl) ?_
    obtain ⟨v92, h92, hsh⟩ := Option.bind_eq_some_iff.mp hsh
    refine e_getR (k := 1) hx hb hts in_X11 hown hp h92 rfl (by decide) (by decide) rfl (hts _ kf11_15) rfl dX11_read_92 ?_
    refine lv_iload_n hx hb dX11_read_95 rfl (hl.at 3 rfl) ?_
    obtain ⟨v96, h96, hsh⟩ := Option.bind_eq_some_iff.mp hsh
    refine e_iald hx hb hp h96 dX11_read_96 ?_
    refine e_iadd hx hb dX11_read_97 ?_
    refine e_aload_n (B := B) (x := x1) hx hb dX11_read_98 rfl (hl.at 1 rfl) ?_
    obtain ⟨v99, h99, hsh⟩ := Option.bind_eq_some_iff.mp hsh
    refine e_getR (k := 0) hx hb hts in_X10 hown hp h99 rfl (by decide) (by decide) rfl (hts _ kf11_58) rfl dX11_read_99 ?_
    refine lv_iload_n hx hb dX11_read_102 rfl (hl.at 2 rfl) ?_
    obtain ⟨v103, h103, hsh⟩ := Option.bind_eq_some_iff.mp hsh
    refine e_cald hx hb hp h103 dX11_read_103 ?_
    obtain ⟨S104, h104, hsh⟩ := Option.bind_eq_some_iff.mp hsh
    refine e_cast hx hb hp hS h104 dX11_read_104 (fun H locs hp hS => ?_)
    refine e_aload_n (B := B) (x := x0) hx hb dX11_read_105 rfl (hl.at 0 rfl) ?_
    obtain ⟨v106, h106, hsh⟩ := Option.bind_eq_some_iff.mp hsh
    refine e_getR (k := 1) hx hb hts in_X11 hown hp h106 rfl (by decide) (by decide) rfl (hts _ kf11_15) rfl dX11_read_106 ?_
    refine lv_iload_n hx hb dX11_read_109 rfl (hl.at 3 rfl) ?_
    refine lv_dup2_11 hx hb dX11_read_110 rfl (e_rv_cat _ _) ?_
    obtain ⟨v111, h111, hsh⟩ := Option.bind_eq_some_iff.mp hsh
    refine e_iald hx hb hp h111 dX11_read_111 ?_
    refine lv_iconst (v := iI (1)) hx hb dX11_read_112 rfl ?_
    refine e_iadd hx hb dX11_read_113 ?_
    obtain ⟨S114, h114, hsh⟩ := Option.bind_eq_some_iff.mp hsh
    refine e_iast hx hb hp hS h114 dX11_read_114 (fun H locs hp hS => ?_)
    exact w11_read_b115 (hk14 := hk14) E hp hS (hl.sub [0, 1, 2] rfl) hsh
set_option maxRecDepth 100000 in
set_option maxHeartbeats 4000000 in
theorem w11_read_l14 {p : Program} {l : Launch} {e : Env} {s : State} {m : MethodId} {args : Array Value} {below : List Frame} {meth : Method} {c : Code} {D : va_G} {cA : Nat → ClassId} {B : Nat} {res : HP} (E : e_En p s m args meth c cX11_read RX11 4 none) : ∀ (f : Nat) {ls : Array Slot} {H : Heap} {locs : List Loc} {S : HP} {x0 : Int} {x1 : Int} {x2 : Int} (hp : e_Pic D cA B S s H) (hS : va_S (e_A B) s.heap H locs) (hl : e_lo ls 4 [(0, e_rv B (x0)), (1, e_rv B (x1)), (2, .int (iI (x2)))]) (hsh : s11_read_l14 f S x0 x1 x2 = some res), W p l e ({ frames := 0, cells := 0, slots := 0, locals := 0 } : Room) s m args below meth c H locs 0 0 (MQ below (e_Qv D cA B res) args s 0 0 (e_A B)) (F0 m 14 ls []) := by
  obtain ⟨hx, hb, hml, hown, hts, hlk, hrt⟩ := id E
  intro f
  induction f with
  | zero => intro ls H locs S x0 x1 x2 hp hS hl hsh; cases hsh
  | succ f ih =>
    intro ls H locs S x0 x1 x2 hp hS hl hsh
    have hk14 : ∀ {ls : Array Slot} {H : Heap} {locs : List Loc} {S : HP} {x0 : Int} {x1 : Int} {x2 : Int} (hp : e_Pic D cA B S s H) (hS : va_S (e_A B) s.heap H locs) (hl : e_lo ls 4 [(0, e_rv B (x0)), (1, e_rv B (x1)), (2, .int (iI (x2)))]) (hsh : (s11_read_l14 f) S x0 x1 x2 = some res), W p l e ({ frames := 0, cells := 0, slots := 0, locals := 0 } : Room) s m args below meth c H locs 0 0 (MQ below (e_Qv D cA B res) args s 0 0 (e_A B)) (F0 m 14 ls []) := ih
    generalize hkk : s11_read_l14 f = k14 at hk14
    rw [s11_read_l14] at hsh
    rw [hkk] at hsh
    try dsimp only at hsh
    refine lv_iload_n hx hb dX11_read_14 rfl (hl.at 2 rfl) ?_
    refine e_aload_n (B := B) (x := x1) hx hb dX11_read_15 rfl (hl.at 1 rfl) ?_
    obtain ⟨v16, h16, hsh⟩ := Option.bind_eq_some_iff.mp hsh
    refine e_getI (k := 1) hx hb hts in_X10 hown hp h16 rfl (by decide) (by decide) rfl (hts _ kf11_53) rfl dX11_read_16 ?_
    refine e_icmp_ge (tgt := 121) hx hb dX11_read_19 (by decide) (fun c19 => ?_) (fun c19 => ?_)
    · rw [if_pos c19] at hsh
      refine lv_iconst (v := iI (0)) hx hb dX11_read_121 rfl ?_
      refine e_istore_n (lv' := [(2, .int (iI (0))), (0, e_rv B (x0)), (1, e_rv B (x1))]) hx hb dX11_read_122 rfl hl (by decide) rfl (fun ls hl => ?_)
      exact w11_read_l123 E 1000000 hp hS (hl.sub [1, 0] rfl) hsh
    · rw [if_neg c19] at hsh
      refine e_aload_n (B := B) (x := x0) hx hb dX11_read_22 rfl (hl.at 0 rfl) ?_
      obtain ⟨v23, h23, hsh⟩ := Option.bind_eq_some_iff.mp hsh
      refine e_getI (k := 5) hx hb hts in_X11 hown hp h23 rfl (by decide) (by decide) rfl (hts _ kf11_26) rfl dX11_read_23 ?_
      refine lv_iconst (v := iI (1)) hx hb dX11_read_26 rfl ?_
      refine e_isub hx hb dX11_read_27 ?_
      refine e_istore_n (lv' := [(3, .int (iI ((v23 - 1)))), (0, e_rv B (x0)), (1, e_rv B (x1)), (2, .int (iI (x2)))]) hx hb dX11_read_28 rfl hl (by decide) rfl (fun ls hl => ?_)
      refine e_aload_n (B := B) (x := x1) hx hb dX11_read_29 rfl (hl.at 2 rfl) ?_
      obtain ⟨v30, h30, hsh⟩ := Option.bind_eq_some_iff.mp hsh
      refine e_getR (k := 0) hx hb hts in_X10 hown hp h30 rfl (by decide) (by decide) rfl (hts _ kf11_58) rfl dX11_read_30 ?_
      refine lv_iload_n hx hb dX11_read_33 rfl (hl.at 3 rfl) ?_
      obtain ⟨v34, h34, hsh⟩ := Option.bind_eq_some_iff.mp hsh
      refine e_cald hx hb hp h34 dX11_read_34 ?_
      refine lv_bipush (v := iI (10)) hx hb dX11_read_35 (by decide +kernel) ?_
      refine e_icmp_ne (tgt := 72) hx hb dX11_read_37 (by decide) (fun c37 => ?_) (fun c37 => ?_)
      · rw [if_neg c37] at hsh
        exact w11_read_b72 (hk14 := hk14) E hp hS (hl.sub [1, 2, 3, 0] rfl) hsh
      · rw [if_pos c37] at hsh
        refine e_aload_n (B := B) (x := x0) hx hb dX11_read_40 rfl (hl.at 1 rfl) ?_
        obtain ⟨v41, h41, hsh⟩ := Option.bind_eq_some_iff.mp hsh
        refine e_getI (k := 5) hx hb hts in_X11 hown hp h41 rfl (by decide) (by decide) rfl (hts _ kf11_26) rfl dX11_read_41 ?_
        refine lv_bipush (v := iI (40)) hx hb dX11_read_44 (by decide +kernel) ?_
        refine e_icmp_ge (tgt := 72) hx hb dX11_read_46 (by decide) (fun c46 => ?_) (fun c46 => ?_)
        · rw [if_pos c46] at hsh
          exact w11_read_b72 (hk14 := hk14) E hp hS (hl.sub [1, 2, 3, 0] rfl) hsh
        · rw [if_neg c46] at hsh
          refine e_aload_n (B := B) (x := x0) hx hb dX11_read_49 rfl (hl.at 1 rfl) ?_
          obtain ⟨v50, h50, hsh⟩ := Option.bind_eq_some_iff.mp hsh
          refine e_getR (k := 1) hx hb hts in_X11 hown hp h50 rfl (by decide) (by decide) rfl (hts _ kf11_15) rfl dX11_read_50 ?_
          refine e_aload_n (B := B) (x := x0) hx hb dX11_read_53 rfl (hl.at 1 rfl) ?_
          obtain ⟨v54, h54, hsh⟩ := Option.bind_eq_some_iff.mp hsh
          refine e_getI (k := 5) hx hb hts in_X11 hown hp h54 rfl (by decide) (by decide) rfl (hts _ kf11_26) rfl dX11_read_54 ?_
          refine lv_iconst (v := iI (0)) hx hb dX11_read_57 rfl ?_
          obtain ⟨S58, h58, hsh⟩ := Option.bind_eq_some_iff.mp hsh
          refine e_iast hx hb hp hS h58 dX11_read_58 (fun H locs hp hS => ?_)
          refine e_aload_n (B := B) (x := x0) hx hb dX11_read_59 rfl (hl.at 1 rfl) ?_
          refine lv_dup hx hb dX11_read_60 (e_rv_cat _ _) ?_
          obtain ⟨v61, h61, hsh⟩ := Option.bind_eq_some_iff.mp hsh
          refine e_getI (k := 5) hx hb hts in_X11 hown hp h61 rfl (by decide) (by decide) rfl (hts _ kf11_26) rfl dX11_read_61 ?_
          refine lv_iconst (v := iI (1)) hx hb dX11_read_64 rfl ?_
          refine e_iadd hx hb dX11_read_65 ?_
          obtain ⟨S66, h66, hsh⟩ := Option.bind_eq_some_iff.mp hsh
          refine e_putI (k := 5) hx hb hts in_X11 tyX11 tyX11_ok nmX11 hown hp hS h66 rfl (by decide) (by decide) rfl (hts _ kf11_26) rfl rfl (by decide +kernel) dX11_read_66 (fun H locs hp hS => ?_)
          refine lv_goto (tgt := 115) hx hb dX11_read_69 (by decide) ?_
          exact w11_read_b115 (hk14 := hk14) E hp hS (hl.sub [1, 2, 3] rfl) hsh
set_option maxRecDepth 100000 in
set_option maxHeartbeats 4000000 in
theorem c11_read (l : Launch) (D : va_G) (cA : Nat → ClassId) (B : Nat) (S S' : HP) (x0 : Int) (x1 : Int) (hsh : s11_read S x0 x1 = some S') : Met l yX11_read (e_wu yX11_read cX11_read 4 none) ({ frames := 0, cells := 0, slots := 0, locals := 0 } : Room) (va_Pc [e_rv B (x0), e_rv B (x1)] (fun U => e_PU D cA B S U)) (e_Qv D cA B S') 0 0 (e_A B) := by
  refine Met.ofW (cc := cX11_read) (maxL := 4) (ret := none) (by decide +kernel) rfl ?_
  intro p e s m args below meth c s₁ Bd hml hv
  obtain ⟨rfl, hp⟩ := hv
  have hp : e_Pic D cA B S s s.heap := hp
  have hx := Bd.exec
  have hb := Bd.bytes
  have hrt := Bd.returns
  have hlk := Bd.notSynchronized
  have hown : s.vm.findClass RX11 = some m.cls := findClass_of_methodNamed Bd.named
  have hts : ∀ w ∈ e_tb, w.before ([e_rv B (x0), e_rv B (x1)] : List Value).toArray s = true := fun w h => atoms_spec (ws := (e_wu yX11_read cX11_read 4 none)) Bd.pre w (List.mem_cons_of_mem _ h)
  have E : e_En p s m ([e_rv B (x0), e_rv B (x1)] : List Value).toArray meth c cX11_read RX11 4 none := ⟨hx, hb, hml, hown, hts, hlk, hrt⟩
  have hS : va_S (e_A B) s.heap s.heap [] := va_S.rf
  have hl := e_entry (vs := [e_rv B (x0), e_rv B (x1)]) (n := 4) (Nat.le_of_ble_eq_true rfl) (e_cc (e_rv_cat _ _) (e_cc (e_rv_cat _ _) e_cn))
  rw [lg_entry_eq]
  generalize (lg_sl [e_rv B (x0), e_rv B (x1)] ++ List.replicate (4 - (lg_sl [e_rv B (x0), e_rv B (x1)]).length) Slot.unset).toArray = ls at hl ⊢
  generalize ([e_rv B (x0), e_rv B (x1)] : List Value).toArray = args at hts E ⊢
  have hl : e_lo ls 4 [(0, e_rv B (x0)), (1, e_rv B (x1))] := hl
  have hsh := (gd_some hsh).2
  refine e_aload_n (B := B) (x := x0) hx hb dX11_read_0 rfl (hl.at 0 rfl) ?_
  refine lv_iconst (v := iI (1)) hx hb dX11_read_1 rfl ?_
  obtain ⟨S2, h2, hsh⟩ := Option.bind_eq_some_iff.mp hsh
  refine e_putI (k := 5) hx hb hts in_X11 tyX11 tyX11_ok nmX11 hown hp hS h2 rfl (by decide) (by decide) rfl (hts _ kf11_26) rfl rfl (by decide +kernel) dX11_read_2 (fun H locs hp hS => ?_)
  refine e_aload_n (B := B) (x := x0) hx hb dX11_read_5 rfl (hl.at 0 rfl) ?_
  obtain ⟨v6, h6, hsh⟩ := Option.bind_eq_some_iff.mp hsh
  refine e_getR (k := 1) hx hb hts in_X11 hown hp h6 rfl (by decide) (by decide) rfl (hts _ kf11_15) rfl dX11_read_6 ?_
  refine lv_iconst (v := iI (0)) hx hb dX11_read_9 rfl ?_
  refine lv_iconst (v := iI (0)) hx hb dX11_read_10 rfl ?_
  obtain ⟨S11, h11, hsh⟩ := Option.bind_eq_some_iff.mp hsh
  refine e_iast hx hb hp hS h11 dX11_read_11 (fun H locs hp hS => ?_)
  refine lv_iconst (v := iI (0)) hx hb dX11_read_12 rfl ?_
  refine e_istore_n (lv' := [(2, .int (iI (0))), (0, e_rv B (x0)), (1, e_rv B (x1))]) hx hb dX11_read_13 rfl hl (by decide) rfl (fun ls hl => ?_)
  exact w11_read_l14 E 1000000 hp hS (hl.sub [1, 2, 0] rfl) hsh
theorem ok11_openLines {S : HP} {x0 : Int} {x1 : Int} {x2 : Int} {r : HP} (h : s11_openLines S x0 x1 x2 = some r) : 0 ≤ x0 ∧ x0.toNat < e_n S ∧ e_g S x0.toNat = 11 := (gd_some h).1
set_option maxRecDepth 100000 in
set_option maxHeartbeats 4000000 in
theorem w11_openLines_b28 {p : Program} {l : Launch} {e : Env} {s : State} {m : MethodId} {args : Array Value} {below : List Frame} {meth : Method} {c : Code} {D : va_G} {cA : Nat → ClassId} {B : Nat} {res : HP} (E : e_En p s m args meth c cX11_openLines RX11 5 none) {ls : Array Slot} {H : Heap} {locs : List Loc} {S : HP} (hp : e_Pic D cA B S s H) (hS : va_S (e_A B) s.heap H locs) (hl : e_lo ls 5 []) (hsh : s11_openLines_b28 S  = some res) : W p l e ({ frames := 1, cells := 0, slots := 0, locals := 60 } : Room) s m args below meth c H locs 0 0 (MQ below (e_Qv D cA B res) args s 0 0 (e_A B)) (F0 m 28 ls []) := by
  obtain ⟨hx, hb, hml, hown, hts, hlk, hrt⟩ := id E
  unfold s11_openLines_b28 at hsh
  cases hsh
  exact e_vret hx hb hrt hlk hp hS dX11_openLines_28
set_option maxRecDepth 100000 in
set_option maxHeartbeats 4000000 in
theorem w11_openLines_b165 {p : Program} {l : Launch} {e : Env} {s : State} {m : MethodId} {args : Array Value} {below : List Frame} {meth : Method} {c : Code} {D : va_G} {cA : Nat → ClassId} {B : Nat} {res : HP} (E : e_En p s m args meth c cX11_openLines RX11 5 none) {ls : Array Slot} {H : Heap} {locs : List Loc} {S : HP} (hp : e_Pic D cA B S s H) (hS : va_S (e_A B) s.heap H locs) (hl : e_lo ls 5 []) (hsh : s11_openLines_b165 S  = some res) : W p l e ({ frames := 1, cells := 0, slots := 0, locals := 60 } : Room) s m args below meth c H locs 0 0 (MQ below (e_Qv D cA B res) args s 0 0 (e_A B)) (F0 m 165 ls []) := by
  obtain ⟨hx, hb, hml, hown, hts, hlk, hrt⟩ := id E
  unfold s11_openLines_b165 at hsh
  cases hsh
  exact e_vret hx hb hrt hlk hp hS dX11_openLines_165
set_option maxRecDepth 100000 in
set_option maxHeartbeats 4000000 in
theorem w11_openLines_l96 {p : Program} {l : Launch} {e : Env} {s : State} {m : MethodId} {args : Array Value} {below : List Frame} {meth : Method} {c : Code} {D : va_G} {cA : Nat → ClassId} {B : Nat} {res : HP} (E : e_En p s m args meth c cX11_openLines RX11 5 none) : ∀ (f : Nat) {ls : Array Slot} {H : Heap} {locs : List Loc} {S : HP} {x0 : Int} {x1 : Int} {x2 : Int} {x4 : Int} (hp : e_Pic D cA B S s H) (hS : va_S (e_A B) s.heap H locs) (hl : e_lo ls 5 [(0, e_rv B (x0)), (1, .int (iI (x1))), (2, .int (iI (x2))), (4, .int (iI (x4)))]) (hsh : s11_openLines_l96 f S x0 x1 x2 x4 = some res), W p l e ({ frames := 1, cells := 0, slots := 0, locals := 60 } : Room) s m args below meth c H locs 0 0 (MQ below (e_Qv D cA B res) args s 0 0 (e_A B)) (F0 m 96 ls []) := by
  obtain ⟨hx, hb, hml, hown, hts, hlk, hrt⟩ := id E
  intro f
  induction f with
  | zero => intro ls H locs S x0 x1 x2 x4 hp hS hl hsh; cases hsh
  | succ f ih =>
    intro ls H locs S x0 x1 x2 x4 hp hS hl hsh
    have hk96 : ∀ {ls : Array Slot} {H : Heap} {locs : List Loc} {S : HP} {x0 : Int} {x1 : Int} {x2 : Int} {x4 : Int} (hp : e_Pic D cA B S s H) (hS : va_S (e_A B) s.heap H locs) (hl : e_lo ls 5 [(0, e_rv B (x0)), (1, .int (iI (x1))), (2, .int (iI (x2))), (4, .int (iI (x4)))]) (hsh : (s11_openLines_l96 f) S x0 x1 x2 x4 = some res), W p l e ({ frames := 1, cells := 0, slots := 0, locals := 60 } : Room) s m args below meth c H locs 0 0 (MQ below (e_Qv D cA B res) args s 0 0 (e_A B)) (F0 m 96 ls []) := ih
    generalize hkk : s11_openLines_l96 f = k96 at hk96
    rw [s11_openLines_l96] at hsh
    rw [hkk] at hsh
    try dsimp only at hsh
    refine lv_iload hx hb dX11_openLines_96 (hl.at 3 rfl) ?_
    refine lv_iload_n hx hb dX11_openLines_98 rfl (hl.at 1 rfl) ?_
    refine lv_iload_n hx hb dX11_openLines_99 rfl (hl.at 2 rfl) ?_
    refine e_iadd hx hb dX11_openLines_100 ?_
    refine e_icmp_ge (tgt := 139) hx hb dX11_openLines_101 (by decide) (fun c101 => ?_) (fun c101 => ?_)
    · rw [if_pos c101] at hsh
      refine e_aload_n (B := B) (x := x0) hx hb dX11_openLines_139 rfl (hl.at 0 rfl) ?_
      refine lv_dup hx hb dX11_openLines_140 (e_rv_cat _ _) ?_
      obtain ⟨v141, h141, hsh⟩ := Option.bind_eq_some_iff.mp hsh
      refine e_getI (k := 5) hx hb hts in_X11 hown hp h141 rfl (by decide) (by decide) rfl (hts _ kf11_26) rfl dX11_openLines_141 ?_
      refine lv_iload_n hx hb dX11_openLines_144 rfl (hl.at 2 rfl) ?_
      refine e_iadd hx hb dX11_openLines_145 ?_
      obtain ⟨S146, h146, hsh⟩ := Option.bind_eq_some_iff.mp hsh
      refine e_putI (k := 5) hx hb hts in_X11 tyX11 tyX11_ok nmX11 hown hp hS h146 rfl (by decide) (by decide) rfl (hts _ kf11_26) rfl rfl (by decide +kernel) dX11_openLines_146 (fun H locs hp hS => ?_)
      refine e_aload_n (B := B) (x := x0) hx hb dX11_openLines_149 rfl (hl.at 0 rfl) ?_
      obtain ⟨v150, h150, hsh⟩ := Option.bind_eq_some_iff.mp hsh
      refine e_getR (k := 4) hx hb hts in_X11 hown hp h150 rfl (by decide) (by decide) rfl (hts _ kf11_29) rfl dX11_openLines_150 ?_
      refine e_ifnull (tgt := 165) hx hb dX11_openLines_153 (by decide) (fun c153 => ?_) (fun c153 => ?_)
      · rw [if_pos c153] at hsh
        exact w11_openLines_b165 E hp hS (hl.sub [] rfl) hsh
      · rw [if_neg c153] at hsh
        refine e_aload_n (B := B) (x := x0) hx hb dX11_openLines_156 rfl (hl.at 0 rfl) ?_
        obtain ⟨v157, h157, hsh⟩ := Option.bind_eq_some_iff.mp hsh
        refine e_getR (k := 4) hx hb hts in_X11 hown hp h157 rfl (by decide) (by decide) rfl (hts _ kf11_29) rfl dX11_openLines_157 ?_
        refine lv_iload_n hx hb dX11_openLines_160 rfl (hl.at 1 rfl) ?_
        refine lv_iload_n hx hb dX11_openLines_161 rfl (hl.at 2 rfl) ?_
        obtain ⟨S162, h162, hsh⟩ := Option.bind_eq_some_iff.mp hsh
        have ok162 := ok6_linesPut h162
        refine e_callV (nL := 5) (mc := 0) (ms := 0) (T := TX6) (N := 16) (As := [.int (iI (x1)), .int (iI (x2))]) (rest := []) hx hb hml hown hts hp hS hl.size ok162.1 ok162.2.1 ok162.2.2 rfl (by decide) (c6_linesPut l D cA B S146 S162 (v157) (x1) (x2) h162) rfl rfl kd6_linesPut (kl11_61) ks6_linesPut kv6_linesPut ki6 kh6_linesPut ⟨Nat.le_of_ble_eq_true rfl, Nat.le_of_ble_eq_true rfl⟩ rfl (by simp [e_rv_cat, e_int_cat]) ⟨Nat.le_refl _, Nat.le_refl _⟩ dX11_openLines_162 rfl (fun H locs hp hS => ?_)
        exact w11_openLines_b165 E hp hS (hl.sub [] rfl) hsh
    · rw [if_neg c101] at hsh
      refine e_aload_n (B := B) (x := x0) hx hb dX11_openLines_104 rfl (hl.at 0 rfl) ?_
      obtain ⟨v105, h105, hsh⟩ := Option.bind_eq_some_iff.mp hsh
      refine e_getR (k := 1) hx hb hts in_X11 hown hp h105 rfl (by decide) (by decide) rfl (hts _ kf11_15) rfl dX11_openLines_105 ?_
      refine lv_iload hx hb dX11_openLines_108 (hl.at 3 rfl) ?_
      refine lv_iconst (v := iI (0)) hx hb dX11_openLines_110 rfl ?_
      obtain ⟨S111, h111, hsh⟩ := Option.bind_eq_some_iff.mp hsh
      refine e_iast hx hb hp hS h111 dX11_openLines_111 (fun H locs hp hS => ?_)
      refine e_aload_n (B := B) (x := x0) hx hb dX11_openLines_112 rfl (hl.at 0 rfl) ?_
      refine lv_dup hx hb dX11_openLines_113 (e_rv_cat _ _) ?_
      obtain ⟨v114, h114, hsh⟩ := Option.bind_eq_some_iff.mp hsh
      refine e_getI (k := 3) hx hb hts in_X11 hown hp h114 rfl (by decide) (by decide) rfl (hts _ kf11_22) rfl dX11_openLines_114 ?_
      refine lv_iconst (v := iI (1)) hx hb dX11_openLines_117 rfl ?_
      refine e_iadd hx hb dX11_openLines_118 ?_
      obtain ⟨S119, h119, hsh⟩ := Option.bind_eq_some_iff.mp hsh
      refine e_putI (k := 3) hx hb hts in_X11 tyX11 tyX11_ok nmX11 hown hp hS h119 rfl (by decide) (by decide) rfl (hts _ kf11_22) rfl rfl (by decide +kernel) dX11_openLines_119 (fun H locs hp hS => ?_)
      refine e_aload_n (B := B) (x := x0) hx hb dX11_openLines_122 rfl (hl.at 0 rfl) ?_
      obtain ⟨v123, h123, hsh⟩ := Option.bind_eq_some_iff.mp hsh
      refine e_getR (k := 2) hx hb hts in_X11 hown hp h123 rfl (by decide) (by decide) rfl (hts _ kf11_19) rfl dX11_openLines_123 ?_
      refine lv_iload hx hb dX11_openLines_126 (hl.at 3 rfl) ?_
      refine e_aload_n (B := B) (x := x0) hx hb dX11_openLines_128 rfl (hl.at 0 rfl) ?_
      obtain ⟨v129, h129, hsh⟩ := Option.bind_eq_some_iff.mp hsh
      refine e_getI (k := 3) hx hb hts in_X11 hown hp h129 rfl (by decide) (by decide) rfl (hts _ kf11_22) rfl dX11_openLines_129 ?_
      obtain ⟨S132, h132, hsh⟩ := Option.bind_eq_some_iff.mp hsh
      refine e_iast hx hb hp hS h132 dX11_openLines_132 (fun H locs hp hS => ?_)
      refine e_iinc (n := 1) (x := x4) (lv' := [(4, .int (iI ((x4 + 1)))), (0, e_rv B (x0)), (1, .int (iI (x1))), (2, .int (iI (x2)))]) hx hb dX11_openLines_133 hl (k := 3) rfl (by decide) rfl (fun ls hl => ?_)
      refine lv_goto (tgt := 96) hx hb dX11_openLines_136 (by decide) ?_
      exact hk96 hp hS (hl.sub [1, 2, 3, 0] rfl) hsh
set_option maxRecDepth 100000 in
set_option maxHeartbeats 4000000 in
theorem c11_openLines (l : Launch) (D : va_G) (cA : Nat → ClassId) (B : Nat) (S S' : HP) (x0 : Int) (x1 : Int) (x2 : Int) (hsh : s11_openLines S x0 x1 x2 = some S') : Met l yX11_openLines (e_wu yX11_openLines cX11_openLines 5 none) ({ frames := 1, cells := 0, slots := 0, locals := 60 } : Room) (va_Pc [e_rv B (x0), .int (iI (x1)), .int (iI (x2))] (fun U => e_PU D cA B S U)) (e_Qv D cA B S') 0 0 (e_A B) := by
  refine Met.ofW (cc := cX11_openLines) (maxL := 5) (ret := none) (by decide +kernel) rfl ?_
  intro p e s m args below meth c s₁ Bd hml hv
  obtain ⟨rfl, hp⟩ := hv
  have hp : e_Pic D cA B S s s.heap := hp
  have hx := Bd.exec
  have hb := Bd.bytes
  have hrt := Bd.returns
  have hlk := Bd.notSynchronized
  have hown : s.vm.findClass RX11 = some m.cls := findClass_of_methodNamed Bd.named
  have hts : ∀ w ∈ e_tb, w.before ([e_rv B (x0), .int (iI (x1)), .int (iI (x2))] : List Value).toArray s = true := fun w h => atoms_spec (ws := (e_wu yX11_openLines cX11_openLines 5 none)) Bd.pre w (List.mem_cons_of_mem _ h)
  have E : e_En p s m ([e_rv B (x0), .int (iI (x1)), .int (iI (x2))] : List Value).toArray meth c cX11_openLines RX11 5 none := ⟨hx, hb, hml, hown, hts, hlk, hrt⟩
  have hS : va_S (e_A B) s.heap s.heap [] := va_S.rf
  have hl := e_entry (vs := [e_rv B (x0), .int (iI (x1)), .int (iI (x2))]) (n := 5) (Nat.le_of_ble_eq_true rfl) (e_cc (e_rv_cat _ _) (e_cc rfl (e_cc rfl e_cn)))
  rw [lg_entry_eq]
  generalize (lg_sl [e_rv B (x0), .int (iI (x1)), .int (iI (x2))] ++ List.replicate (5 - (lg_sl [e_rv B (x0), .int (iI (x1)), .int (iI (x2))]).length) Slot.unset).toArray = ls at hl ⊢
  generalize ([e_rv B (x0), .int (iI (x1)), .int (iI (x2))] : List Value).toArray = args at hts E ⊢
  have hl : e_lo ls 5 [(0, e_rv B (x0)), (1, .int (iI (x1))), (2, .int (iI (x2)))] := hl
  have hsh := (gd_some hsh).2
  refine lv_iload_n hx hb dX11_openLines_0 rfl (hl.at 1 rfl) ?_
  refine e_if_lt (tgt := 28) hx hb dX11_openLines_1 (by decide) (fun c1 => ?_) (fun c1 => ?_)
  · rw [if_pos c1] at hsh
    exact w11_openLines_b28 E hp hS (hl.sub [] rfl) hsh
  · rw [if_neg c1] at hsh
    refine lv_iload_n hx hb dX11_openLines_4 rfl (hl.at 1 rfl) ?_
    refine e_aload_n (B := B) (x := x0) hx hb dX11_openLines_5 rfl (hl.at 0 rfl) ?_
    obtain ⟨v6, h6, hsh⟩ := Option.bind_eq_some_iff.mp hsh
    refine e_getI (k := 5) hx hb hts in_X11 hown hp h6 rfl (by decide) (by decide) rfl (hts _ kf11_26) rfl dX11_openLines_6 ?_
    refine e_icmp_gt (tgt := 28) hx hb dX11_openLines_9 (by decide) (fun c9 => ?_) (fun c9 => ?_)
    · rw [if_pos c9] at hsh
      exact w11_openLines_b28 E hp hS (hl.sub [] rfl) hsh
    · rw [if_neg c9] at hsh
      refine lv_iload_n hx hb dX11_openLines_12 rfl (hl.at 2 rfl) ?_
      refine lv_iconst (v := iI (1)) hx hb dX11_openLines_13 rfl ?_
      refine e_icmp_lt (tgt := 28) hx hb dX11_openLines_14 (by decide) (fun c14 => ?_) (fun c14 => ?_)
      · rw [if_pos c14] at hsh
        exact w11_openLines_b28 E hp hS (hl.sub [] rfl) hsh
      · rw [if_neg c14] at hsh
        refine e_aload_n (B := B) (x := x0) hx hb dX11_openLines_17 rfl (hl.at 0 rfl) ?_
        obtain ⟨v18, h18, hsh⟩ := Option.bind_eq_some_iff.mp hsh
        refine e_getI (k := 5) hx hb hts in_X11 hown hp h18 rfl (by decide) (by decide) rfl (hts _ kf11_26) rfl dX11_openLines_18 ?_
        refine lv_iload_n hx hb dX11_openLines_21 rfl (hl.at 2 rfl) ?_
        refine e_iadd hx hb dX11_openLines_22 ?_
        refine lv_bipush (v := iI (40)) hx hb dX11_openLines_23 (by decide +kernel) ?_
        refine e_icmp_le (tgt := 29) hx hb dX11_openLines_25 (by decide) (fun c25 => ?_) (fun c25 => ?_)
        · rw [if_pos c25] at hsh
          refine e_aload_n (B := B) (x := x0) hx hb dX11_openLines_29 rfl (hl.at 0 rfl) ?_
          obtain ⟨v30, h30, hsh⟩ := Option.bind_eq_some_iff.mp hsh
          refine e_getI (k := 5) hx hb hts in_X11 hown hp h30 rfl (by decide) (by decide) rfl (hts _ kf11_26) rfl dX11_openLines_30 ?_
          refine lv_iload_n hx hb dX11_openLines_33 rfl (hl.at 1 rfl) ?_
          refine e_isub hx hb dX11_openLines_34 ?_
          refine e_istore_n (lv' := [(3, .int (iI ((v30 - x1)))), (0, e_rv B (x0)), (1, .int (iI (x1))), (2, .int (iI (x2)))]) hx hb dX11_openLines_35 rfl hl (by decide) rfl (fun ls hl => ?_)
          refine e_aload_n (B := B) (x := x0) hx hb dX11_openLines_36 rfl (hl.at 1 rfl) ?_
          obtain ⟨v37, h37, hsh⟩ := Option.bind_eq_some_iff.mp hsh
          refine e_getR (k := 0) hx hb hts in_X11 hown hp h37 rfl (by decide) (by decide) rfl (hts _ kf11_9) rfl dX11_openLines_37 ?_
          refine lv_iload_n hx hb dX11_openLines_40 rfl (hl.at 2 rfl) ?_
          refine lv_bipush (v := iI (60)) hx hb dX11_openLines_41 (by decide +kernel) ?_
          refine e_imul hx hb dX11_openLines_43 ?_
          refine e_aload_n (B := B) (x := x0) hx hb dX11_openLines_44 rfl (hl.at 1 rfl) ?_
          obtain ⟨v45, h45, hsh⟩ := Option.bind_eq_some_iff.mp hsh
          refine e_getR (k := 0) hx hb hts in_X11 hown hp h45 rfl (by decide) (by decide) rfl (hts _ kf11_9) rfl dX11_openLines_45 ?_
          refine lv_iload_n hx hb dX11_openLines_48 rfl (hl.at 2 rfl) ?_
          refine lv_iload_n hx hb dX11_openLines_49 rfl (hl.at 3 rfl) ?_
          refine e_iadd hx hb dX11_openLines_50 ?_
          refine lv_bipush (v := iI (60)) hx hb dX11_openLines_51 (by decide +kernel) ?_
          refine e_imul hx hb dX11_openLines_53 ?_
          refine lv_iload_n hx hb dX11_openLines_54 rfl (hl.at 0 rfl) ?_
          refine lv_bipush (v := iI (60)) hx hb dX11_openLines_55 (by decide +kernel) ?_
          refine e_imul hx hb dX11_openLines_57 ?_
          obtain ⟨S58, h58, hsh⟩ := Option.bind_eq_some_iff.mp hsh
          refine e_copy (t := 100) (t0 := 0) (rest := []) hx hb (hml.trans hl.size.symm) hown hts kl11_47 kM_acn kM_acs kM_aci hp hS h58 (by decide) (by decide) (by decide) rfl rfl (by have h9 := hS.1; rw [hp.2.2.1] at h9; omega) (Nat.le_of_ble_eq_true rfl) (Nat.le_trans (Nat.add_le_add_right (show _ ≤ 8 by simp [e_rv_cat, e_int_cat]) _) (by decide +kernel)) dX11_openLines_58 (fun H locs hp hS => ?_)
          refine e_aload_n (B := B) (x := x0) hx hb dX11_openLines_61 rfl (hl.at 1 rfl) ?_
          obtain ⟨v62, h62, hsh⟩ := Option.bind_eq_some_iff.mp hsh
          refine e_getR (k := 1) hx hb hts in_X11 hown hp h62 rfl (by decide) (by decide) rfl (hts _ kf11_15) rfl dX11_openLines_62 ?_
          refine lv_iload_n hx hb dX11_openLines_65 rfl (hl.at 2 rfl) ?_
          refine e_aload_n (B := B) (x := x0) hx hb dX11_openLines_66 rfl (hl.at 1 rfl) ?_
          obtain ⟨v67, h67, hsh⟩ := Option.bind_eq_some_iff.mp hsh
          refine e_getR (k := 1) hx hb hts in_X11 hown hp h67 rfl (by decide) (by decide) rfl (hts _ kf11_15) rfl dX11_openLines_67 ?_
          refine lv_iload_n hx hb dX11_openLines_70 rfl (hl.at 2 rfl) ?_
          refine lv_iload_n hx hb dX11_openLines_71 rfl (hl.at 3 rfl) ?_
          refine e_iadd hx hb dX11_openLines_72 ?_
          refine lv_iload_n hx hb dX11_openLines_73 rfl (hl.at 0 rfl) ?_
          obtain ⟨S74, h74, hsh⟩ := Option.bind_eq_some_iff.mp hsh
          refine e_copy (t := 101) (t0 := 1) (rest := []) hx hb (hml.trans hl.size.symm) hown hts kl11_47 kM_acn kM_acs kM_aci hp hS h74 (by decide) (by decide) (by decide) rfl rfl (by have h9 := hS.1; rw [hp.2.2.1] at h9; omega) (Nat.le_of_ble_eq_true rfl) (Nat.le_trans (Nat.add_le_add_right (show _ ≤ 8 by simp [e_rv_cat, e_int_cat]) _) (by decide +kernel)) dX11_openLines_74 (fun H locs hp hS => ?_)
          refine e_aload_n (B := B) (x := x0) hx hb dX11_openLines_77 rfl (hl.at 1 rfl) ?_
          obtain ⟨v78, h78, hsh⟩ := Option.bind_eq_some_iff.mp hsh
          refine e_getR (k := 2) hx hb hts in_X11 hown hp h78 rfl (by decide) (by decide) rfl (hts _ kf11_19) rfl dX11_openLines_78 ?_
          refine lv_iload_n hx hb dX11_openLines_81 rfl (hl.at 2 rfl) ?_
          refine e_aload_n (B := B) (x := x0) hx hb dX11_openLines_82 rfl (hl.at 1 rfl) ?_
          obtain ⟨v83, h83, hsh⟩ := Option.bind_eq_some_iff.mp hsh
          refine e_getR (k := 2) hx hb hts in_X11 hown hp h83 rfl (by decide) (by decide) rfl (hts _ kf11_19) rfl dX11_openLines_83 ?_
          refine lv_iload_n hx hb dX11_openLines_86 rfl (hl.at 2 rfl) ?_
          refine lv_iload_n hx hb dX11_openLines_87 rfl (hl.at 3 rfl) ?_
          refine e_iadd hx hb dX11_openLines_88 ?_
          refine lv_iload_n hx hb dX11_openLines_89 rfl (hl.at 0 rfl) ?_
          obtain ⟨S90, h90, hsh⟩ := Option.bind_eq_some_iff.mp hsh
          refine e_copy (t := 101) (t0 := 1) (rest := []) hx hb (hml.trans hl.size.symm) hown hts kl11_47 kM_acn kM_acs kM_aci hp hS h90 (by decide) (by decide) (by decide) rfl rfl (by have h9 := hS.1; rw [hp.2.2.1] at h9; omega) (Nat.le_of_ble_eq_true rfl) (Nat.le_trans (Nat.add_le_add_right (show _ ≤ 8 by simp [e_rv_cat, e_int_cat]) _) (by decide +kernel)) dX11_openLines_90 (fun H locs hp hS => ?_)
          refine lv_iload_n hx hb dX11_openLines_93 rfl (hl.at 2 rfl) ?_
          refine e_istore (lv' := [(4, .int (iI (x1))), (3, .int (iI ((v30 - x1)))), (0, e_rv B (x0)), (1, .int (iI (x1))), (2, .int (iI (x2)))]) hx hb dX11_openLines_94 hl (by decide) rfl (fun ls hl => ?_)
          exact w11_openLines_l96 E 1000000 hp hS (hl.sub [2, 3, 4, 0] rfl) hsh
        · rw [if_neg c25] at hsh
          exact w11_openLines_b28 E hp hS (hl.sub [] rfl) hsh
theorem ok11_dropLines {S : HP} {x0 : Int} {x1 : Int} {x2 : Int} {r : HP} (h : s11_dropLines S x0 x1 x2 = some r) : 0 ≤ x0 ∧ x0.toNat < e_n S ∧ e_g S x0.toNat = 11 := (gd_some h).1
set_option maxRecDepth 100000 in
set_option maxHeartbeats 4000000 in
theorem w11_dropLines_b19 {p : Program} {l : Launch} {e : Env} {s : State} {m : MethodId} {args : Array Value} {below : List Frame} {meth : Method} {c : Code} {D : va_G} {cA : Nat → ClassId} {B : Nat} {res : HP} (E : e_En p s m args meth c cX11_dropLines RX11 4 none) {ls : Array Slot} {H : Heap} {locs : List Loc} {S : HP} (hp : e_Pic D cA B S s H) (hS : va_S (e_A B) s.heap H locs) (hl : e_lo ls 4 []) (hsh : s11_dropLines_b19 S  = some res) : W p l e ({ frames := 2, cells := 0, slots := 0, locals := 60 } : Room) s m args below meth c H locs 0 0 (MQ below (e_Qv D cA B res) args s 0 0 (e_A B)) (F0 m 19 ls []) := by
  obtain ⟨hx, hb, hml, hown, hts, hlk, hrt⟩ := id E
  unfold s11_dropLines_b19 at hsh
  cases hsh
  exact e_vret hx hb hrt hlk hp hS dX11_dropLines_19
set_option maxRecDepth 100000 in
set_option maxHeartbeats 4000000 in
theorem w11_dropLines_b155 {p : Program} {l : Launch} {e : Env} {s : State} {m : MethodId} {args : Array Value} {below : List Frame} {meth : Method} {c : Code} {D : va_G} {cA : Nat → ClassId} {B : Nat} {res : HP} (E : e_En p s m args meth c cX11_dropLines RX11 4 none) {ls : Array Slot} {H : Heap} {locs : List Loc} {S : HP} (hp : e_Pic D cA B S s H) (hS : va_S (e_A B) s.heap H locs) (hl : e_lo ls 4 []) (hsh : s11_dropLines_b155 S  = some res) : W p l e ({ frames := 2, cells := 0, slots := 0, locals := 60 } : Room) s m args below meth c H locs 0 0 (MQ below (e_Qv D cA B res) args s 0 0 (e_A B)) (F0 m 155 ls []) := by
  obtain ⟨hx, hb, hml, hown, hts, hlk, hrt⟩ := id E
  unfold s11_dropLines_b155 at hsh
  cases hsh
  exact e_vret hx hb hrt hlk hp hS dX11_dropLines_155
set_option maxRecDepth 100000 in
set_option maxHeartbeats 4000000 in
theorem w11_dropLines_b135 {p : Program} {l : Launch} {e : Env} {s : State} {m : MethodId} {args : Array Value} {below : List Frame} {meth : Method} {c : Code} {D : va_G} {cA : Nat → ClassId} {B : Nat} {res : HP} (E : e_En p s m args meth c cX11_dropLines RX11 4 none) {ls : Array Slot} {H : Heap} {locs : List Loc} {S : HP} {x0 : Int} {x1 : Int} {x2 : Int} (hp : e_Pic D cA B S s H) (hS : va_S (e_A B) s.heap H locs) (hl : e_lo ls 4 [(0, e_rv B (x0)), (1, .int (iI (x1))), (2, .int (iI (x2)))]) (hsh : s11_dropLines_b135 S x0 x1 x2 = some res) : W p l e ({ frames := 2, cells := 0, slots := 0, locals := 60 } : Room) s m args below meth c H locs 0 0 (MQ below (e_Qv D cA B res) args s 0 0 (e_A B)) (F0 m 135 ls []) := by
  obtain ⟨hx, hb, hml, hown, hts, hlk, hrt⟩ := id E
  unfold s11_dropLines_b135 at hsh
  refine e_aload_n (B := B) (x := x0) hx hb dX11_dropLines_135 rfl (hl.at 0 rfl) ?_
  obtain ⟨v136, h136, hsh⟩ := Option.bind_eq_some_iff.mp hsh
  refine e_getR (k := 4) hx hb hts in_X11 hown hp h136 rfl (by decide) (by decide) rfl (hts _ kf11_29) rfl dX11_dropLines_136 ?_
  refine e_ifnull (tgt := 155) hx hb dX11_dropLines_139 (by decide) (fun c139 => ?_) (fun c139 => ?_)
  · rw [if_pos c139] at hsh
    exact w11_dropLines_b155 E hp hS (hl.sub [] rfl) hsh
  · rw [if_neg c139] at hsh
    refine e_aload_n (B := B) (x := x0) hx hb dX11_dropLines_142 rfl (hl.at 0 rfl) ?_
    obtain ⟨v143, h143, hsh⟩ := Option.bind_eq_some_iff.mp hsh
    refine e_getR (k := 4) hx hb hts in_X11 hown hp h143 rfl (by decide) (by decide) rfl (hts _ kf11_29) rfl dX11_dropLines_143 ?_
    refine lv_iload_n hx hb dX11_dropLines_146 rfl (hl.at 1 rfl) ?_
    refine lv_iload_n hx hb dX11_dropLines_147 rfl (hl.at 2 rfl) ?_
    refine e_aload_n (B := B) (x := x0) hx hb dX11_dropLines_148 rfl (hl.at 0 rfl) ?_
    obtain ⟨v149, h149, hsh⟩ := Option.bind_eq_some_iff.mp hsh
    refine e_getI (k := 5) hx hb hts in_X11 hown hp h149 rfl (by decide) (by decide) rfl (hts _ kf11_26) rfl dX11_dropLines_149 ?_
    obtain ⟨S152, h152, hsh⟩ := Option.bind_eq_some_iff.mp hsh
    have ok152 := ok6_linesGone h152
    refine e_callV (nL := 4) (mc := 0) (ms := 0) (T := TX6) (N := 16) (As := [.int (iI (x1)), .int (iI (x2)), .int (iI (v149))]) (rest := []) hx hb hml hown hts hp hS hl.size ok152.1 ok152.2.1 ok152.2.2 rfl (by decide) (c6_linesGone l D cA B S S152 (v143) (x1) (x2) (v149) h152) rfl rfl kd6_linesGone (kl11_67) ks6_linesGone kv6_linesGone ki6 kh6_linesGone ⟨Nat.le_of_ble_eq_true rfl, Nat.le_of_ble_eq_true rfl⟩ rfl (by simp [e_rv_cat, e_int_cat]) ⟨Nat.le_refl _, Nat.le_refl _⟩ dX11_dropLines_152 rfl (fun H locs hp hS => ?_)
    exact w11_dropLines_b155 E hp hS (hl.sub [] rfl) hsh
set_option maxRecDepth 100000 in
set_option maxHeartbeats 4000000 in
theorem c11_dropLines (l : Launch) (D : va_G) (cA : Nat → ClassId) (B : Nat) (S S' : HP) (x0 : Int) (x1 : Int) (x2 : Int) (hsh : s11_dropLines S x0 x1 x2 = some S') : Met l yX11_dropLines (e_wu yX11_dropLines cX11_dropLines 4 none) ({ frames := 2, cells := 0, slots := 0, locals := 60 } : Room) (va_Pc [e_rv B (x0), .int (iI (x1)), .int (iI (x2))] (fun U => e_PU D cA B S U)) (e_Qv D cA B S') 0 0 (e_A B) := by
  refine Met.ofW (cc := cX11_dropLines) (maxL := 4) (ret := none) (by decide +kernel) rfl ?_
  intro p e s m args below meth c s₁ Bd hml hv
  obtain ⟨rfl, hp⟩ := hv
  have hp : e_Pic D cA B S s s.heap := hp
  have hx := Bd.exec
  have hb := Bd.bytes
  have hrt := Bd.returns
  have hlk := Bd.notSynchronized
  have hown : s.vm.findClass RX11 = some m.cls := findClass_of_methodNamed Bd.named
  have hts : ∀ w ∈ e_tb, w.before ([e_rv B (x0), .int (iI (x1)), .int (iI (x2))] : List Value).toArray s = true := fun w h => atoms_spec (ws := (e_wu yX11_dropLines cX11_dropLines 4 none)) Bd.pre w (List.mem_cons_of_mem _ h)
  have E : e_En p s m ([e_rv B (x0), .int (iI (x1)), .int (iI (x2))] : List Value).toArray meth c cX11_dropLines RX11 4 none := ⟨hx, hb, hml, hown, hts, hlk, hrt⟩
  have hS : va_S (e_A B) s.heap s.heap [] := va_S.rf
  have hl := e_entry (vs := [e_rv B (x0), .int (iI (x1)), .int (iI (x2))]) (n := 4) (Nat.le_of_ble_eq_true rfl) (e_cc (e_rv_cat _ _) (e_cc rfl (e_cc rfl e_cn)))
  rw [lg_entry_eq]
  generalize (lg_sl [e_rv B (x0), .int (iI (x1)), .int (iI (x2))] ++ List.replicate (4 - (lg_sl [e_rv B (x0), .int (iI (x1)), .int (iI (x2))]).length) Slot.unset).toArray = ls at hl ⊢
  generalize ([e_rv B (x0), .int (iI (x1)), .int (iI (x2))] : List Value).toArray = args at hts E ⊢
  have hl : e_lo ls 4 [(0, e_rv B (x0)), (1, .int (iI (x1))), (2, .int (iI (x2)))] := hl
  have hsh := (gd_some hsh).2
  refine lv_iload_n hx hb dX11_dropLines_0 rfl (hl.at 1 rfl) ?_
  refine e_if_lt (tgt := 19) hx hb dX11_dropLines_1 (by decide) (fun c1 => ?_) (fun c1 => ?_)
  · rw [if_pos c1] at hsh
    exact w11_dropLines_b19 E hp hS (hl.sub [] rfl) hsh
  · rw [if_neg c1] at hsh
    refine lv_iload_n hx hb dX11_dropLines_4 rfl (hl.at 2 rfl) ?_
    refine lv_iconst (v := iI (1)) hx hb dX11_dropLines_5 rfl ?_
    refine e_icmp_lt (tgt := 19) hx hb dX11_dropLines_6 (by decide) (fun c6 => ?_) (fun c6 => ?_)
    · rw [if_pos c6] at hsh
      exact w11_dropLines_b19 E hp hS (hl.sub [] rfl) hsh
    · rw [if_neg c6] at hsh
      refine lv_iload_n hx hb dX11_dropLines_9 rfl (hl.at 1 rfl) ?_
      refine lv_iload_n hx hb dX11_dropLines_10 rfl (hl.at 2 rfl) ?_
      refine e_iadd hx hb dX11_dropLines_11 ?_
      refine e_aload_n (B := B) (x := x0) hx hb dX11_dropLines_12 rfl (hl.at 0 rfl) ?_
      obtain ⟨v13, h13, hsh⟩ := Option.bind_eq_some_iff.mp hsh
      refine e_getI (k := 5) hx hb hts in_X11 hown hp h13 rfl (by decide) (by decide) rfl (hts _ kf11_26) rfl dX11_dropLines_13 ?_
      refine e_icmp_le (tgt := 20) hx hb dX11_dropLines_16 (by decide) (fun c16 => ?_) (fun c16 => ?_)
      · rw [if_pos c16] at hsh
        refine e_aload_n (B := B) (x := x0) hx hb dX11_dropLines_20 rfl (hl.at 0 rfl) ?_
        obtain ⟨v21, h21, hsh⟩ := Option.bind_eq_some_iff.mp hsh
        refine e_getI (k := 5) hx hb hts in_X11 hown hp h21 rfl (by decide) (by decide) rfl (hts _ kf11_26) rfl dX11_dropLines_21 ?_
        refine lv_iload_n hx hb dX11_dropLines_24 rfl (hl.at 1 rfl) ?_
        refine e_isub hx hb dX11_dropLines_25 ?_
        refine lv_iload_n hx hb dX11_dropLines_26 rfl (hl.at 2 rfl) ?_
        refine e_isub hx hb dX11_dropLines_27 ?_
        refine e_istore_n (lv' := [(3, .int (iI (((v21 - x1) - x2)))), (0, e_rv B (x0)), (1, .int (iI (x1))), (2, .int (iI (x2)))]) hx hb dX11_dropLines_28 rfl hl (by decide) rfl (fun ls hl => ?_)
        refine e_aload_n (B := B) (x := x0) hx hb dX11_dropLines_29 rfl (hl.at 1 rfl) ?_
        obtain ⟨v30, h30, hsh⟩ := Option.bind_eq_some_iff.mp hsh
        refine e_getR (k := 0) hx hb hts in_X11 hown hp h30 rfl (by decide) (by decide) rfl (hts _ kf11_9) rfl dX11_dropLines_30 ?_
        refine lv_iload_n hx hb dX11_dropLines_33 rfl (hl.at 2 rfl) ?_
        refine lv_iload_n hx hb dX11_dropLines_34 rfl (hl.at 3 rfl) ?_
        refine e_iadd hx hb dX11_dropLines_35 ?_
        refine lv_bipush (v := iI (60)) hx hb dX11_dropLines_36 (by decide +kernel) ?_
        refine e_imul hx hb dX11_dropLines_38 ?_
        refine e_aload_n (B := B) (x := x0) hx hb dX11_dropLines_39 rfl (hl.at 1 rfl) ?_
        obtain ⟨v40, h40, hsh⟩ := Option.bind_eq_some_iff.mp hsh
        refine e_getR (k := 0) hx hb hts in_X11 hown hp h40 rfl (by decide) (by decide) rfl (hts _ kf11_9) rfl dX11_dropLines_40 ?_
        refine lv_iload_n hx hb dX11_dropLines_43 rfl (hl.at 2 rfl) ?_
        refine lv_bipush (v := iI (60)) hx hb dX11_dropLines_44 (by decide +kernel) ?_
        refine e_imul hx hb dX11_dropLines_46 ?_
        refine lv_iload_n hx hb dX11_dropLines_47 rfl (hl.at 0 rfl) ?_
        refine lv_bipush (v := iI (60)) hx hb dX11_dropLines_48 (by decide +kernel) ?_
        refine e_imul hx hb dX11_dropLines_50 ?_
        obtain ⟨S51, h51, hsh⟩ := Option.bind_eq_some_iff.mp hsh
        refine e_copy (t := 100) (t0 := 0) (rest := []) hx hb (hml.trans hl.size.symm) hown hts kl11_47 kM_acn kM_acs kM_aci hp hS h51 (by decide) (by decide) (by decide) rfl rfl (by have h9 := hS.1; rw [hp.2.2.1] at h9; omega) (Nat.le_of_ble_eq_true rfl) (Nat.le_trans (Nat.add_le_add_right (show _ ≤ 8 by simp [e_rv_cat, e_int_cat]) _) (by decide +kernel)) dX11_dropLines_51 (fun H locs hp hS => ?_)
        refine e_aload_n (B := B) (x := x0) hx hb dX11_dropLines_54 rfl (hl.at 1 rfl) ?_
        obtain ⟨v55, h55, hsh⟩ := Option.bind_eq_some_iff.mp hsh
        refine e_getR (k := 1) hx hb hts in_X11 hown hp h55 rfl (by decide) (by decide) rfl (hts _ kf11_15) rfl dX11_dropLines_55 ?_
        refine lv_iload_n hx hb dX11_dropLines_58 rfl (hl.at 2 rfl) ?_
        refine lv_iload_n hx hb dX11_dropLines_59 rfl (hl.at 3 rfl) ?_
        refine e_iadd hx hb dX11_dropLines_60 ?_
        refine e_aload_n (B := B) (x := x0) hx hb dX11_dropLines_61 rfl (hl.at 1 rfl) ?_
        obtain ⟨v62, h62, hsh⟩ := Option.bind_eq_some_iff.mp hsh
        refine e_getR (k := 1) hx hb hts in_X11 hown hp h62 rfl (by decide) (by decide) rfl (hts _ kf11_15) rfl dX11_dropLines_62 ?_
        refine lv_iload_n hx hb dX11_dropLines_65 rfl (hl.at 2 rfl) ?_
        refine lv_iload_n hx hb dX11_dropLines_66 rfl (hl.at 0 rfl) ?_
        obtain ⟨S67, h67, hsh⟩ := Option.bind_eq_some_iff.mp hsh
        refine e_copy (t := 101) (t0 := 1) (rest := []) hx hb (hml.trans hl.size.symm) hown hts kl11_47 kM_acn kM_acs kM_aci hp hS h67 (by decide) (by decide) (by decide) rfl rfl (by have h9 := hS.1; rw [hp.2.2.1] at h9; omega) (Nat.le_of_ble_eq_true rfl) (Nat.le_trans (Nat.add_le_add_right (show _ ≤ 8 by simp [e_rv_cat, e_int_cat]) _) (by decide +kernel)) dX11_dropLines_67 (fun H locs hp hS => ?_)
        refine e_aload_n (B := B) (x := x0) hx hb dX11_dropLines_70 rfl (hl.at 1 rfl) ?_
        obtain ⟨v71, h71, hsh⟩ := Option.bind_eq_some_iff.mp hsh
        refine e_getR (k := 2) hx hb hts in_X11 hown hp h71 rfl (by decide) (by decide) rfl (hts _ kf11_19) rfl dX11_dropLines_71 ?_
        refine lv_iload_n hx hb dX11_dropLines_74 rfl (hl.at 2 rfl) ?_
        refine lv_iload_n hx hb dX11_dropLines_75 rfl (hl.at 3 rfl) ?_
        refine e_iadd hx hb dX11_dropLines_76 ?_
        refine e_aload_n (B := B) (x := x0) hx hb dX11_dropLines_77 rfl (hl.at 1 rfl) ?_
        obtain ⟨v78, h78, hsh⟩ := Option.bind_eq_some_iff.mp hsh
        refine e_getR (k := 2) hx hb hts in_X11 hown hp h78 rfl (by decide) (by decide) rfl (hts _ kf11_19) rfl dX11_dropLines_78 ?_
        refine lv_iload_n hx hb dX11_dropLines_81 rfl (hl.at 2 rfl) ?_
        refine lv_iload_n hx hb dX11_dropLines_82 rfl (hl.at 0 rfl) ?_
        obtain ⟨S83, h83, hsh⟩ := Option.bind_eq_some_iff.mp hsh
        refine e_copy (t := 101) (t0 := 1) (rest := []) hx hb (hml.trans hl.size.symm) hown hts kl11_47 kM_acn kM_acs kM_aci hp hS h83 (by decide) (by decide) (by decide) rfl rfl (by have h9 := hS.1; rw [hp.2.2.1] at h9; omega) (Nat.le_of_ble_eq_true rfl) (Nat.le_trans (Nat.add_le_add_right (show _ ≤ 8 by simp [e_rv_cat, e_int_cat]) _) (by decide +kernel)) dX11_dropLines_83 (fun H locs hp hS => ?_)
        refine e_aload_n (B := B) (x := x0) hx hb dX11_dropLines_86 rfl (hl.at 1 rfl) ?_
        refine lv_dup hx hb dX11_dropLines_87 (e_rv_cat _ _) ?_
        obtain ⟨v88, h88, hsh⟩ := Option.bind_eq_some_iff.mp hsh
        refine e_getI (k := 5) hx hb hts in_X11 hown hp h88 rfl (by decide) (by decide) rfl (hts _ kf11_26) rfl dX11_dropLines_88 ?_
        refine lv_iload_n hx hb dX11_dropLines_91 rfl (hl.at 3 rfl) ?_
        refine e_isub hx hb dX11_dropLines_92 ?_
        obtain ⟨S93, h93, hsh⟩ := Option.bind_eq_some_iff.mp hsh
        refine e_putI (k := 5) hx hb hts in_X11 tyX11 tyX11_ok nmX11 hown hp hS h93 rfl (by decide) (by decide) rfl (hts _ kf11_26) rfl rfl (by decide +kernel) dX11_dropLines_93 (fun H locs hp hS => ?_)
        refine e_aload_n (B := B) (x := x0) hx hb dX11_dropLines_96 rfl (hl.at 1 rfl) ?_
        obtain ⟨v97, h97, hsh⟩ := Option.bind_eq_some_iff.mp hsh
        refine e_getI (k := 5) hx hb hts in_X11 hown hp h97 rfl (by decide) (by decide) rfl (hts _ kf11_26) rfl dX11_dropLines_97 ?_
        refine e_if_ne (tgt := 135) hx hb dX11_dropLines_100 (by decide) (fun c100 => ?_) (fun c100 => ?_)
        · rw [if_neg c100] at hsh
          exact w11_dropLines_b135 E hp hS (hl.sub [1, 2, 3] rfl) hsh
        · rw [if_pos c100] at hsh
          refine e_aload_n (B := B) (x := x0) hx hb dX11_dropLines_103 rfl (hl.at 1 rfl) ?_
          refine lv_iconst (v := iI (1)) hx hb dX11_dropLines_104 rfl ?_
          obtain ⟨S105, h105, hsh⟩ := Option.bind_eq_some_iff.mp hsh
          refine e_putI (k := 5) hx hb hts in_X11 tyX11 tyX11_ok nmX11 hown hp hS h105 rfl (by decide) (by decide) rfl (hts _ kf11_26) rfl rfl (by decide +kernel) dX11_dropLines_105 (fun H locs hp hS => ?_)
          refine e_aload_n (B := B) (x := x0) hx hb dX11_dropLines_108 rfl (hl.at 1 rfl) ?_
          obtain ⟨v109, h109, hsh⟩ := Option.bind_eq_some_iff.mp hsh
          refine e_getR (k := 1) hx hb hts in_X11 hown hp h109 rfl (by decide) (by decide) rfl (hts _ kf11_15) rfl dX11_dropLines_109 ?_
          refine lv_iconst (v := iI (0)) hx hb dX11_dropLines_112 rfl ?_
          refine lv_iconst (v := iI (0)) hx hb dX11_dropLines_113 rfl ?_
          obtain ⟨S114, h114, hsh⟩ := Option.bind_eq_some_iff.mp hsh
          refine e_iast hx hb hp hS h114 dX11_dropLines_114 (fun H locs hp hS => ?_)
          refine e_aload_n (B := B) (x := x0) hx hb dX11_dropLines_115 rfl (hl.at 1 rfl) ?_
          refine lv_dup hx hb dX11_dropLines_116 (e_rv_cat _ _) ?_
          obtain ⟨v117, h117, hsh⟩ := Option.bind_eq_some_iff.mp hsh
          refine e_getI (k := 3) hx hb hts in_X11 hown hp h117 rfl (by decide) (by decide) rfl (hts _ kf11_22) rfl dX11_dropLines_117 ?_
          refine lv_iconst (v := iI (1)) hx hb dX11_dropLines_120 rfl ?_
          refine e_iadd hx hb dX11_dropLines_121 ?_
          obtain ⟨S122, h122, hsh⟩ := Option.bind_eq_some_iff.mp hsh
          refine e_putI (k := 3) hx hb hts in_X11 tyX11 tyX11_ok nmX11 hown hp hS h122 rfl (by decide) (by decide) rfl (hts _ kf11_22) rfl rfl (by decide +kernel) dX11_dropLines_122 (fun H locs hp hS => ?_)
          refine e_aload_n (B := B) (x := x0) hx hb dX11_dropLines_125 rfl (hl.at 1 rfl) ?_
          obtain ⟨v126, h126, hsh⟩ := Option.bind_eq_some_iff.mp hsh
          refine e_getR (k := 2) hx hb hts in_X11 hown hp h126 rfl (by decide) (by decide) rfl (hts _ kf11_19) rfl dX11_dropLines_126 ?_
          refine lv_iconst (v := iI (0)) hx hb dX11_dropLines_129 rfl ?_
          refine e_aload_n (B := B) (x := x0) hx hb dX11_dropLines_130 rfl (hl.at 1 rfl) ?_
          obtain ⟨v131, h131, hsh⟩ := Option.bind_eq_some_iff.mp hsh
          refine e_getI (k := 3) hx hb hts in_X11 hown hp h131 rfl (by decide) (by decide) rfl (hts _ kf11_22) rfl dX11_dropLines_131 ?_
          obtain ⟨S134, h134, hsh⟩ := Option.bind_eq_some_iff.mp hsh
          refine e_iast hx hb hp hS h134 dX11_dropLines_134 (fun H locs hp hS => ?_)
          exact w11_dropLines_b135 E hp hS (hl.sub [1, 2, 3] rfl) hsh
      · rw [if_neg c16] at hsh
        exact w11_dropLines_b19 E hp hS (hl.sub [] rfl) hsh
theorem ok11_renewLines {S : HP} {x0 : Int} {x1 : Int} {x2 : Int} {r : HP} (h : s11_renewLines S x0 x1 x2 = some r) : 0 ≤ x0 ∧ x0.toNat < e_n S ∧ e_g S x0.toNat = 11 := (gd_some h).1
set_option maxRecDepth 100000 in
set_option maxHeartbeats 4000000 in
theorem w11_renewLines_b19 {p : Program} {l : Launch} {e : Env} {s : State} {m : MethodId} {args : Array Value} {below : List Frame} {meth : Method} {c : Code} {D : va_G} {cA : Nat → ClassId} {B : Nat} {res : HP} (E : e_En p s m args meth c cX11_renewLines RX11 4 none) {ls : Array Slot} {H : Heap} {locs : List Loc} {S : HP} (hp : e_Pic D cA B S s H) (hS : va_S (e_A B) s.heap H locs) (hl : e_lo ls 4 []) (hsh : s11_renewLines_b19 S  = some res) : W p l e ({ frames := 2, cells := 0, slots := 0, locals := 51 } : Room) s m args below meth c H locs 0 0 (MQ below (e_Qv D cA B res) args s 0 0 (e_A B)) (F0 m 19 ls []) := by
  obtain ⟨hx, hb, hml, hown, hts, hlk, hrt⟩ := id E
  unfold s11_renewLines_b19 at hsh
  cases hsh
  exact e_vret hx hb hrt hlk hp hS dX11_renewLines_19
set_option maxRecDepth 100000 in
set_option maxHeartbeats 4000000 in
theorem w11_renewLines_b84 {p : Program} {l : Launch} {e : Env} {s : State} {m : MethodId} {args : Array Value} {below : List Frame} {meth : Method} {c : Code} {D : va_G} {cA : Nat → ClassId} {B : Nat} {res : HP} (E : e_En p s m args meth c cX11_renewLines RX11 4 none) {ls : Array Slot} {H : Heap} {locs : List Loc} {S : HP} (hp : e_Pic D cA B S s H) (hS : va_S (e_A B) s.heap H locs) (hl : e_lo ls 4 []) (hsh : s11_renewLines_b84 S  = some res) : W p l e ({ frames := 2, cells := 0, slots := 0, locals := 51 } : Room) s m args below meth c H locs 0 0 (MQ below (e_Qv D cA B res) args s 0 0 (e_A B)) (F0 m 84 ls []) := by
  obtain ⟨hx, hb, hml, hown, hts, hlk, hrt⟩ := id E
  unfold s11_renewLines_b84 at hsh
  cases hsh
  exact e_vret hx hb hrt hlk hp hS dX11_renewLines_84
set_option maxRecDepth 100000 in
set_option maxHeartbeats 4000000 in
theorem w11_renewLines_l22 {p : Program} {l : Launch} {e : Env} {s : State} {m : MethodId} {args : Array Value} {below : List Frame} {meth : Method} {c : Code} {D : va_G} {cA : Nat → ClassId} {B : Nat} {res : HP} (E : e_En p s m args meth c cX11_renewLines RX11 4 none) : ∀ (f : Nat) {ls : Array Slot} {H : Heap} {locs : List Loc} {S : HP} {x0 : Int} {x1 : Int} {x2 : Int} {x3 : Int} (hp : e_Pic D cA B S s H) (hS : va_S (e_A B) s.heap H locs) (hl : e_lo ls 4 [(0, e_rv B (x0)), (1, .int (iI (x1))), (2, .int (iI (x2))), (3, .int (iI (x3)))]) (hsh : s11_renewLines_l22 f S x0 x1 x2 x3 = some res), W p l e ({ frames := 2, cells := 0, slots := 0, locals := 51 } : Room) s m args below meth c H locs 0 0 (MQ below (e_Qv D cA B res) args s 0 0 (e_A B)) (F0 m 22 ls []) := by
  obtain ⟨hx, hb, hml, hown, hts, hlk, hrt⟩ := id E
  intro f
  induction f with
  | zero => intro ls H locs S x0 x1 x2 x3 hp hS hl hsh; cases hsh
  | succ f ih =>
    intro ls H locs S x0 x1 x2 x3 hp hS hl hsh
    have hk22 : ∀ {ls : Array Slot} {H : Heap} {locs : List Loc} {S : HP} {x0 : Int} {x1 : Int} {x2 : Int} {x3 : Int} (hp : e_Pic D cA B S s H) (hS : va_S (e_A B) s.heap H locs) (hl : e_lo ls 4 [(0, e_rv B (x0)), (1, .int (iI (x1))), (2, .int (iI (x2))), (3, .int (iI (x3)))]) (hsh : (s11_renewLines_l22 f) S x0 x1 x2 x3 = some res), W p l e ({ frames := 2, cells := 0, slots := 0, locals := 51 } : Room) s m args below meth c H locs 0 0 (MQ below (e_Qv D cA B res) args s 0 0 (e_A B)) (F0 m 22 ls []) := ih
    generalize hkk : s11_renewLines_l22 f = k22 at hk22
    rw [s11_renewLines_l22] at hsh
    rw [hkk] at hsh
    try dsimp only at hsh
    refine lv_iload_n hx hb dX11_renewLines_22 rfl (hl.at 3 rfl) ?_
    refine lv_iload_n hx hb dX11_renewLines_23 rfl (hl.at 1 rfl) ?_
    refine lv_iload_n hx hb dX11_renewLines_24 rfl (hl.at 2 rfl) ?_
    refine e_iadd hx hb dX11_renewLines_25 ?_
    refine e_icmp_ge (tgt := 55) hx hb dX11_renewLines_26 (by decide) (fun c26 => ?_) (fun c26 => ?_)
    · rw [if_pos c26] at hsh
      refine e_aload_n (B := B) (x := x0) hx hb dX11_renewLines_55 rfl (hl.at 0 rfl) ?_
      obtain ⟨v56, h56, hsh⟩ := Option.bind_eq_some_iff.mp hsh
      refine e_getR (k := 4) hx hb hts in_X11 hown hp h56 rfl (by decide) (by decide) rfl (hts _ kf11_29) rfl dX11_renewLines_56 ?_
      refine e_ifnull (tgt := 84) hx hb dX11_renewLines_59 (by decide) (fun c59 => ?_) (fun c59 => ?_)
      · rw [if_pos c59] at hsh
        exact w11_renewLines_b84 E hp hS (hl.sub [] rfl) hsh
      · rw [if_neg c59] at hsh
        refine e_aload_n (B := B) (x := x0) hx hb dX11_renewLines_62 rfl (hl.at 0 rfl) ?_
        obtain ⟨v63, h63, hsh⟩ := Option.bind_eq_some_iff.mp hsh
        refine e_getR (k := 4) hx hb hts in_X11 hown hp h63 rfl (by decide) (by decide) rfl (hts _ kf11_29) rfl dX11_renewLines_63 ?_
        refine lv_iload_n hx hb dX11_renewLines_66 rfl (hl.at 1 rfl) ?_
        refine lv_iload_n hx hb dX11_renewLines_67 rfl (hl.at 2 rfl) ?_
        refine e_aload_n (B := B) (x := x0) hx hb dX11_renewLines_68 rfl (hl.at 0 rfl) ?_
        obtain ⟨v69, h69, hsh⟩ := Option.bind_eq_some_iff.mp hsh
        refine e_getI (k := 5) hx hb hts in_X11 hown hp h69 rfl (by decide) (by decide) rfl (hts _ kf11_26) rfl dX11_renewLines_69 ?_
        obtain ⟨S72, h72, hsh⟩ := Option.bind_eq_some_iff.mp hsh
        have ok72 := ok6_linesGone h72
        refine e_callV (nL := 4) (mc := 0) (ms := 0) (T := TX6) (N := 16) (As := [.int (iI (x1)), .int (iI (x2)), .int (iI (v69))]) (rest := []) hx hb hml hown hts hp hS hl.size ok72.1 ok72.2.1 ok72.2.2 rfl (by decide) (c6_linesGone l D cA B S S72 (v63) (x1) (x2) (v69) h72) rfl rfl kd6_linesGone (kl11_67) ks6_linesGone kv6_linesGone ki6 kh6_linesGone ⟨Nat.le_of_ble_eq_true rfl, Nat.le_of_ble_eq_true rfl⟩ rfl (by simp [e_rv_cat, e_int_cat]) ⟨Nat.le_refl _, Nat.le_refl _⟩ dX11_renewLines_72 rfl (fun H locs hp hS => ?_)
        refine e_aload_n (B := B) (x := x0) hx hb dX11_renewLines_75 rfl (hl.at 0 rfl) ?_
        obtain ⟨v76, h76, hsh⟩ := Option.bind_eq_some_iff.mp hsh
        refine e_getR (k := 4) hx hb hts in_X11 hown hp h76 rfl (by decide) (by decide) rfl (hts _ kf11_29) rfl dX11_renewLines_76 ?_
        refine lv_iload_n hx hb dX11_renewLines_79 rfl (hl.at 1 rfl) ?_
        refine lv_iload_n hx hb dX11_renewLines_80 rfl (hl.at 2 rfl) ?_
        obtain ⟨S81, h81, hsh⟩ := Option.bind_eq_some_iff.mp hsh
        have ok81 := ok6_linesPut h81
        refine e_callV (nL := 4) (mc := 0) (ms := 0) (T := TX6) (N := 16) (As := [.int (iI (x1)), .int (iI (x2))]) (rest := []) hx hb hml hown hts hp hS hl.size ok81.1 ok81.2.1 ok81.2.2 rfl (by decide) (c6_linesPut l D cA B S72 S81 (v76) (x1) (x2) h81) rfl rfl kd6_linesPut (kl11_61) ks6_linesPut kv6_linesPut ki6 kh6_linesPut ⟨Nat.le_of_ble_eq_true rfl, Nat.le_of_ble_eq_true rfl⟩ rfl (by simp [e_rv_cat, e_int_cat]) ⟨Nat.le_refl _, Nat.le_refl _⟩ dX11_renewLines_81 rfl (fun H locs hp hS => ?_)
        exact w11_renewLines_b84 E hp hS (hl.sub [] rfl) hsh
    · rw [if_neg c26] at hsh
      refine e_aload_n (B := B) (x := x0) hx hb dX11_renewLines_29 rfl (hl.at 0 rfl) ?_
      refine lv_dup hx hb dX11_renewLines_30 (e_rv_cat _ _) ?_
      obtain ⟨v31, h31, hsh⟩ := Option.bind_eq_some_iff.mp hsh
      refine e_getI (k := 3) hx hb hts in_X11 hown hp h31 rfl (by decide) (by decide) rfl (hts _ kf11_22) rfl dX11_renewLines_31 ?_
      refine lv_iconst (v := iI (1)) hx hb dX11_renewLines_34 rfl ?_
      refine e_iadd hx hb dX11_renewLines_35 ?_
      obtain ⟨S36, h36, hsh⟩ := Option.bind_eq_some_iff.mp hsh
      refine e_putI (k := 3) hx hb hts in_X11 tyX11 tyX11_ok nmX11 hown hp hS h36 rfl (by decide) (by decide) rfl (hts _ kf11_22) rfl rfl (by decide +kernel) dX11_renewLines_36 (fun H locs hp hS => ?_)
      refine e_aload_n (B := B) (x := x0) hx hb dX11_renewLines_39 rfl (hl.at 0 rfl) ?_
      obtain ⟨v40, h40, hsh⟩ := Option.bind_eq_some_iff.mp hsh
      refine e_getR (k := 2) hx hb hts in_X11 hown hp h40 rfl (by decide) (by decide) rfl (hts _ kf11_19) rfl dX11_renewLines_40 ?_
      refine lv_iload_n hx hb dX11_renewLines_43 rfl (hl.at 3 rfl) ?_
      refine e_aload_n (B := B) (x := x0) hx hb dX11_renewLines_44 rfl (hl.at 0 rfl) ?_
      obtain ⟨v45, h45, hsh⟩ := Option.bind_eq_some_iff.mp hsh
      refine e_getI (k := 3) hx hb hts in_X11 hown hp h45 rfl (by decide) (by decide) rfl (hts _ kf11_22) rfl dX11_renewLines_45 ?_
      obtain ⟨S48, h48, hsh⟩ := Option.bind_eq_some_iff.mp hsh
      refine e_iast hx hb hp hS h48 dX11_renewLines_48 (fun H locs hp hS => ?_)
      refine e_iinc (n := 1) (x := x3) (lv' := [(3, .int (iI ((x3 + 1)))), (0, e_rv B (x0)), (1, .int (iI (x1))), (2, .int (iI (x2)))]) hx hb dX11_renewLines_49 hl (k := 3) rfl (by decide) rfl (fun ls hl => ?_)
      refine lv_goto (tgt := 22) hx hb dX11_renewLines_52 (by decide) ?_
      exact hk22 hp hS (hl.sub [1, 2, 3, 0] rfl) hsh
set_option maxRecDepth 100000 in
set_option maxHeartbeats 4000000 in
theorem c11_renewLines (l : Launch) (D : va_G) (cA : Nat → ClassId) (B : Nat) (S S' : HP) (x0 : Int) (x1 : Int) (x2 : Int) (hsh : s11_renewLines S x0 x1 x2 = some S') : Met l yX11_renewLines (e_wu yX11_renewLines cX11_renewLines 4 none) ({ frames := 2, cells := 0, slots := 0, locals := 51 } : Room) (va_Pc [e_rv B (x0), .int (iI (x1)), .int (iI (x2))] (fun U => e_PU D cA B S U)) (e_Qv D cA B S') 0 0 (e_A B) := by
  refine Met.ofW (cc := cX11_renewLines) (maxL := 4) (ret := none) (by decide +kernel) rfl ?_
  intro p e s m args below meth c s₁ Bd hml hv
  obtain ⟨rfl, hp⟩ := hv
  have hp : e_Pic D cA B S s s.heap := hp
  have hx := Bd.exec
  have hb := Bd.bytes
  have hrt := Bd.returns
  have hlk := Bd.notSynchronized
  have hown : s.vm.findClass RX11 = some m.cls := findClass_of_methodNamed Bd.named
  have hts : ∀ w ∈ e_tb, w.before ([e_rv B (x0), .int (iI (x1)), .int (iI (x2))] : List Value).toArray s = true := fun w h => atoms_spec (ws := (e_wu yX11_renewLines cX11_renewLines 4 none)) Bd.pre w (List.mem_cons_of_mem _ h)
  have E : e_En p s m ([e_rv B (x0), .int (iI (x1)), .int (iI (x2))] : List Value).toArray meth c cX11_renewLines RX11 4 none := ⟨hx, hb, hml, hown, hts, hlk, hrt⟩
  have hS : va_S (e_A B) s.heap s.heap [] := va_S.rf
  have hl := e_entry (vs := [e_rv B (x0), .int (iI (x1)), .int (iI (x2))]) (n := 4) (Nat.le_of_ble_eq_true rfl) (e_cc (e_rv_cat _ _) (e_cc rfl (e_cc rfl e_cn)))
  rw [lg_entry_eq]
  generalize (lg_sl [e_rv B (x0), .int (iI (x1)), .int (iI (x2))] ++ List.replicate (4 - (lg_sl [e_rv B (x0), .int (iI (x1)), .int (iI (x2))]).length) Slot.unset).toArray = ls at hl ⊢
  generalize ([e_rv B (x0), .int (iI (x1)), .int (iI (x2))] : List Value).toArray = args at hts E ⊢
  have hl : e_lo ls 4 [(0, e_rv B (x0)), (1, .int (iI (x1))), (2, .int (iI (x2)))] := hl
  have hsh := (gd_some hsh).2
  refine lv_iload_n hx hb dX11_renewLines_0 rfl (hl.at 1 rfl) ?_
  refine e_if_lt (tgt := 19) hx hb dX11_renewLines_1 (by decide) (fun c1 => ?_) (fun c1 => ?_)
  · rw [if_pos c1] at hsh
    exact w11_renewLines_b19 E hp hS (hl.sub [] rfl) hsh
  · rw [if_neg c1] at hsh
    refine lv_iload_n hx hb dX11_renewLines_4 rfl (hl.at 2 rfl) ?_
    refine lv_iconst (v := iI (1)) hx hb dX11_renewLines_5 rfl ?_
    refine e_icmp_lt (tgt := 19) hx hb dX11_renewLines_6 (by decide) (fun c6 => ?_) (fun c6 => ?_)
    · rw [if_pos c6] at hsh
      exact w11_renewLines_b19 E hp hS (hl.sub [] rfl) hsh
    · rw [if_neg c6] at hsh
      refine lv_iload_n hx hb dX11_renewLines_9 rfl (hl.at 1 rfl) ?_
      refine lv_iload_n hx hb dX11_renewLines_10 rfl (hl.at 2 rfl) ?_
      refine e_iadd hx hb dX11_renewLines_11 ?_
      refine e_aload_n (B := B) (x := x0) hx hb dX11_renewLines_12 rfl (hl.at 0 rfl) ?_
      obtain ⟨v13, h13, hsh⟩ := Option.bind_eq_some_iff.mp hsh
      refine e_getI (k := 5) hx hb hts in_X11 hown hp h13 rfl (by decide) (by decide) rfl (hts _ kf11_26) rfl dX11_renewLines_13 ?_
      refine e_icmp_le (tgt := 20) hx hb dX11_renewLines_16 (by decide) (fun c16 => ?_) (fun c16 => ?_)
      · rw [if_pos c16] at hsh
        refine lv_iload_n hx hb dX11_renewLines_20 rfl (hl.at 1 rfl) ?_
        refine e_istore_n (lv' := [(3, .int (iI (x1))), (0, e_rv B (x0)), (1, .int (iI (x1))), (2, .int (iI (x2)))]) hx hb dX11_renewLines_21 rfl hl (by decide) rfl (fun ls hl => ?_)
        exact w11_renewLines_l22 E 1000000 hp hS (hl.sub [1, 2, 3, 0] rfl) hsh
      · rw [if_neg c16] at hsh
        exact w11_renewLines_b19 E hp hS (hl.sub [] rfl) hsh
theorem ok11_clearLine {S : HP} {x0 : Int} {x1 : Int} {r : HP} (h : s11_clearLine S x0 x1 = some r) : 0 ≤ x0 ∧ x0.toNat < e_n S ∧ e_g S x0.toNat = 11 := (gd_some h).1
set_option maxRecDepth 100000 in
set_option maxHeartbeats 4000000 in
theorem w11_clearLine_b19 {p : Program} {l : Launch} {e : Env} {s : State} {m : MethodId} {args : Array Value} {below : List Frame} {meth : Method} {c : Code} {D : va_G} {cA : Nat → ClassId} {B : Nat} {res : HP} (E : e_En p s m args meth c cX11_clearLine RX11 2 none) {ls : Array Slot} {H : Heap} {locs : List Loc} {S : HP} (hp : e_Pic D cA B S s H) (hS : va_S (e_A B) s.heap H locs) (hl : e_lo ls 2 []) (hsh : s11_clearLine_b19 S  = some res) : W p l e ({ frames := 0, cells := 0, slots := 0, locals := 0 } : Room) s m args below meth c H locs 0 0 (MQ below (e_Qv D cA B res) args s 0 0 (e_A B)) (F0 m 19 ls []) := by
  obtain ⟨hx, hb, hml, hown, hts, hlk, hrt⟩ := id E
  unfold s11_clearLine_b19 at hsh
  cases hsh
  exact e_vret hx hb hrt hlk hp hS dX11_clearLine_19
set_option maxRecDepth 100000 in
set_option maxHeartbeats 4000000 in
theorem c11_clearLine (l : Launch) (D : va_G) (cA : Nat → ClassId) (B : Nat) (S S' : HP) (x0 : Int) (x1 : Int) (hsh : s11_clearLine S x0 x1 = some S') : Met l yX11_clearLine (e_wu yX11_clearLine cX11_clearLine 2 none) ({ frames := 0, cells := 0, slots := 0, locals := 0 } : Room) (va_Pc [e_rv B (x0), .int (iI (x1))] (fun U => e_PU D cA B S U)) (e_Qv D cA B S') 0 0 (e_A B) := by
  refine Met.ofW (cc := cX11_clearLine) (maxL := 2) (ret := none) (by decide +kernel) rfl ?_
  intro p e s m args below meth c s₁ Bd hml hv
  obtain ⟨rfl, hp⟩ := hv
  have hp : e_Pic D cA B S s s.heap := hp
  have hx := Bd.exec
  have hb := Bd.bytes
  have hrt := Bd.returns
  have hlk := Bd.notSynchronized
  have hown : s.vm.findClass RX11 = some m.cls := findClass_of_methodNamed Bd.named
  have hts : ∀ w ∈ e_tb, w.before ([e_rv B (x0), .int (iI (x1))] : List Value).toArray s = true := fun w h => atoms_spec (ws := (e_wu yX11_clearLine cX11_clearLine 2 none)) Bd.pre w (List.mem_cons_of_mem _ h)
  have E : e_En p s m ([e_rv B (x0), .int (iI (x1))] : List Value).toArray meth c cX11_clearLine RX11 2 none := ⟨hx, hb, hml, hown, hts, hlk, hrt⟩
  have hS : va_S (e_A B) s.heap s.heap [] := va_S.rf
  have hl := e_entry (vs := [e_rv B (x0), .int (iI (x1))]) (n := 2) (Nat.le_of_ble_eq_true rfl) (e_cc (e_rv_cat _ _) (e_cc rfl e_cn))
  rw [lg_entry_eq]
  generalize (lg_sl [e_rv B (x0), .int (iI (x1))] ++ List.replicate (2 - (lg_sl [e_rv B (x0), .int (iI (x1))]).length) Slot.unset).toArray = ls at hl ⊢
  generalize ([e_rv B (x0), .int (iI (x1))] : List Value).toArray = args at hts E ⊢
  have hl : e_lo ls 2 [(0, e_rv B (x0)), (1, .int (iI (x1)))] := hl
  have hsh := (gd_some hsh).2
  refine lv_iload_n hx hb dX11_clearLine_0 rfl (hl.at 1 rfl) ?_
  refine e_if_lt (tgt := 19) hx hb dX11_clearLine_1 (by decide) (fun c1 => ?_) (fun c1 => ?_)
  · rw [if_pos c1] at hsh
    exact w11_clearLine_b19 E hp hS (hl.sub [] rfl) hsh
  · rw [if_neg c1] at hsh
    refine lv_iload_n hx hb dX11_clearLine_4 rfl (hl.at 1 rfl) ?_
    refine e_aload_n (B := B) (x := x0) hx hb dX11_clearLine_5 rfl (hl.at 0 rfl) ?_
    obtain ⟨v6, h6, hsh⟩ := Option.bind_eq_some_iff.mp hsh
    refine e_getI (k := 5) hx hb hts in_X11 hown hp h6 rfl (by decide) (by decide) rfl (hts _ kf11_26) rfl dX11_clearLine_6 ?_
    refine e_icmp_ge (tgt := 19) hx hb dX11_clearLine_9 (by decide) (fun c9 => ?_) (fun c9 => ?_)
    · rw [if_pos c9] at hsh
      exact w11_clearLine_b19 E hp hS (hl.sub [] rfl) hsh
    · rw [if_neg c9] at hsh
      refine e_aload_n (B := B) (x := x0) hx hb dX11_clearLine_12 rfl (hl.at 0 rfl) ?_
      obtain ⟨v13, h13, hsh⟩ := Option.bind_eq_some_iff.mp hsh
      refine e_getR (k := 1) hx hb hts in_X11 hown hp h13 rfl (by decide) (by decide) rfl (hts _ kf11_15) rfl dX11_clearLine_13 ?_
      refine lv_iload_n hx hb dX11_clearLine_16 rfl (hl.at 1 rfl) ?_
      refine lv_iconst (v := iI (0)) hx hb dX11_clearLine_17 rfl ?_
      obtain ⟨S18, h18, hsh⟩ := Option.bind_eq_some_iff.mp hsh
      refine e_iast hx hb hp hS h18 dX11_clearLine_18 (fun H locs hp hS => ?_)
      exact w11_clearLine_b19 E hp hS (hl.sub [] rfl) hsh
theorem ok11_copyLine {S : HP} {x0 : Int} {x1 : Int} {x2 : Int} {x3 : Int} {r : HP} (h : s11_copyLine S x0 x1 x2 x3 = some r) : 0 ≤ x0 ∧ x0.toNat < e_n S ∧ e_g S x0.toNat = 11 := (gd_some h).1
set_option maxRecDepth 100000 in
set_option maxHeartbeats 4000000 in
theorem w11_copyLine_b57 {p : Program} {l : Launch} {e : Env} {s : State} {m : MethodId} {args : Array Value} {below : List Frame} {meth : Method} {c : Code} {D : va_G} {cA : Nat → ClassId} {B : Nat} {res : HP} (E : e_En p s m args meth c cX11_copyLine RX11 4 none) {ls : Array Slot} {H : Heap} {locs : List Loc} {S : HP} (hp : e_Pic D cA B S s H) (hS : va_S (e_A B) s.heap H locs) (hl : e_lo ls 4 []) (hsh : s11_copyLine_b57 S  = some res) : W p l e ({ frames := 1, cells := 0, slots := 0, locals := 60 } : Room) s m args below meth c H locs 0 0 (MQ below (e_Qv D cA B res) args s 0 0 (e_A B)) (F0 m 57 ls []) := by
  obtain ⟨hx, hb, hml, hown, hts, hlk, hrt⟩ := id E
  unfold s11_copyLine_b57 at hsh
  cases hsh
  exact e_vret hx hb hrt hlk hp hS dX11_copyLine_57
set_option maxRecDepth 100000 in
set_option maxHeartbeats 4000000 in
theorem c11_copyLine (l : Launch) (D : va_G) (cA : Nat → ClassId) (B : Nat) (S S' : HP) (x0 : Int) (x1 : Int) (x2 : Int) (x3 : Int) (hsh : s11_copyLine S x0 x1 x2 x3 = some S') : Met l yX11_copyLine (e_wu yX11_copyLine cX11_copyLine 4 none) ({ frames := 1, cells := 0, slots := 0, locals := 60 } : Room) (va_Pc [e_rv B (x0), .int (iI (x1)), e_rv B (x2), .int (iI (x3))] (fun U => e_PU D cA B S U)) (e_Qv D cA B S') 0 0 (e_A B) := by
  refine Met.ofW (cc := cX11_copyLine) (maxL := 4) (ret := none) (by decide +kernel) rfl ?_
  intro p e s m args below meth c s₁ Bd hml hv
  obtain ⟨rfl, hp⟩ := hv
  have hp : e_Pic D cA B S s s.heap := hp
  have hx := Bd.exec
  have hb := Bd.bytes
  have hrt := Bd.returns
  have hlk := Bd.notSynchronized
  have hown : s.vm.findClass RX11 = some m.cls := findClass_of_methodNamed Bd.named
  have hts : ∀ w ∈ e_tb, w.before ([e_rv B (x0), .int (iI (x1)), e_rv B (x2), .int (iI (x3))] : List Value).toArray s = true := fun w h => atoms_spec (ws := (e_wu yX11_copyLine cX11_copyLine 4 none)) Bd.pre w (List.mem_cons_of_mem _ h)
  have E : e_En p s m ([e_rv B (x0), .int (iI (x1)), e_rv B (x2), .int (iI (x3))] : List Value).toArray meth c cX11_copyLine RX11 4 none := ⟨hx, hb, hml, hown, hts, hlk, hrt⟩
  have hS : va_S (e_A B) s.heap s.heap [] := va_S.rf
  have hl := e_entry (vs := [e_rv B (x0), .int (iI (x1)), e_rv B (x2), .int (iI (x3))]) (n := 4) (Nat.le_of_ble_eq_true rfl) (e_cc (e_rv_cat _ _) (e_cc rfl (e_cc (e_rv_cat _ _) (e_cc rfl e_cn))))
  rw [lg_entry_eq]
  generalize (lg_sl [e_rv B (x0), .int (iI (x1)), e_rv B (x2), .int (iI (x3))] ++ List.replicate (4 - (lg_sl [e_rv B (x0), .int (iI (x1)), e_rv B (x2), .int (iI (x3))]).length) Slot.unset).toArray = ls at hl ⊢
  generalize ([e_rv B (x0), .int (iI (x1)), e_rv B (x2), .int (iI (x3))] : List Value).toArray = args at hts E ⊢
  have hl : e_lo ls 4 [(0, e_rv B (x0)), (1, .int (iI (x1))), (2, e_rv B (x2)), (3, .int (iI (x3)))] := hl
  have hsh := (gd_some hsh).2
  refine lv_iload_n hx hb dX11_copyLine_0 rfl (hl.at 1 rfl) ?_
  refine e_if_lt (tgt := 57) hx hb dX11_copyLine_1 (by decide) (fun c1 => ?_) (fun c1 => ?_)
  · rw [if_pos c1] at hsh
    exact w11_copyLine_b57 E hp hS (hl.sub [] rfl) hsh
  · rw [if_neg c1] at hsh
    refine lv_iload_n hx hb dX11_copyLine_4 rfl (hl.at 1 rfl) ?_
    refine e_aload_n (B := B) (x := x0) hx hb dX11_copyLine_5 rfl (hl.at 0 rfl) ?_
    obtain ⟨v6, h6, hsh⟩ := Option.bind_eq_some_iff.mp hsh
    refine e_getI (k := 5) hx hb hts in_X11 hown hp h6 rfl (by decide) (by decide) rfl (hts _ kf11_26) rfl dX11_copyLine_6 ?_
    refine e_icmp_ge (tgt := 57) hx hb dX11_copyLine_9 (by decide) (fun c9 => ?_) (fun c9 => ?_)
    · rw [if_pos c9] at hsh
      exact w11_copyLine_b57 E hp hS (hl.sub [] rfl) hsh
    · rw [if_neg c9] at hsh
      refine lv_iload_n hx hb dX11_copyLine_12 rfl (hl.at 3 rfl) ?_
      refine e_if_lt (tgt := 57) hx hb dX11_copyLine_13 (by decide) (fun c13 => ?_) (fun c13 => ?_)
      · rw [if_pos c13] at hsh
        exact w11_copyLine_b57 E hp hS (hl.sub [] rfl) hsh
      · rw [if_neg c13] at hsh
        refine lv_iload_n hx hb dX11_copyLine_16 rfl (hl.at 3 rfl) ?_
        refine e_aload_n (B := B) (x := x2) hx hb dX11_copyLine_17 rfl (hl.at 2 rfl) ?_
        obtain ⟨v18, h18, hsh⟩ := Option.bind_eq_some_iff.mp hsh
        refine e_getI (k := 5) hx hb hts in_X11 hown hp h18 rfl (by decide) (by decide) rfl (hts _ kf11_26) rfl dX11_copyLine_18 ?_
        refine e_icmp_ge (tgt := 57) hx hb dX11_copyLine_21 (by decide) (fun c21 => ?_) (fun c21 => ?_)
        · rw [if_pos c21] at hsh
          exact w11_copyLine_b57 E hp hS (hl.sub [] rfl) hsh
        · rw [if_neg c21] at hsh
          refine e_aload_n (B := B) (x := x2) hx hb dX11_copyLine_24 rfl (hl.at 2 rfl) ?_
          obtain ⟨v25, h25, hsh⟩ := Option.bind_eq_some_iff.mp hsh
          refine e_getR (k := 0) hx hb hts in_X11 hown hp h25 rfl (by decide) (by decide) rfl (hts _ kf11_9) rfl dX11_copyLine_25 ?_
          refine lv_iload_n hx hb dX11_copyLine_28 rfl (hl.at 3 rfl) ?_
          refine lv_bipush (v := iI (60)) hx hb dX11_copyLine_29 (by decide +kernel) ?_
          refine e_imul hx hb dX11_copyLine_31 ?_
          refine e_aload_n (B := B) (x := x0) hx hb dX11_copyLine_32 rfl (hl.at 0 rfl) ?_
          obtain ⟨v33, h33, hsh⟩ := Option.bind_eq_some_iff.mp hsh
          refine e_getR (k := 0) hx hb hts in_X11 hown hp h33 rfl (by decide) (by decide) rfl (hts _ kf11_9) rfl dX11_copyLine_33 ?_
          refine lv_iload_n hx hb dX11_copyLine_36 rfl (hl.at 1 rfl) ?_
          refine lv_bipush (v := iI (60)) hx hb dX11_copyLine_37 (by decide +kernel) ?_
          refine e_imul hx hb dX11_copyLine_39 ?_
          refine lv_bipush (v := iI (60)) hx hb dX11_copyLine_40 (by decide +kernel) ?_
          obtain ⟨S42, h42, hsh⟩ := Option.bind_eq_some_iff.mp hsh
          refine e_copy (t := 100) (t0 := 0) (rest := []) hx hb (hml.trans hl.size.symm) hown hts kl11_47 kM_acn kM_acs kM_aci hp hS h42 (by decide) (by decide) (by decide) rfl rfl (by have h9 := hS.1; rw [hp.2.2.1] at h9; omega) (Nat.le_of_ble_eq_true rfl) (Nat.le_trans (Nat.add_le_add_right (show _ ≤ 8 by simp [e_rv_cat, e_int_cat]) _) (by decide +kernel)) dX11_copyLine_42 (fun H locs hp hS => ?_)
          refine e_aload_n (B := B) (x := x0) hx hb dX11_copyLine_45 rfl (hl.at 0 rfl) ?_
          obtain ⟨v46, h46, hsh⟩ := Option.bind_eq_some_iff.mp hsh
          refine e_getR (k := 1) hx hb hts in_X11 hown hp h46 rfl (by decide) (by decide) rfl (hts _ kf11_15) rfl dX11_copyLine_46 ?_
          refine lv_iload_n hx hb dX11_copyLine_49 rfl (hl.at 1 rfl) ?_
          refine e_aload_n (B := B) (x := x2) hx hb dX11_copyLine_50 rfl (hl.at 2 rfl) ?_
          obtain ⟨v51, h51, hsh⟩ := Option.bind_eq_some_iff.mp hsh
          refine e_getR (k := 1) hx hb hts in_X11 hown hp h51 rfl (by decide) (by decide) rfl (hts _ kf11_15) rfl dX11_copyLine_51 ?_
          refine lv_iload_n hx hb dX11_copyLine_54 rfl (hl.at 3 rfl) ?_
          obtain ⟨v55, h55, hsh⟩ := Option.bind_eq_some_iff.mp hsh
          refine e_iald hx hb hp h55 dX11_copyLine_55 ?_
          obtain ⟨S56, h56, hsh⟩ := Option.bind_eq_some_iff.mp hsh
          refine e_iast hx hb hp hS h56 dX11_copyLine_56 (fun H locs hp hS => ?_)
          exact w11_copyLine_b57 E hp hS (hl.sub [] rfl) hsh
theorem ok11_cut {S : HP} {x0 : Int} {x1 : Int} {x2 : Int} {x3 : Int} {r : HP} (h : s11_cut S x0 x1 x2 x3 = some r) : 0 ≤ x0 ∧ x0.toNat < e_n S ∧ e_g S x0.toNat = 11 := (gd_some h).1
set_option maxRecDepth 100000 in
set_option maxHeartbeats 4000000 in
theorem w11_cut_b31 {p : Program} {l : Launch} {e : Env} {s : State} {m : MethodId} {args : Array Value} {below : List Frame} {meth : Method} {c : Code} {D : va_G} {cA : Nat → ClassId} {B : Nat} {res : HP} (E : e_En p s m args meth c cX11_cut RX11 5 none) {ls : Array Slot} {H : Heap} {locs : List Loc} {S : HP} (hp : e_Pic D cA B S s H) (hS : va_S (e_A B) s.heap H locs) (hl : e_lo ls 5 []) (hsh : s11_cut_b31 S  = some res) : W p l e ({ frames := 1, cells := 0, slots := 0, locals := 60 } : Room) s m args below meth c H locs 0 0 (MQ below (e_Qv D cA B res) args s 0 0 (e_A B)) (F0 m 31 ls []) := by
  obtain ⟨hx, hb, hml, hown, hts, hlk, hrt⟩ := id E
  unfold s11_cut_b31 at hsh
  cases hsh
  exact e_vret hx hb hrt hlk hp hS dX11_cut_31
set_option maxRecDepth 100000 in
set_option maxHeartbeats 4000000 in
theorem c11_cut (l : Launch) (D : va_G) (cA : Nat → ClassId) (B : Nat) (S S' : HP) (x0 : Int) (x1 : Int) (x2 : Int) (x3 : Int) (hsh : s11_cut S x0 x1 x2 x3 = some S') : Met l yX11_cut (e_wu yX11_cut cX11_cut 5 none) ({ frames := 1, cells := 0, slots := 0, locals := 60 } : Room) (va_Pc [e_rv B (x0), .int (iI (x1)), .int (iI (x2)), .int (iI (x3))] (fun U => e_PU D cA B S U)) (e_Qv D cA B S') 0 0 (e_A B) := by
  refine Met.ofW (cc := cX11_cut) (maxL := 5) (ret := none) (by decide +kernel) rfl ?_
  intro p e s m args below meth c s₁ Bd hml hv
  obtain ⟨rfl, hp⟩ := hv
  have hp : e_Pic D cA B S s s.heap := hp
  have hx := Bd.exec
  have hb := Bd.bytes
  have hrt := Bd.returns
  have hlk := Bd.notSynchronized
  have hown : s.vm.findClass RX11 = some m.cls := findClass_of_methodNamed Bd.named
  have hts : ∀ w ∈ e_tb, w.before ([e_rv B (x0), .int (iI (x1)), .int (iI (x2)), .int (iI (x3))] : List Value).toArray s = true := fun w h => atoms_spec (ws := (e_wu yX11_cut cX11_cut 5 none)) Bd.pre w (List.mem_cons_of_mem _ h)
  have E : e_En p s m ([e_rv B (x0), .int (iI (x1)), .int (iI (x2)), .int (iI (x3))] : List Value).toArray meth c cX11_cut RX11 5 none := ⟨hx, hb, hml, hown, hts, hlk, hrt⟩
  have hS : va_S (e_A B) s.heap s.heap [] := va_S.rf
  have hl := e_entry (vs := [e_rv B (x0), .int (iI (x1)), .int (iI (x2)), .int (iI (x3))]) (n := 5) (Nat.le_of_ble_eq_true rfl) (e_cc (e_rv_cat _ _) (e_cc rfl (e_cc rfl (e_cc rfl e_cn))))
  rw [lg_entry_eq]
  generalize (lg_sl [e_rv B (x0), .int (iI (x1)), .int (iI (x2)), .int (iI (x3))] ++ List.replicate (5 - (lg_sl [e_rv B (x0), .int (iI (x1)), .int (iI (x2)), .int (iI (x3))]).length) Slot.unset).toArray = ls at hl ⊢
  generalize ([e_rv B (x0), .int (iI (x1)), .int (iI (x2)), .int (iI (x3))] : List Value).toArray = args at hts E ⊢
  have hl : e_lo ls 5 [(0, e_rv B (x0)), (1, .int (iI (x1))), (2, .int (iI (x2))), (3, .int (iI (x3)))] := hl
  have hsh := (gd_some hsh).2
  refine lv_iload_n hx hb dX11_cut_0 rfl (hl.at 1 rfl) ?_
  refine e_if_lt (tgt := 31) hx hb dX11_cut_1 (by decide) (fun c1 => ?_) (fun c1 => ?_)
  · rw [if_pos c1] at hsh
    exact w11_cut_b31 E hp hS (hl.sub [] rfl) hsh
  · rw [if_neg c1] at hsh
    refine lv_iload_n hx hb dX11_cut_4 rfl (hl.at 1 rfl) ?_
    refine e_aload_n (B := B) (x := x0) hx hb dX11_cut_5 rfl (hl.at 0 rfl) ?_
    obtain ⟨v6, h6, hsh⟩ := Option.bind_eq_some_iff.mp hsh
    refine e_getI (k := 5) hx hb hts in_X11 hown hp h6 rfl (by decide) (by decide) rfl (hts _ kf11_26) rfl dX11_cut_6 ?_
    refine e_icmp_ge (tgt := 31) hx hb dX11_cut_9 (by decide) (fun c9 => ?_) (fun c9 => ?_)
    · rw [if_pos c9] at hsh
      exact w11_cut_b31 E hp hS (hl.sub [] rfl) hsh
    · rw [if_neg c9] at hsh
      refine lv_iload_n hx hb dX11_cut_12 rfl (hl.at 2 rfl) ?_
      refine e_if_lt (tgt := 31) hx hb dX11_cut_13 (by decide) (fun c13 => ?_) (fun c13 => ?_)
      · rw [if_pos c13] at hsh
        exact w11_cut_b31 E hp hS (hl.sub [] rfl) hsh
      · rw [if_neg c13] at hsh
        refine lv_iload_n hx hb dX11_cut_16 rfl (hl.at 3 rfl) ?_
        refine e_aload_n (B := B) (x := x0) hx hb dX11_cut_17 rfl (hl.at 0 rfl) ?_
        obtain ⟨v18, h18, hsh⟩ := Option.bind_eq_some_iff.mp hsh
        refine e_getR (k := 1) hx hb hts in_X11 hown hp h18 rfl (by decide) (by decide) rfl (hts _ kf11_15) rfl dX11_cut_18 ?_
        refine lv_iload_n hx hb dX11_cut_21 rfl (hl.at 1 rfl) ?_
        obtain ⟨v22, h22, hsh⟩ := Option.bind_eq_some_iff.mp hsh
        refine e_iald hx hb hp h22 dX11_cut_22 ?_
        refine e_icmp_gt (tgt := 31) hx hb dX11_cut_23 (by decide) (fun c23 => ?_) (fun c23 => ?_)
        · rw [if_pos c23] at hsh
          exact w11_cut_b31 E hp hS (hl.sub [] rfl) hsh
        · rw [if_neg c23] at hsh
          refine lv_iload_n hx hb dX11_cut_26 rfl (hl.at 2 rfl) ?_
          refine lv_iload_n hx hb dX11_cut_27 rfl (hl.at 3 rfl) ?_
          refine e_icmp_lt (tgt := 32) hx hb dX11_cut_28 (by decide) (fun c28 => ?_) (fun c28 => ?_)
          · rw [if_pos c28] at hsh
            refine lv_iload_n hx hb dX11_cut_32 rfl (hl.at 1 rfl) ?_
            refine lv_bipush (v := iI (60)) hx hb dX11_cut_33 (by decide +kernel) ?_
            refine e_imul hx hb dX11_cut_35 ?_
            refine e_istore (lv' := [(4, .int (iI ((x1 * 60)))), (0, e_rv B (x0)), (1, .int (iI (x1))), (2, .int (iI (x2))), (3, .int (iI (x3)))]) hx hb dX11_cut_36 hl (by decide) rfl (fun ls hl => ?_)
            refine e_aload_n (B := B) (x := x0) hx hb dX11_cut_38 rfl (hl.at 1 rfl) ?_
            obtain ⟨v39, h39, hsh⟩ := Option.bind_eq_some_iff.mp hsh
            refine e_getR (k := 0) hx hb hts in_X11 hown hp h39 rfl (by decide) (by decide) rfl (hts _ kf11_9) rfl dX11_cut_39 ?_
            refine lv_iload hx hb dX11_cut_42 (hl.at 0 rfl) ?_
            refine lv_iload_n hx hb dX11_cut_44 rfl (hl.at 4 rfl) ?_
            refine e_iadd hx hb dX11_cut_45 ?_
            refine e_aload_n (B := B) (x := x0) hx hb dX11_cut_46 rfl (hl.at 1 rfl) ?_
            obtain ⟨v47, h47, hsh⟩ := Option.bind_eq_some_iff.mp hsh
            refine e_getR (k := 0) hx hb hts in_X11 hown hp h47 rfl (by decide) (by decide) rfl (hts _ kf11_9) rfl dX11_cut_47 ?_
            refine lv_iload hx hb dX11_cut_50 (hl.at 0 rfl) ?_
            refine lv_iload_n hx hb dX11_cut_52 rfl (hl.at 3 rfl) ?_
            refine e_iadd hx hb dX11_cut_53 ?_
            refine e_aload_n (B := B) (x := x0) hx hb dX11_cut_54 rfl (hl.at 1 rfl) ?_
            obtain ⟨v55, h55, hsh⟩ := Option.bind_eq_some_iff.mp hsh
            refine e_getR (k := 1) hx hb hts in_X11 hown hp h55 rfl (by decide) (by decide) rfl (hts _ kf11_15) rfl dX11_cut_55 ?_
            refine lv_iload_n hx hb dX11_cut_58 rfl (hl.at 2 rfl) ?_
            obtain ⟨v59, h59, hsh⟩ := Option.bind_eq_some_iff.mp hsh
            refine e_iald hx hb hp h59 dX11_cut_59 ?_
            refine lv_iload_n hx hb dX11_cut_60 rfl (hl.at 4 rfl) ?_
            refine e_isub hx hb dX11_cut_61 ?_
            obtain ⟨S62, h62, hsh⟩ := Option.bind_eq_some_iff.mp hsh
            refine e_copy (t := 100) (t0 := 0) (rest := []) hx hb (hml.trans hl.size.symm) hown hts kl11_47 kM_acn kM_acs kM_aci hp hS h62 (by decide) (by decide) (by decide) rfl rfl (by have h9 := hS.1; rw [hp.2.2.1] at h9; omega) (Nat.le_of_ble_eq_true rfl) (Nat.le_trans (Nat.add_le_add_right (show _ ≤ 8 by simp [e_rv_cat, e_int_cat]) _) (by decide +kernel)) dX11_cut_62 (fun H locs hp hS => ?_)
            refine e_aload_n (B := B) (x := x0) hx hb dX11_cut_65 rfl (hl.at 1 rfl) ?_
            obtain ⟨v66, h66, hsh⟩ := Option.bind_eq_some_iff.mp hsh
            refine e_getR (k := 1) hx hb hts in_X11 hown hp h66 rfl (by decide) (by decide) rfl (hts _ kf11_15) rfl dX11_cut_66 ?_
            refine lv_iload_n hx hb dX11_cut_69 rfl (hl.at 2 rfl) ?_
            refine lv_dup2_11 hx hb dX11_cut_70 rfl (e_rv_cat _ _) ?_
            obtain ⟨v71, h71, hsh⟩ := Option.bind_eq_some_iff.mp hsh
            refine e_iald hx hb hp h71 dX11_cut_71 ?_
            refine lv_iload_n hx hb dX11_cut_72 rfl (hl.at 4 rfl) ?_
            refine lv_iload_n hx hb dX11_cut_73 rfl (hl.at 3 rfl) ?_
            refine e_isub hx hb dX11_cut_74 ?_
            refine e_isub hx hb dX11_cut_75 ?_
            obtain ⟨S76, h76, hsh⟩ := Option.bind_eq_some_iff.mp hsh
            refine e_iast hx hb hp hS h76 dX11_cut_76 (fun H locs hp hS => ?_)
            cases hsh
            exact e_vret hx hb hrt hlk hp hS dX11_cut_77
          · rw [if_neg c28] at hsh
            exact w11_cut_b31 E hp hS (hl.sub [] rfl) hsh
theorem ok11_moveTail {S : HP} {x0 : Int} {x1 : Int} {x2 : Int} {x3 : Int} {r : HP} (h : s11_moveTail S x0 x1 x2 x3 = some r) : 0 ≤ x0 ∧ x0.toNat < e_n S ∧ e_g S x0.toNat = 11 := (gd_some h).1
set_option maxRecDepth 100000 in
set_option maxHeartbeats 4000000 in
theorem w11_moveTail_b43 {p : Program} {l : Launch} {e : Env} {s : State} {m : MethodId} {args : Array Value} {below : List Frame} {meth : Method} {c : Code} {D : va_G} {cA : Nat → ClassId} {B : Nat} {res : HP} (E : e_En p s m args meth c cX11_moveTail RX11 5 none) {ls : Array Slot} {H : Heap} {locs : List Loc} {S : HP} (hp : e_Pic D cA B S s H) (hS : va_S (e_A B) s.heap H locs) (hl : e_lo ls 5 []) (hsh : s11_moveTail_b43 S  = some res) : W p l e ({ frames := 1, cells := 0, slots := 0, locals := 60 } : Room) s m args below meth c H locs 0 0 (MQ below (e_Qv D cA B res) args s 0 0 (e_A B)) (F0 m 43 ls []) := by
  obtain ⟨hx, hb, hml, hown, hts, hlk, hrt⟩ := id E
  unfold s11_moveTail_b43 at hsh
  cases hsh
  exact e_vret hx hb hrt hlk hp hS dX11_moveTail_43
set_option maxRecDepth 100000 in
set_option maxHeartbeats 4000000 in
theorem c11_moveTail (l : Launch) (D : va_G) (cA : Nat → ClassId) (B : Nat) (S S' : HP) (x0 : Int) (x1 : Int) (x2 : Int) (x3 : Int) (hsh : s11_moveTail S x0 x1 x2 x3 = some S') : Met l yX11_moveTail (e_wu yX11_moveTail cX11_moveTail 5 none) ({ frames := 1, cells := 0, slots := 0, locals := 60 } : Room) (va_Pc [e_rv B (x0), .int (iI (x1)), .int (iI (x2)), .int (iI (x3))] (fun U => e_PU D cA B S U)) (e_Qv D cA B S') 0 0 (e_A B) := by
  refine Met.ofW (cc := cX11_moveTail) (maxL := 5) (ret := none) (by decide +kernel) rfl ?_
  intro p e s m args below meth c s₁ Bd hml hv
  obtain ⟨rfl, hp⟩ := hv
  have hp : e_Pic D cA B S s s.heap := hp
  have hx := Bd.exec
  have hb := Bd.bytes
  have hrt := Bd.returns
  have hlk := Bd.notSynchronized
  have hown : s.vm.findClass RX11 = some m.cls := findClass_of_methodNamed Bd.named
  have hts : ∀ w ∈ e_tb, w.before ([e_rv B (x0), .int (iI (x1)), .int (iI (x2)), .int (iI (x3))] : List Value).toArray s = true := fun w h => atoms_spec (ws := (e_wu yX11_moveTail cX11_moveTail 5 none)) Bd.pre w (List.mem_cons_of_mem _ h)
  have E : e_En p s m ([e_rv B (x0), .int (iI (x1)), .int (iI (x2)), .int (iI (x3))] : List Value).toArray meth c cX11_moveTail RX11 5 none := ⟨hx, hb, hml, hown, hts, hlk, hrt⟩
  have hS : va_S (e_A B) s.heap s.heap [] := va_S.rf
  have hl := e_entry (vs := [e_rv B (x0), .int (iI (x1)), .int (iI (x2)), .int (iI (x3))]) (n := 5) (Nat.le_of_ble_eq_true rfl) (e_cc (e_rv_cat _ _) (e_cc rfl (e_cc rfl (e_cc rfl e_cn))))
  rw [lg_entry_eq]
  generalize (lg_sl [e_rv B (x0), .int (iI (x1)), .int (iI (x2)), .int (iI (x3))] ++ List.replicate (5 - (lg_sl [e_rv B (x0), .int (iI (x1)), .int (iI (x2)), .int (iI (x3))]).length) Slot.unset).toArray = ls at hl ⊢
  generalize ([e_rv B (x0), .int (iI (x1)), .int (iI (x2)), .int (iI (x3))] : List Value).toArray = args at hts E ⊢
  have hl : e_lo ls 5 [(0, e_rv B (x0)), (1, .int (iI (x1))), (2, .int (iI (x2))), (3, .int (iI (x3)))] := hl
  have hsh := (gd_some hsh).2
  refine lv_iload_n hx hb dX11_moveTail_0 rfl (hl.at 1 rfl) ?_
  refine e_if_lt (tgt := 43) hx hb dX11_moveTail_1 (by decide) (fun c1 => ?_) (fun c1 => ?_)
  · rw [if_pos c1] at hsh
    exact w11_moveTail_b43 E hp hS (hl.sub [] rfl) hsh
  · rw [if_neg c1] at hsh
    refine lv_iload_n hx hb dX11_moveTail_4 rfl (hl.at 1 rfl) ?_
    refine e_aload_n (B := B) (x := x0) hx hb dX11_moveTail_5 rfl (hl.at 0 rfl) ?_
    obtain ⟨v6, h6, hsh⟩ := Option.bind_eq_some_iff.mp hsh
    refine e_getI (k := 5) hx hb hts in_X11 hown hp h6 rfl (by decide) (by decide) rfl (hts _ kf11_26) rfl dX11_moveTail_6 ?_
    refine e_icmp_ge (tgt := 43) hx hb dX11_moveTail_9 (by decide) (fun c9 => ?_) (fun c9 => ?_)
    · rw [if_pos c9] at hsh
      exact w11_moveTail_b43 E hp hS (hl.sub [] rfl) hsh
    · rw [if_neg c9] at hsh
      refine lv_iload_n hx hb dX11_moveTail_12 rfl (hl.at 3 rfl) ?_
      refine e_if_lt (tgt := 43) hx hb dX11_moveTail_13 (by decide) (fun c13 => ?_) (fun c13 => ?_)
      · rw [if_pos c13] at hsh
        exact w11_moveTail_b43 E hp hS (hl.sub [] rfl) hsh
      · rw [if_neg c13] at hsh
        refine lv_iload_n hx hb dX11_moveTail_16 rfl (hl.at 3 rfl) ?_
        refine e_aload_n (B := B) (x := x0) hx hb dX11_moveTail_17 rfl (hl.at 0 rfl) ?_
        obtain ⟨v18, h18, hsh⟩ := Option.bind_eq_some_iff.mp hsh
        refine e_getI (k := 5) hx hb hts in_X11 hown hp h18 rfl (by decide) (by decide) rfl (hts _ kf11_26) rfl dX11_moveTail_18 ?_
        refine e_icmp_ge (tgt := 43) hx hb dX11_moveTail_21 (by decide) (fun c21 => ?_) (fun c21 => ?_)
        · rw [if_pos c21] at hsh
          exact w11_moveTail_b43 E hp hS (hl.sub [] rfl) hsh
        · rw [if_neg c21] at hsh
          refine lv_iload_n hx hb dX11_moveTail_24 rfl (hl.at 1 rfl) ?_
          refine lv_iload_n hx hb dX11_moveTail_25 rfl (hl.at 3 rfl) ?_
          refine e_icmp_eq (tgt := 43) hx hb dX11_moveTail_26 (by decide) (fun c26 => ?_) (fun c26 => ?_)
          · rw [if_pos c26] at hsh
            exact w11_moveTail_b43 E hp hS (hl.sub [] rfl) hsh
          · rw [if_neg c26] at hsh
            refine lv_iload_n hx hb dX11_moveTail_29 rfl (hl.at 2 rfl) ?_
            refine e_if_lt (tgt := 43) hx hb dX11_moveTail_30 (by decide) (fun c30 => ?_) (fun c30 => ?_)
            · rw [if_pos c30] at hsh
              exact w11_moveTail_b43 E hp hS (hl.sub [] rfl) hsh
            · rw [if_neg c30] at hsh
              refine lv_iload_n hx hb dX11_moveTail_33 rfl (hl.at 2 rfl) ?_
              refine e_aload_n (B := B) (x := x0) hx hb dX11_moveTail_34 rfl (hl.at 0 rfl) ?_
              obtain ⟨v35, h35, hsh⟩ := Option.bind_eq_some_iff.mp hsh
              refine e_getR (k := 1) hx hb hts in_X11 hown hp h35 rfl (by decide) (by decide) rfl (hts _ kf11_15) rfl dX11_moveTail_35 ?_
              refine lv_iload_n hx hb dX11_moveTail_38 rfl (hl.at 1 rfl) ?_
              obtain ⟨v39, h39, hsh⟩ := Option.bind_eq_some_iff.mp hsh
              refine e_iald hx hb hp h39 dX11_moveTail_39 ?_
              refine e_icmp_le (tgt := 44) hx hb dX11_moveTail_40 (by decide) (fun c40 => ?_) (fun c40 => ?_)
              · rw [if_pos c40] at hsh
                refine e_aload_n (B := B) (x := x0) hx hb dX11_moveTail_44 rfl (hl.at 0 rfl) ?_
                obtain ⟨v45, h45, hsh⟩ := Option.bind_eq_some_iff.mp hsh
                refine e_getR (k := 1) hx hb hts in_X11 hown hp h45 rfl (by decide) (by decide) rfl (hts _ kf11_15) rfl dX11_moveTail_45 ?_
                refine lv_iload_n hx hb dX11_moveTail_48 rfl (hl.at 1 rfl) ?_
                obtain ⟨v49, h49, hsh⟩ := Option.bind_eq_some_iff.mp hsh
                refine e_iald hx hb hp h49 dX11_moveTail_49 ?_
                refine lv_iload_n hx hb dX11_moveTail_50 rfl (hl.at 2 rfl) ?_
                refine e_isub hx hb dX11_moveTail_51 ?_
                refine e_istore (lv' := [(4, .int (iI ((v49 - x2)))), (0, e_rv B (x0)), (1, .int (iI (x1))), (2, .int (iI (x2))), (3, .int (iI (x3)))]) hx hb dX11_moveTail_52 hl (by decide) rfl (fun ls hl => ?_)
                refine e_aload_n (B := B) (x := x0) hx hb dX11_moveTail_54 rfl (hl.at 1 rfl) ?_
                obtain ⟨v55, h55, hsh⟩ := Option.bind_eq_some_iff.mp hsh
                refine e_getR (k := 1) hx hb hts in_X11 hown hp h55 rfl (by decide) (by decide) rfl (hts _ kf11_15) rfl dX11_moveTail_55 ?_
                refine lv_iload_n hx hb dX11_moveTail_58 rfl (hl.at 4 rfl) ?_
                obtain ⟨v59, h59, hsh⟩ := Option.bind_eq_some_iff.mp hsh
                refine e_iald hx hb hp h59 dX11_moveTail_59 ?_
                refine lv_iload hx hb dX11_moveTail_60 (hl.at 0 rfl) ?_
                refine e_iadd hx hb dX11_moveTail_62 ?_
                refine lv_bipush (v := iI (60)) hx hb dX11_moveTail_63 (by decide +kernel) ?_
                refine e_icmp_le (tgt := 69) hx hb dX11_moveTail_65 (by decide) (fun c65 => ?_) (fun c65 => ?_)
                · rw [if_pos c65] at hsh
                  refine e_aload_n (B := B) (x := x0) hx hb dX11_moveTail_69 rfl (hl.at 1 rfl) ?_
                  obtain ⟨v70, h70, hsh⟩ := Option.bind_eq_some_iff.mp hsh
                  refine e_getR (k := 0) hx hb hts in_X11 hown hp h70 rfl (by decide) (by decide) rfl (hts _ kf11_9) rfl dX11_moveTail_70 ?_
                  refine lv_iload_n hx hb dX11_moveTail_73 rfl (hl.at 2 rfl) ?_
                  refine lv_bipush (v := iI (60)) hx hb dX11_moveTail_74 (by decide +kernel) ?_
                  refine e_imul hx hb dX11_moveTail_76 ?_
                  refine lv_iload_n hx hb dX11_moveTail_77 rfl (hl.at 3 rfl) ?_
                  refine e_iadd hx hb dX11_moveTail_78 ?_
                  refine e_aload_n (B := B) (x := x0) hx hb dX11_moveTail_79 rfl (hl.at 1 rfl) ?_
                  obtain ⟨v80, h80, hsh⟩ := Option.bind_eq_some_iff.mp hsh
                  refine e_getR (k := 0) hx hb hts in_X11 hown hp h80 rfl (by decide) (by decide) rfl (hts _ kf11_9) rfl dX11_moveTail_80 ?_
                  refine lv_iload_n hx hb dX11_moveTail_83 rfl (hl.at 4 rfl) ?_
                  refine lv_bipush (v := iI (60)) hx hb dX11_moveTail_84 (by decide +kernel) ?_
                  refine e_imul hx hb dX11_moveTail_86 ?_
                  refine e_aload_n (B := B) (x := x0) hx hb dX11_moveTail_87 rfl (hl.at 1 rfl) ?_
                  obtain ⟨v88, h88, hsh⟩ := Option.bind_eq_some_iff.mp hsh
                  refine e_getR (k := 1) hx hb hts in_X11 hown hp h88 rfl (by decide) (by decide) rfl (hts _ kf11_15) rfl dX11_moveTail_88 ?_
                  refine lv_iload_n hx hb dX11_moveTail_91 rfl (hl.at 4 rfl) ?_
                  obtain ⟨v92, h92, hsh⟩ := Option.bind_eq_some_iff.mp hsh
                  refine e_iald hx hb hp h92 dX11_moveTail_92 ?_
                  refine e_iadd hx hb dX11_moveTail_93 ?_
                  refine lv_iload hx hb dX11_moveTail_94 (hl.at 0 rfl) ?_
                  obtain ⟨S96, h96, hsh⟩ := Option.bind_eq_some_iff.mp hsh
                  refine e_copy (t := 100) (t0 := 0) (rest := []) hx hb (hml.trans hl.size.symm) hown hts kl11_47 kM_acn kM_acs kM_aci hp hS h96 (by decide) (by decide) (by decide) rfl rfl (by have h9 := hS.1; rw [hp.2.2.1] at h9; omega) (Nat.le_of_ble_eq_true rfl) (Nat.le_trans (Nat.add_le_add_right (show _ ≤ 8 by simp [e_rv_cat, e_int_cat]) _) (by decide +kernel)) dX11_moveTail_96 (fun H locs hp hS => ?_)
                  refine e_aload_n (B := B) (x := x0) hx hb dX11_moveTail_99 rfl (hl.at 1 rfl) ?_
                  obtain ⟨v100, h100, hsh⟩ := Option.bind_eq_some_iff.mp hsh
                  refine e_getR (k := 1) hx hb hts in_X11 hown hp h100 rfl (by decide) (by decide) rfl (hts _ kf11_15) rfl dX11_moveTail_100 ?_
                  refine lv_iload_n hx hb dX11_moveTail_103 rfl (hl.at 4 rfl) ?_
                  refine lv_dup2_11 hx hb dX11_moveTail_104 rfl (e_rv_cat _ _) ?_
                  obtain ⟨v105, h105, hsh⟩ := Option.bind_eq_some_iff.mp hsh
                  refine e_iald hx hb hp h105 dX11_moveTail_105 ?_
                  refine lv_iload hx hb dX11_moveTail_106 (hl.at 0 rfl) ?_
                  refine e_iadd hx hb dX11_moveTail_108 ?_
                  obtain ⟨S109, h109, hsh⟩ := Option.bind_eq_some_iff.mp hsh
                  refine e_iast hx hb hp hS h109 dX11_moveTail_109 (fun H locs hp hS => ?_)
                  refine e_aload_n (B := B) (x := x0) hx hb dX11_moveTail_110 rfl (hl.at 1 rfl) ?_
                  obtain ⟨v111, h111, hsh⟩ := Option.bind_eq_some_iff.mp hsh
                  refine e_getR (k := 1) hx hb hts in_X11 hown hp h111 rfl (by decide) (by decide) rfl (hts _ kf11_15) rfl dX11_moveTail_111 ?_
                  refine lv_iload_n hx hb dX11_moveTail_114 rfl (hl.at 2 rfl) ?_
                  refine lv_iload_n hx hb dX11_moveTail_115 rfl (hl.at 3 rfl) ?_
                  obtain ⟨S116, h116, hsh⟩ := Option.bind_eq_some_iff.mp hsh
                  refine e_iast hx hb hp hS h116 dX11_moveTail_116 (fun H locs hp hS => ?_)
                  cases hsh
                  exact e_vret hx hb hrt hlk hp hS dX11_moveTail_117
                · rw [if_neg c65] at hsh
                  cases hsh
                  exact e_vret hx hb hrt hlk hp hS dX11_moveTail_68
              · rw [if_neg c40] at hsh
                exact w11_moveTail_b43 E hp hS (hl.sub [] rfl) hsh
theorem ok11_compareLines {S : HP} {x0 : Int} {x1 : Int} {x2 : Int} {r : Int × HP} (h : s11_compareLines S x0 x1 x2 = some r) : 0 ≤ x0 ∧ x0.toNat < e_n S ∧ e_g S x0.toNat = 11 := (gd_some h).1
set_option maxRecDepth 100000 in
set_option maxHeartbeats 4000000 in
theorem w11_compareLines_l17 {p : Program} {l : Launch} {e : Env} {s : State} {m : MethodId} {args : Array Value} {below : List Frame} {meth : Method} {c : Code} {D : va_G} {cA : Nat → ClassId} {B : Nat} {res : Int × HP} (E : e_En p s m args meth c cX11_compareLines RX11 6 (some .int)) : ∀ (f : Nat) {ls : Array Slot} {H : Heap} {locs : List Loc} {S : HP} {x0 : Int} {x1 : Int} {x2 : Int} {x3 : Int} {x4 : Int} (hp : e_Pic D cA B S s H) (hS : va_S (e_A B) s.heap H locs) (hl : e_lo ls 6 [(0, e_rv B (x0)), (1, .int (iI (x1))), (2, .int (iI (x2))), (3, .int (iI (x3))), (4, .int (iI (x4)))]) (hsh : s11_compareLines_l17 f S x0 x1 x2 x3 x4 = some res), W p l e ({ frames := 1, cells := 0, slots := 0, locals := 21 } : Room) s m args below meth c H locs 0 0 (MQ below (e_Qi D cA B res.1 res.2) args s 0 0 (e_A B)) (F0 m 17 ls []) := by
  obtain ⟨hx, hb, hml, hown, hts, hlk, hrt⟩ := id E
  intro f
  induction f with
  | zero => intro ls H locs S x0 x1 x2 x3 x4 hp hS hl hsh; cases hsh
  | succ f ih =>
    intro ls H locs S x0 x1 x2 x3 x4 hp hS hl hsh
    have hk17 : ∀ {ls : Array Slot} {H : Heap} {locs : List Loc} {S : HP} {x0 : Int} {x1 : Int} {x2 : Int} {x3 : Int} {x4 : Int} (hp : e_Pic D cA B S s H) (hS : va_S (e_A B) s.heap H locs) (hl : e_lo ls 6 [(0, e_rv B (x0)), (1, .int (iI (x1))), (2, .int (iI (x2))), (3, .int (iI (x3))), (4, .int (iI (x4)))]) (hsh : (s11_compareLines_l17 f) S x0 x1 x2 x3 x4 = some res), W p l e ({ frames := 1, cells := 0, slots := 0, locals := 21 } : Room) s m args below meth c H locs 0 0 (MQ below (e_Qi D cA B res.1 res.2) args s 0 0 (e_A B)) (F0 m 17 ls []) := ih
    generalize hkk : s11_compareLines_l17 f = k17 at hk17
    rw [s11_compareLines_l17] at hsh
    rw [hkk] at hsh
    try dsimp only at hsh
    refine lv_iload hx hb dX11_compareLines_17 (hl.at 4 rfl) ?_
    refine lv_iload_n hx hb dX11_compareLines_19 rfl (hl.at 3 rfl) ?_
    refine e_icmp_ge (tgt := 64) hx hb dX11_compareLines_20 (by decide) (fun c20 => ?_) (fun c20 => ?_)
    · rw [if_pos c20] at hsh
      refine e_aload_n (B := B) (x := x0) hx hb dX11_compareLines_64 rfl (hl.at 0 rfl) ?_
      refine lv_iload_n hx hb dX11_compareLines_65 rfl (hl.at 1 rfl) ?_
      obtain ⟨⟨v66, S66⟩, h66, hsh⟩ := Option.bind_eq_some_iff.mp hsh
      have hsh : _ = _ := hsh
      try dsimp only at hsh
      have ok66 := ok11_sizeOf h66
      refine e_callI (nL := 6) (mc := 0) (ms := 0) (T := TX11) (N := 6) (As := [.int (iI (x1))]) (rest := []) hx hb hml hown hts hp hS hl.size ok66.1 ok66.2.1 ok66.2.2 rfl (by decide) (c11_sizeOf l D cA B S S66 (x0) (x1) v66 h66) rfl rfl kd11_sizeOf (kl11_33) ks11_sizeOf kv11_sizeOf ki11 kh11_sizeOf ⟨Nat.le_of_ble_eq_true rfl, Nat.le_of_ble_eq_true rfl⟩ rfl (by simp [e_rv_cat, e_int_cat]) ⟨Nat.le_refl _, Nat.le_refl _⟩ dX11_compareLines_66 rfl (fun H locs hp hS => ?_)
      refine e_aload_n (B := B) (x := x0) hx hb dX11_compareLines_69 rfl (hl.at 0 rfl) ?_
      refine lv_iload_n hx hb dX11_compareLines_70 rfl (hl.at 2 rfl) ?_
      obtain ⟨⟨v71, S71⟩, h71, hsh⟩ := Option.bind_eq_some_iff.mp hsh
      have hsh : _ = _ := hsh
      try dsimp only at hsh
      have ok71 := ok11_sizeOf h71
      refine e_callI (nL := 6) (mc := 0) (ms := 0) (T := TX11) (N := 6) (As := [.int (iI (x2))]) (rest := [.int (iI (v66))]) hx hb hml hown hts hp hS hl.size ok71.1 ok71.2.1 ok71.2.2 rfl (by decide) (c11_sizeOf l D cA B S66 S71 (x0) (x2) v71 h71) rfl rfl kd11_sizeOf (kl11_33) ks11_sizeOf kv11_sizeOf ki11 kh11_sizeOf ⟨Nat.le_of_ble_eq_true rfl, Nat.le_of_ble_eq_true rfl⟩ rfl (by simp [e_rv_cat, e_int_cat]) ⟨Nat.le_refl _, Nat.le_refl _⟩ dX11_compareLines_71 rfl (fun H locs hp hS => ?_)
      refine e_isub hx hb dX11_compareLines_74 ?_
      cases hsh
      exact e_iret hx hb hrt hlk hp hS dX11_compareLines_75
    · rw [if_neg c20] at hsh
      refine e_aload_n (B := B) (x := x0) hx hb dX11_compareLines_23 rfl (hl.at 0 rfl) ?_
      obtain ⟨v24, h24, hsh⟩ := Option.bind_eq_some_iff.mp hsh
      refine e_getR (k := 0) hx hb hts in_X11 hown hp h24 rfl (by decide) (by decide) rfl (hts _ kf11_9) rfl dX11_compareLines_24 ?_
      refine lv_iload_n hx hb dX11_compareLines_27 rfl (hl.at 1 rfl) ?_
      refine lv_bipush (v := iI (60)) hx hb dX11_compareLines_28 (by decide +kernel) ?_
      refine e_imul hx hb dX11_compareLines_30 ?_
      refine lv_iload hx hb dX11_compareLines_31 (hl.at 4 rfl) ?_
      refine e_iadd hx hb dX11_compareLines_33 ?_
      obtain ⟨v34, h34, hsh⟩ := Option.bind_eq_some_iff.mp hsh
      refine e_cald hx hb hp h34 dX11_compareLines_34 ?_
      refine e_aload_n (B := B) (x := x0) hx hb dX11_compareLines_35 rfl (hl.at 0 rfl) ?_
      obtain ⟨v36, h36, hsh⟩ := Option.bind_eq_some_iff.mp hsh
      refine e_getR (k := 0) hx hb hts in_X11 hown hp h36 rfl (by decide) (by decide) rfl (hts _ kf11_9) rfl dX11_compareLines_36 ?_
      refine lv_iload_n hx hb dX11_compareLines_39 rfl (hl.at 2 rfl) ?_
      refine lv_bipush (v := iI (60)) hx hb dX11_compareLines_40 (by decide +kernel) ?_
      refine e_imul hx hb dX11_compareLines_42 ?_
      refine lv_iload hx hb dX11_compareLines_43 (hl.at 4 rfl) ?_
      refine e_iadd hx hb dX11_compareLines_45 ?_
      obtain ⟨v46, h46, hsh⟩ := Option.bind_eq_some_iff.mp hsh
      refine e_cald hx hb hp h46 dX11_compareLines_46 ?_
      refine e_isub hx hb dX11_compareLines_47 ?_
      refine e_istore (lv' := [(5, .int (iI ((v34 - v46)))), (0, e_rv B (x0)), (1, .int (iI (x1))), (2, .int (iI (x2))), (3, .int (iI (x3))), (4, .int (iI (x4)))]) hx hb dX11_compareLines_48 hl (by decide) rfl (fun ls hl => ?_)
      refine lv_iload hx hb dX11_compareLines_50 (hl.at 0 rfl) ?_
      refine e_if_eq (tgt := 58) hx hb dX11_compareLines_52 (by decide) (fun c52 => ?_) (fun c52 => ?_)
      · rw [if_pos c52] at hsh
        refine e_iinc (n := 1) (x := x4) (lv' := [(4, .int (iI ((x4 + 1)))), (5, .int (iI ((v34 - v46)))), (0, e_rv B (x0)), (1, .int (iI (x1))), (2, .int (iI (x2))), (3, .int (iI (x3)))]) hx hb dX11_compareLines_58 hl (k := 5) rfl (by decide) rfl (fun ls hl => ?_)
        refine lv_goto (tgt := 17) hx hb dX11_compareLines_61 (by decide) ?_
        exact hk17 hp hS (hl.sub [2, 3, 4, 5, 0] rfl) hsh
      · rw [if_neg c52] at hsh
        refine lv_iload hx hb dX11_compareLines_55 (hl.at 0 rfl) ?_
        cases hsh
        exact e_iret hx hb hrt hlk hp hS dX11_compareLines_57
set_option maxRecDepth 100000 in
set_option maxHeartbeats 4000000 in
theorem c11_compareLines (l : Launch) (D : va_G) (cA : Nat → ClassId) (B : Nat) (S S' : HP) (x0 : Int) (x1 : Int) (x2 : Int) (r : Int) (hsh : s11_compareLines S x0 x1 x2 = some (r, S')) : Met l yX11_compareLines (e_wu yX11_compareLines cX11_compareLines 6 (some .int)) ({ frames := 1, cells := 0, slots := 0, locals := 21 } : Room) (va_Pc [e_rv B (x0), .int (iI (x1)), .int (iI (x2))] (fun U => e_PU D cA B S U)) (e_Qi D cA B r S') 0 0 (e_A B) := by
  refine Met.ofW (cc := cX11_compareLines) (maxL := 6) (ret := (some .int)) (by decide +kernel) rfl ?_
  intro p e s m args below meth c s₁ Bd hml hv
  obtain ⟨rfl, hp⟩ := hv
  have hp : e_Pic D cA B S s s.heap := hp
  have hx := Bd.exec
  have hb := Bd.bytes
  have hrt := Bd.returns
  have hlk := Bd.notSynchronized
  have hown : s.vm.findClass RX11 = some m.cls := findClass_of_methodNamed Bd.named
  have hts : ∀ w ∈ e_tb, w.before ([e_rv B (x0), .int (iI (x1)), .int (iI (x2))] : List Value).toArray s = true := fun w h => atoms_spec (ws := (e_wu yX11_compareLines cX11_compareLines 6 (some .int))) Bd.pre w (List.mem_cons_of_mem _ h)
  have E : e_En p s m ([e_rv B (x0), .int (iI (x1)), .int (iI (x2))] : List Value).toArray meth c cX11_compareLines RX11 6 (some .int) := ⟨hx, hb, hml, hown, hts, hlk, hrt⟩
  have hS : va_S (e_A B) s.heap s.heap [] := va_S.rf
  have hl := e_entry (vs := [e_rv B (x0), .int (iI (x1)), .int (iI (x2))]) (n := 6) (Nat.le_of_ble_eq_true rfl) (e_cc (e_rv_cat _ _) (e_cc rfl (e_cc rfl e_cn)))
  rw [lg_entry_eq]
  generalize (lg_sl [e_rv B (x0), .int (iI (x1)), .int (iI (x2))] ++ List.replicate (6 - (lg_sl [e_rv B (x0), .int (iI (x1)), .int (iI (x2))]).length) Slot.unset).toArray = ls at hl ⊢
  generalize ([e_rv B (x0), .int (iI (x1)), .int (iI (x2))] : List Value).toArray = args at hts E ⊢
  have hl : e_lo ls 6 [(0, e_rv B (x0)), (1, .int (iI (x1))), (2, .int (iI (x2)))] := hl
  have hsh := (gd_some hsh).2
  refine e_aload_n (B := B) (x := x0) hx hb dX11_compareLines_0 rfl (hl.at 0 rfl) ?_
  refine lv_iload_n hx hb dX11_compareLines_1 rfl (hl.at 1 rfl) ?_
  obtain ⟨⟨v2, S2⟩, h2, hsh⟩ := Option.bind_eq_some_iff.mp hsh
  have hsh : _ = _ := hsh
  try dsimp only at hsh
  have ok2 := ok11_sizeOf h2
  refine e_callI (nL := 6) (mc := 0) (ms := 0) (T := TX11) (N := 6) (As := [.int (iI (x1))]) (rest := []) hx hb hml hown hts hp hS hl.size ok2.1 ok2.2.1 ok2.2.2 rfl (by decide) (c11_sizeOf l D cA B S S2 (x0) (x1) v2 h2) rfl rfl kd11_sizeOf (kl11_33) ks11_sizeOf kv11_sizeOf ki11 kh11_sizeOf ⟨Nat.le_of_ble_eq_true rfl, Nat.le_of_ble_eq_true rfl⟩ rfl (by simp [e_rv_cat, e_int_cat]) ⟨Nat.le_refl _, Nat.le_refl _⟩ dX11_compareLines_2 rfl (fun H locs hp hS => ?_)
  refine e_aload_n (B := B) (x := x0) hx hb dX11_compareLines_5 rfl (hl.at 0 rfl) ?_
  refine lv_iload_n hx hb dX11_compareLines_6 rfl (hl.at 2 rfl) ?_
  obtain ⟨⟨v7, S7⟩, h7, hsh⟩ := Option.bind_eq_some_iff.mp hsh
  have hsh : _ = _ := hsh
  try dsimp only at hsh
  have ok7 := ok11_sizeOf h7
  refine e_callI (nL := 6) (mc := 0) (ms := 0) (T := TX11) (N := 6) (As := [.int (iI (x2))]) (rest := [.int (iI (v2))]) hx hb hml hown hts hp hS hl.size ok7.1 ok7.2.1 ok7.2.2 rfl (by decide) (c11_sizeOf l D cA B S2 S7 (x0) (x2) v7 h7) rfl rfl kd11_sizeOf (kl11_33) ks11_sizeOf kv11_sizeOf ki11 kh11_sizeOf ⟨Nat.le_of_ble_eq_true rfl, Nat.le_of_ble_eq_true rfl⟩ rfl (by simp [e_rv_cat, e_int_cat]) ⟨Nat.le_refl _, Nat.le_refl _⟩ dX11_compareLines_7 rfl (fun H locs hp hS => ?_)
  refine e_min (rest := []) hx hb (hml.trans hl.size.symm) hown hts kl11_41 kM_min_s kM_i kM_min_c (Nat.le_of_ble_eq_true rfl) (Nat.le_trans (Nat.add_le_add_right (show _ ≤ 8 by simp [e_rv_cat, e_int_cat]) 13) (Nat.le_of_ble_eq_true rfl)) (Nat.le_refl _) (Nat.le_refl _) dX11_compareLines_10 ?_
  refine e_istore_n (lv' := [(3, .int (iI ((iMn (v2) (v7))))), (0, e_rv B (x0)), (1, .int (iI (x1))), (2, .int (iI (x2)))]) hx hb dX11_compareLines_13 rfl hl (by decide) rfl (fun ls hl => ?_)
  refine lv_iconst (v := iI (0)) hx hb dX11_compareLines_14 rfl ?_
  refine e_istore (lv' := [(4, .int (iI (0))), (3, .int (iI ((iMn (v2) (v7))))), (0, e_rv B (x0)), (1, .int (iI (x1))), (2, .int (iI (x2)))]) hx hb dX11_compareLines_15 hl (by decide) rfl (fun ls hl => ?_)
  exact w11_compareLines_l17 E 1000000 hp hS (hl.sub [2, 3, 4, 1, 0] rfl) hsh
theorem ok11_hasAt {S : HP} {x0 : Int} {x1 : Int} {x2 : Int} {x3 : Int} {r : Int × HP} (h : s11_hasAt S x0 x1 x2 x3 = some r) : 0 ≤ x0 ∧ x0.toNat < e_n S ∧ e_g S x0.toNat = 11 := (gd_some h).1
set_option maxRecDepth 100000 in
set_option maxHeartbeats 4000000 in
theorem w11_hasAt_b31 {p : Program} {l : Launch} {e : Env} {s : State} {m : MethodId} {args : Array Value} {below : List Frame} {meth : Method} {c : Code} {D : va_G} {cA : Nat → ClassId} {B : Nat} {res : Int × HP} (E : e_En p s m args meth c cX11_hasAt RX11 5 (some .boolean)) {ls : Array Slot} {H : Heap} {locs : List Loc} {S : HP} (hp : e_Pic D cA B S s H) (hS : va_S (e_A B) s.heap H locs) (hl : e_lo ls 5 []) (hsh : s11_hasAt_b31 S  = some res) : W p l e ({ frames := 0, cells := 0, slots := 0, locals := 0 } : Room) s m args below meth c H locs 0 0 (MQ below (e_Qi D cA B res.1 res.2) args s 0 0 (e_A B)) (F0 m 31 ls []) := by
  obtain ⟨hx, hb, hml, hown, hts, hlk, hrt⟩ := id E
  unfold s11_hasAt_b31 at hsh
  refine lv_iconst (v := iI (0)) hx hb dX11_hasAt_31 rfl ?_
  obtain ⟨hz, hz1, hz2⟩ := zR_some hsh
  rw [← hz1, ← hz2]
  exact e_zret hx hb hrt hlk hp hS hz dX11_hasAt_32
set_option maxRecDepth 100000 in
set_option maxHeartbeats 4000000 in
theorem w11_hasAt_l36 {p : Program} {l : Launch} {e : Env} {s : State} {m : MethodId} {args : Array Value} {below : List Frame} {meth : Method} {c : Code} {D : va_G} {cA : Nat → ClassId} {B : Nat} {res : Int × HP} (E : e_En p s m args meth c cX11_hasAt RX11 5 (some .boolean)) : ∀ (f : Nat) {ls : Array Slot} {H : Heap} {locs : List Loc} {S : HP} {x0 : Int} {x1 : Int} {x2 : Int} {x3 : Int} {x4 : Int} (hp : e_Pic D cA B S s H) (hS : va_S (e_A B) s.heap H locs) (hl : e_lo ls 5 [(0, e_rv B (x0)), (1, .int (iI (x1))), (2, .int (iI (x2))), (3, e_rv B (x3)), (4, .int (iI (x4)))]) (hsh : s11_hasAt_l36 f S x0 x1 x2 x3 x4 = some res), W p l e ({ frames := 0, cells := 0, slots := 0, locals := 0 } : Room) s m args below meth c H locs 0 0 (MQ below (e_Qi D cA B res.1 res.2) args s 0 0 (e_A B)) (F0 m 36 ls []) := by
  obtain ⟨hx, hb, hml, hown, hts, hlk, hrt⟩ := id E
  intro f
  induction f with
  | zero => intro ls H locs S x0 x1 x2 x3 x4 hp hS hl hsh; cases hsh
  | succ f ih =>
    intro ls H locs S x0 x1 x2 x3 x4 hp hS hl hsh
    have hk36 : ∀ {ls : Array Slot} {H : Heap} {locs : List Loc} {S : HP} {x0 : Int} {x1 : Int} {x2 : Int} {x3 : Int} {x4 : Int} (hp : e_Pic D cA B S s H) (hS : va_S (e_A B) s.heap H locs) (hl : e_lo ls 5 [(0, e_rv B (x0)), (1, .int (iI (x1))), (2, .int (iI (x2))), (3, e_rv B (x3)), (4, .int (iI (x4)))]) (hsh : (s11_hasAt_l36 f) S x0 x1 x2 x3 x4 = some res), W p l e ({ frames := 0, cells := 0, slots := 0, locals := 0 } : Room) s m args below meth c H locs 0 0 (MQ below (e_Qi D cA B res.1 res.2) args s 0 0 (e_A B)) (F0 m 36 ls []) := ih
    generalize hkk : s11_hasAt_l36 f = k36 at hk36
    rw [s11_hasAt_l36] at hsh
    rw [hkk] at hsh
    try dsimp only at hsh
    refine lv_iload hx hb dX11_hasAt_36 (hl.at 4 rfl) ?_
    refine e_aload_n (B := B) (x := x3) hx hb dX11_hasAt_38 rfl (hl.at 3 rfl) ?_
    obtain ⟨v39, h39, hsh⟩ := Option.bind_eq_some_iff.mp hsh
    refine e_getI (k := 1) hx hb hts in_X10 hown hp h39 rfl (by decide) (by decide) rfl (hts _ kf11_53) rfl dX11_hasAt_39 ?_
    refine e_icmp_ge (tgt := 77) hx hb dX11_hasAt_42 (by decide) (fun c42 => ?_) (fun c42 => ?_)
    · rw [if_pos c42] at hsh
      refine lv_iconst (v := iI (1)) hx hb dX11_hasAt_77 rfl ?_
      obtain ⟨hz, hz1, hz2⟩ := zR_some hsh
      rw [← hz1, ← hz2]
      exact e_zret hx hb hrt hlk hp hS hz dX11_hasAt_78
    · rw [if_neg c42] at hsh
      refine e_aload_n (B := B) (x := x0) hx hb dX11_hasAt_45 rfl (hl.at 0 rfl) ?_
      obtain ⟨v46, h46, hsh⟩ := Option.bind_eq_some_iff.mp hsh
      refine e_getR (k := 0) hx hb hts in_X11 hown hp h46 rfl (by decide) (by decide) rfl (hts _ kf11_9) rfl dX11_hasAt_46 ?_
      refine lv_iload_n hx hb dX11_hasAt_49 rfl (hl.at 1 rfl) ?_
      refine lv_bipush (v := iI (60)) hx hb dX11_hasAt_50 (by decide +kernel) ?_
      refine e_imul hx hb dX11_hasAt_52 ?_
      refine lv_iload_n hx hb dX11_hasAt_53 rfl (hl.at 2 rfl) ?_
      refine e_iadd hx hb dX11_hasAt_54 ?_
      refine lv_iload hx hb dX11_hasAt_55 (hl.at 4 rfl) ?_
      refine e_iadd hx hb dX11_hasAt_57 ?_
      obtain ⟨v58, h58, hsh⟩ := Option.bind_eq_some_iff.mp hsh
      refine e_cald hx hb hp h58 dX11_hasAt_58 ?_
      refine e_aload_n (B := B) (x := x3) hx hb dX11_hasAt_59 rfl (hl.at 3 rfl) ?_
      obtain ⟨v60, h60, hsh⟩ := Option.bind_eq_some_iff.mp hsh
      refine e_getR (k := 0) hx hb hts in_X10 hown hp h60 rfl (by decide) (by decide) rfl (hts _ kf11_58) rfl dX11_hasAt_60 ?_
      refine lv_iload hx hb dX11_hasAt_63 (hl.at 4 rfl) ?_
      obtain ⟨v65, h65, hsh⟩ := Option.bind_eq_some_iff.mp hsh
      refine e_cald hx hb hp h65 dX11_hasAt_65 ?_
      refine e_icmp_eq (tgt := 71) hx hb dX11_hasAt_66 (by decide) (fun c66 => ?_) (fun c66 => ?_)
      · rw [if_pos c66] at hsh
        refine e_iinc (n := 1) (x := x4) (lv' := [(4, .int (iI ((x4 + 1)))), (0, e_rv B (x0)), (1, .int (iI (x1))), (2, .int (iI (x2))), (3, e_rv B (x3))]) hx hb dX11_hasAt_71 hl (k := 4) rfl (by decide) rfl (fun ls hl => ?_)
        refine lv_goto (tgt := 36) hx hb dX11_hasAt_74 (by decide) ?_
        exact hk36 hp hS (hl.sub [1, 2, 3, 4, 0] rfl) hsh
      · rw [if_neg c66] at hsh
        refine lv_iconst (v := iI (0)) hx hb dX11_hasAt_69 rfl ?_
        obtain ⟨hz, hz1, hz2⟩ := zR_some hsh
        rw [← hz1, ← hz2]
        exact e_zret hx hb hrt hlk hp hS hz dX11_hasAt_70
set_option maxRecDepth 100000 in
set_option maxHeartbeats 4000000 in
theorem c11_hasAt (l : Launch) (D : va_G) (cA : Nat → ClassId) (B : Nat) (S S' : HP) (x0 : Int) (x1 : Int) (x2 : Int) (x3 : Int) (r : Int) (hsh : s11_hasAt S x0 x1 x2 x3 = some (r, S')) : Met l yX11_hasAt (e_wu yX11_hasAt cX11_hasAt 5 (some .boolean)) ({ frames := 0, cells := 0, slots := 0, locals := 0 } : Room) (va_Pc [e_rv B (x0), .int (iI (x1)), .int (iI (x2)), e_rv B (x3)] (fun U => e_PU D cA B S U)) (e_Qi D cA B r S') 0 0 (e_A B) := by
  refine Met.ofW (cc := cX11_hasAt) (maxL := 5) (ret := (some .boolean)) (by decide +kernel) rfl ?_
  intro p e s m args below meth c s₁ Bd hml hv
  obtain ⟨rfl, hp⟩ := hv
  have hp : e_Pic D cA B S s s.heap := hp
  have hx := Bd.exec
  have hb := Bd.bytes
  have hrt := Bd.returns
  have hlk := Bd.notSynchronized
  have hown : s.vm.findClass RX11 = some m.cls := findClass_of_methodNamed Bd.named
  have hts : ∀ w ∈ e_tb, w.before ([e_rv B (x0), .int (iI (x1)), .int (iI (x2)), e_rv B (x3)] : List Value).toArray s = true := fun w h => atoms_spec (ws := (e_wu yX11_hasAt cX11_hasAt 5 (some .boolean))) Bd.pre w (List.mem_cons_of_mem _ h)
  have E : e_En p s m ([e_rv B (x0), .int (iI (x1)), .int (iI (x2)), e_rv B (x3)] : List Value).toArray meth c cX11_hasAt RX11 5 (some .boolean) := ⟨hx, hb, hml, hown, hts, hlk, hrt⟩
  have hS : va_S (e_A B) s.heap s.heap [] := va_S.rf
  have hl := e_entry (vs := [e_rv B (x0), .int (iI (x1)), .int (iI (x2)), e_rv B (x3)]) (n := 5) (Nat.le_of_ble_eq_true rfl) (e_cc (e_rv_cat _ _) (e_cc rfl (e_cc rfl (e_cc (e_rv_cat _ _) e_cn))))
  rw [lg_entry_eq]
  generalize (lg_sl [e_rv B (x0), .int (iI (x1)), .int (iI (x2)), e_rv B (x3)] ++ List.replicate (5 - (lg_sl [e_rv B (x0), .int (iI (x1)), .int (iI (x2)), e_rv B (x3)]).length) Slot.unset).toArray = ls at hl ⊢
  generalize ([e_rv B (x0), .int (iI (x1)), .int (iI (x2)), e_rv B (x3)] : List Value).toArray = args at hts E ⊢
  have hl : e_lo ls 5 [(0, e_rv B (x0)), (1, .int (iI (x1))), (2, .int (iI (x2))), (3, e_rv B (x3))] := hl
  have hsh := (gd_some hsh).2
  refine lv_iload_n hx hb dX11_hasAt_0 rfl (hl.at 1 rfl) ?_
  refine e_if_lt (tgt := 31) hx hb dX11_hasAt_1 (by decide) (fun c1 => ?_) (fun c1 => ?_)
  · rw [if_pos c1] at hsh
    exact w11_hasAt_b31 E hp hS (hl.sub [] rfl) hsh
  · rw [if_neg c1] at hsh
    refine lv_iload_n hx hb dX11_hasAt_4 rfl (hl.at 1 rfl) ?_
    refine e_aload_n (B := B) (x := x0) hx hb dX11_hasAt_5 rfl (hl.at 0 rfl) ?_
    obtain ⟨v6, h6, hsh⟩ := Option.bind_eq_some_iff.mp hsh
    refine e_getI (k := 5) hx hb hts in_X11 hown hp h6 rfl (by decide) (by decide) rfl (hts _ kf11_26) rfl dX11_hasAt_6 ?_
    refine e_icmp_ge (tgt := 31) hx hb dX11_hasAt_9 (by decide) (fun c9 => ?_) (fun c9 => ?_)
    · rw [if_pos c9] at hsh
      exact w11_hasAt_b31 E hp hS (hl.sub [] rfl) hsh
    · rw [if_neg c9] at hsh
      refine lv_iload_n hx hb dX11_hasAt_12 rfl (hl.at 2 rfl) ?_
      refine e_if_lt (tgt := 31) hx hb dX11_hasAt_13 (by decide) (fun c13 => ?_) (fun c13 => ?_)
      · rw [if_pos c13] at hsh
        exact w11_hasAt_b31 E hp hS (hl.sub [] rfl) hsh
      · rw [if_neg c13] at hsh
        refine lv_iload_n hx hb dX11_hasAt_16 rfl (hl.at 2 rfl) ?_
        refine e_aload_n (B := B) (x := x3) hx hb dX11_hasAt_17 rfl (hl.at 3 rfl) ?_
        obtain ⟨v18, h18, hsh⟩ := Option.bind_eq_some_iff.mp hsh
        refine e_getI (k := 1) hx hb hts in_X10 hown hp h18 rfl (by decide) (by decide) rfl (hts _ kf11_53) rfl dX11_hasAt_18 ?_
        refine e_iadd hx hb dX11_hasAt_21 ?_
        refine e_aload_n (B := B) (x := x0) hx hb dX11_hasAt_22 rfl (hl.at 0 rfl) ?_
        obtain ⟨v23, h23, hsh⟩ := Option.bind_eq_some_iff.mp hsh
        refine e_getR (k := 1) hx hb hts in_X11 hown hp h23 rfl (by decide) (by decide) rfl (hts _ kf11_15) rfl dX11_hasAt_23 ?_
        refine lv_iload_n hx hb dX11_hasAt_26 rfl (hl.at 1 rfl) ?_
        obtain ⟨v27, h27, hsh⟩ := Option.bind_eq_some_iff.mp hsh
        refine e_iald hx hb hp h27 dX11_hasAt_27 ?_
        refine e_icmp_le (tgt := 33) hx hb dX11_hasAt_28 (by decide) (fun c28 => ?_) (fun c28 => ?_)
        · rw [if_pos c28] at hsh
          refine lv_iconst (v := iI (0)) hx hb dX11_hasAt_33 rfl ?_
          refine e_istore (lv' := [(4, .int (iI (0))), (0, e_rv B (x0)), (1, .int (iI (x1))), (2, .int (iI (x2))), (3, e_rv B (x3))]) hx hb dX11_hasAt_34 hl (by decide) rfl (fun ls hl => ?_)
          exact w11_hasAt_l36 E 1000000 hp hS (hl.sub [1, 2, 3, 4, 0] rfl) hsh
        · rw [if_neg c28] at hsh
          exact w11_hasAt_b31 E hp hS (hl.sub [] rfl) hsh
theorem ok11_findIn {S : HP} {x0 : Int} {x1 : Int} {x2 : Int} {x3 : Int} {r : Int × HP} (h : s11_findIn S x0 x1 x2 x3 = some r) : 0 ≤ x0 ∧ x0.toNat < e_n S ∧ e_g S x0.toNat = 11 := (gd_some h).1
set_option maxRecDepth 100000 in
set_option maxHeartbeats 4000000 in
theorem w11_findIn_l19 {p : Program} {l : Launch} {e : Env} {s : State} {m : MethodId} {args : Array Value} {below : List Frame} {meth : Method} {c : Code} {D : va_G} {cA : Nat → ClassId} {B : Nat} {res : Int × HP} (E : e_En p s m args meth c cX11_findIn RX11 6 (some .int)) : ∀ (f : Nat) {ls : Array Slot} {H : Heap} {locs : List Loc} {S : HP} {x0 : Int} {x1 : Int} {x3 : Int} {x4 : Int} {x5 : Int} (hp : e_Pic D cA B S s H) (hS : va_S (e_A B) s.heap H locs) (hl : e_lo ls 6 [(0, e_rv B (x0)), (1, .int (iI (x1))), (3, e_rv B (x3)), (4, .int (iI (x4))), (5, .int (iI (x5)))]) (hsh : s11_findIn_l19 f S x0 x1 x3 x4 x5 = some res), W p l e ({ frames := 1, cells := 0, slots := 0, locals := 24 } : Room) s m args below meth c H locs 0 0 (MQ below (e_Qi D cA B res.1 res.2) args s 0 0 (e_A B)) (F0 m 19 ls []) := by
  obtain ⟨hx, hb, hml, hown, hts, hlk, hrt⟩ := id E
  intro f
  induction f with
  | zero => intro ls H locs S x0 x1 x3 x4 x5 hp hS hl hsh; cases hsh
  | succ f ih =>
    intro ls H locs S x0 x1 x3 x4 x5 hp hS hl hsh
    have hk19 : ∀ {ls : Array Slot} {H : Heap} {locs : List Loc} {S : HP} {x0 : Int} {x1 : Int} {x3 : Int} {x4 : Int} {x5 : Int} (hp : e_Pic D cA B S s H) (hS : va_S (e_A B) s.heap H locs) (hl : e_lo ls 6 [(0, e_rv B (x0)), (1, .int (iI (x1))), (3, e_rv B (x3)), (4, .int (iI (x4))), (5, .int (iI (x5)))]) (hsh : (s11_findIn_l19 f) S x0 x1 x3 x4 x5 = some res), W p l e ({ frames := 1, cells := 0, slots := 0, locals := 24 } : Room) s m args below meth c H locs 0 0 (MQ below (e_Qi D cA B res.1 res.2) args s 0 0 (e_A B)) (F0 m 19 ls []) := ih
    generalize hkk : s11_findIn_l19 f = k19 at hk19
    rw [s11_findIn_l19] at hsh
    rw [hkk] at hsh
    try dsimp only at hsh
    refine lv_iload hx hb dX11_findIn_19 (hl.at 4 rfl) ?_
    refine lv_iload hx hb dX11_findIn_21 (hl.at 3 rfl) ?_
    refine e_icmp_gt (tgt := 46) hx hb dX11_findIn_23 (by decide) (fun c23 => ?_) (fun c23 => ?_)
    · rw [if_pos c23] at hsh
      refine lv_iconst (v := iI (-1)) hx hb dX11_findIn_46 rfl ?_
      cases hsh
      exact e_iret hx hb hrt hlk hp hS dX11_findIn_47
    · rw [if_neg c23] at hsh
      refine e_aload_n (B := B) (x := x0) hx hb dX11_findIn_26 rfl (hl.at 0 rfl) ?_
      refine lv_iload_n hx hb dX11_findIn_27 rfl (hl.at 1 rfl) ?_
      refine lv_iload hx hb dX11_findIn_28 (hl.at 4 rfl) ?_
      refine e_aload_n (B := B) (x := x3) hx hb dX11_findIn_30 rfl (hl.at 2 rfl) ?_
      obtain ⟨⟨v31, S31⟩, h31, hsh⟩ := Option.bind_eq_some_iff.mp hsh
      have hsh : _ = _ := hsh
      try dsimp only at hsh
      have ok31 := ok11_hasAt h31
      refine e_callI (nL := 6) (mc := 0) (ms := 0) (T := TX11) (N := 6) (As := [.int (iI (x1)), .int (iI (x5)), e_rv B (x3)]) (rest := []) hx hb hml hown hts hp hS hl.size ok31.1 ok31.2.1 ok31.2.2 rfl (by decide) (c11_hasAt l D cA B S S31 (x0) (x1) (x5) (x3) v31 h31) rfl rfl kd11_hasAt (kl11_74) ks11_hasAt kv11_hasAt ki11 kh11_hasAt ⟨Nat.le_of_ble_eq_true rfl, Nat.le_of_ble_eq_true rfl⟩ rfl (by simp [e_rv_cat, e_int_cat]) ⟨Nat.le_refl _, Nat.le_refl _⟩ dX11_findIn_31 rfl (fun H locs hp hS => ?_)
      refine e_if_eq (tgt := 40) hx hb dX11_findIn_34 (by decide) (fun c34 => ?_) (fun c34 => ?_)
      · rw [if_pos c34] at hsh
        refine e_iinc (n := 1) (x := x5) (lv' := [(5, .int (iI ((x5 + 1)))), (0, e_rv B (x0)), (1, .int (iI (x1))), (3, e_rv B (x3)), (4, .int (iI (x4)))]) hx hb dX11_findIn_40 hl (k := 4) rfl (by decide) rfl (fun ls hl => ?_)
        refine lv_goto (tgt := 19) hx hb dX11_findIn_43 (by decide) ?_
        exact hk19 hp hS (hl.sub [1, 2, 3, 4, 0] rfl) hsh
      · rw [if_neg c34] at hsh
        refine lv_iload hx hb dX11_findIn_37 (hl.at 4 rfl) ?_
        cases hsh
        exact e_iret hx hb hrt hlk hp hS dX11_findIn_39
set_option maxRecDepth 100000 in
set_option maxHeartbeats 4000000 in
theorem c11_findIn (l : Launch) (D : va_G) (cA : Nat → ClassId) (B : Nat) (S S' : HP) (x0 : Int) (x1 : Int) (x2 : Int) (x3 : Int) (r : Int) (hsh : s11_findIn S x0 x1 x2 x3 = some (r, S')) : Met l yX11_findIn (e_wu yX11_findIn cX11_findIn 6 (some .int)) ({ frames := 1, cells := 0, slots := 0, locals := 24 } : Room) (va_Pc [e_rv B (x0), .int (iI (x1)), .int (iI (x2)), e_rv B (x3)] (fun U => e_PU D cA B S U)) (e_Qi D cA B r S') 0 0 (e_A B) := by
  refine Met.ofW (cc := cX11_findIn) (maxL := 6) (ret := (some .int)) (by decide +kernel) rfl ?_
  intro p e s m args below meth c s₁ Bd hml hv
  obtain ⟨rfl, hp⟩ := hv
  have hp : e_Pic D cA B S s s.heap := hp
  have hx := Bd.exec
  have hb := Bd.bytes
  have hrt := Bd.returns
  have hlk := Bd.notSynchronized
  have hown : s.vm.findClass RX11 = some m.cls := findClass_of_methodNamed Bd.named
  have hts : ∀ w ∈ e_tb, w.before ([e_rv B (x0), .int (iI (x1)), .int (iI (x2)), e_rv B (x3)] : List Value).toArray s = true := fun w h => atoms_spec (ws := (e_wu yX11_findIn cX11_findIn 6 (some .int))) Bd.pre w (List.mem_cons_of_mem _ h)
  have E : e_En p s m ([e_rv B (x0), .int (iI (x1)), .int (iI (x2)), e_rv B (x3)] : List Value).toArray meth c cX11_findIn RX11 6 (some .int) := ⟨hx, hb, hml, hown, hts, hlk, hrt⟩
  have hS : va_S (e_A B) s.heap s.heap [] := va_S.rf
  have hl := e_entry (vs := [e_rv B (x0), .int (iI (x1)), .int (iI (x2)), e_rv B (x3)]) (n := 6) (Nat.le_of_ble_eq_true rfl) (e_cc (e_rv_cat _ _) (e_cc rfl (e_cc rfl (e_cc (e_rv_cat _ _) e_cn))))
  rw [lg_entry_eq]
  generalize (lg_sl [e_rv B (x0), .int (iI (x1)), .int (iI (x2)), e_rv B (x3)] ++ List.replicate (6 - (lg_sl [e_rv B (x0), .int (iI (x1)), .int (iI (x2)), e_rv B (x3)]).length) Slot.unset).toArray = ls at hl ⊢
  generalize ([e_rv B (x0), .int (iI (x1)), .int (iI (x2)), e_rv B (x3)] : List Value).toArray = args at hts E ⊢
  have hl : e_lo ls 6 [(0, e_rv B (x0)), (1, .int (iI (x1))), (2, .int (iI (x2))), (3, e_rv B (x3))] := hl
  have hsh := (gd_some hsh).2
  refine e_aload_n (B := B) (x := x0) hx hb dX11_findIn_0 rfl (hl.at 0 rfl) ?_
  refine lv_iload_n hx hb dX11_findIn_1 rfl (hl.at 1 rfl) ?_
  obtain ⟨⟨v2, S2⟩, h2, hsh⟩ := Option.bind_eq_some_iff.mp hsh
  have hsh : _ = _ := hsh
  try dsimp only at hsh
  have ok2 := ok11_sizeOf h2
  refine e_callI (nL := 6) (mc := 0) (ms := 0) (T := TX11) (N := 6) (As := [.int (iI (x1))]) (rest := []) hx hb hml hown hts hp hS hl.size ok2.1 ok2.2.1 ok2.2.2 rfl (by decide) (c11_sizeOf l D cA B S S2 (x0) (x1) v2 h2) rfl rfl kd11_sizeOf (kl11_33) ks11_sizeOf kv11_sizeOf ki11 kh11_sizeOf ⟨Nat.le_of_ble_eq_true rfl, Nat.le_of_ble_eq_true rfl⟩ rfl (by simp [e_rv_cat, e_int_cat]) ⟨Nat.le_refl _, Nat.le_refl _⟩ dX11_findIn_2 rfl (fun H locs hp hS => ?_)
  refine e_aload_n (B := B) (x := x3) hx hb dX11_findIn_5 rfl (hl.at 3 rfl) ?_
  obtain ⟨v6, h6, hsh⟩ := Option.bind_eq_some_iff.mp hsh
  refine e_getI (k := 1) hx hb hts in_X10 hown hp h6 rfl (by decide) (by decide) rfl (hts _ kf11_53) rfl dX11_findIn_6 ?_
  refine e_isub hx hb dX11_findIn_9 ?_
  refine e_istore (lv' := [(4, .int (iI ((v2 - v6)))), (0, e_rv B (x0)), (1, .int (iI (x1))), (2, .int (iI (x2))), (3, e_rv B (x3))]) hx hb dX11_findIn_10 hl (by decide) rfl (fun ls hl => ?_)
  refine lv_iconst (v := iI (0)) hx hb dX11_findIn_12 rfl ?_
  refine lv_iload_n hx hb dX11_findIn_13 rfl (hl.at 3 rfl) ?_
  refine e_max (rest := []) hx hb (hml.trans hl.size.symm) hown hts kl11_71 kM_max_s kM_i kM_max_c (Nat.le_of_ble_eq_true rfl) (Nat.le_trans (Nat.add_le_add_right (show _ ≤ 8 by simp [e_rv_cat, e_int_cat]) 13) (Nat.le_of_ble_eq_true rfl)) (Nat.le_refl _) (Nat.le_refl _) dX11_findIn_14 ?_
  refine e_istore (lv' := [(5, .int (iI ((iMx (0) (x2))))), (4, .int (iI ((v2 - v6)))), (0, e_rv B (x0)), (1, .int (iI (x1))), (2, .int (iI (x2))), (3, e_rv B (x3))]) hx hb dX11_findIn_17 hl (by decide) rfl (fun ls hl => ?_)
  exact w11_findIn_l19 E 1000000 hp hS (hl.sub [2, 3, 5, 1, 0] rfl) hsh
theorem ok11_findBack {S : HP} {x0 : Int} {x1 : Int} {x2 : Int} {x3 : Int} {x4 : Int} {r : Int × HP} (h : s11_findBack S x0 x1 x2 x3 x4 = some r) : 0 ≤ x0 ∧ x0.toNat < e_n S ∧ e_g S x0.toNat = 11 := (gd_some h).1
set_option maxRecDepth 100000 in
set_option maxHeartbeats 4000000 in
theorem w11_findBack_l23 {p : Program} {l : Launch} {e : Env} {s : State} {m : MethodId} {args : Array Value} {below : List Frame} {meth : Method} {c : Code} {D : va_G} {cA : Nat → ClassId} {B : Nat} {res : Int × HP} (E : e_En p s m args meth c cX11_findBack RX11 7 (some .int)) : ∀ (f : Nat) {ls : Array Slot} {H : Heap} {locs : List Loc} {S : HP} {x0 : Int} {x1 : Int} {x3 : Int} {x4 : Int} {x6 : Int} (hp : e_Pic D cA B S s H) (hS : va_S (e_A B) s.heap H locs) (hl : e_lo ls 7 [(0, e_rv B (x0)), (1, .int (iI (x1))), (3, .int (iI (x3))), (4, e_rv B (x4)), (6, .int (iI (x6)))]) (hsh : s11_findBack_l23 f S x0 x1 x3 x4 x6 = some res), W p l e ({ frames := 1, cells := 0, slots := 0, locals := 24 } : Room) s m args below meth c H locs 0 0 (MQ below (e_Qi D cA B res.1 res.2) args s 0 0 (e_A B)) (F0 m 23 ls []) := by
  obtain ⟨hx, hb, hml, hown, hts, hlk, hrt⟩ := id E
  intro f
  induction f with
  | zero => intro ls H locs S x0 x1 x3 x4 x6 hp hS hl hsh; cases hsh
  | succ f ih =>
    intro ls H locs S x0 x1 x3 x4 x6 hp hS hl hsh
    have hk23 : ∀ {ls : Array Slot} {H : Heap} {locs : List Loc} {S : HP} {x0 : Int} {x1 : Int} {x3 : Int} {x4 : Int} {x6 : Int} (hp : e_Pic D cA B S s H) (hS : va_S (e_A B) s.heap H locs) (hl : e_lo ls 7 [(0, e_rv B (x0)), (1, .int (iI (x1))), (3, .int (iI (x3))), (4, e_rv B (x4)), (6, .int (iI (x6)))]) (hsh : (s11_findBack_l23 f) S x0 x1 x3 x4 x6 = some res), W p l e ({ frames := 1, cells := 0, slots := 0, locals := 24 } : Room) s m args below meth c H locs 0 0 (MQ below (e_Qi D cA B res.1 res.2) args s 0 0 (e_A B)) (F0 m 23 ls []) := ih
    generalize hkk : s11_findBack_l23 f = k23 at hk23
    rw [s11_findBack_l23] at hsh
    rw [hkk] at hsh
    try dsimp only at hsh
    refine lv_iload hx hb dX11_findBack_23 (hl.at 4 rfl) ?_
    refine lv_iconst (v := iI (0)) hx hb dX11_findBack_25 rfl ?_
    refine lv_iload_n hx hb dX11_findBack_26 rfl (hl.at 2 rfl) ?_
    refine e_max (rest := [.int (iI (x6))]) hx hb (hml.trans hl.size.symm) hown hts kl11_71 kM_max_s kM_i kM_max_c (Nat.le_of_ble_eq_true rfl) (Nat.le_trans (Nat.add_le_add_right (show _ ≤ 8 by simp [e_rv_cat, e_int_cat]) 13) (Nat.le_of_ble_eq_true rfl)) (Nat.le_refl _) (Nat.le_refl _) dX11_findBack_27 ?_
    refine e_icmp_lt (tgt := 54) hx hb dX11_findBack_30 (by decide) (fun c30 => ?_) (fun c30 => ?_)
    · rw [if_pos c30] at hsh
      refine lv_iconst (v := iI (-1)) hx hb dX11_findBack_54 rfl ?_
      cases hsh
      exact e_iret hx hb hrt hlk hp hS dX11_findBack_55
    · rw [if_neg c30] at hsh
      refine e_aload_n (B := B) (x := x0) hx hb dX11_findBack_33 rfl (hl.at 0 rfl) ?_
      refine lv_iload_n hx hb dX11_findBack_34 rfl (hl.at 1 rfl) ?_
      refine lv_iload hx hb dX11_findBack_35 (hl.at 4 rfl) ?_
      refine e_aload (B := B) (x := x4) hx hb dX11_findBack_37 (hl.at 3 rfl) ?_
      obtain ⟨⟨v39, S39⟩, h39, hsh⟩ := Option.bind_eq_some_iff.mp hsh
      have hsh : _ = _ := hsh
      try dsimp only at hsh
      have ok39 := ok11_hasAt h39
      refine e_callI (nL := 7) (mc := 0) (ms := 0) (T := TX11) (N := 6) (As := [.int (iI (x1)), .int (iI (x6)), e_rv B (x4)]) (rest := []) hx hb hml hown hts hp hS hl.size ok39.1 ok39.2.1 ok39.2.2 rfl (by decide) (c11_hasAt l D cA B S S39 (x0) (x1) (x6) (x4) v39 h39) rfl rfl kd11_hasAt (kl11_74) ks11_hasAt kv11_hasAt ki11 kh11_hasAt ⟨Nat.le_of_ble_eq_true rfl, Nat.le_of_ble_eq_true rfl⟩ rfl (by simp [e_rv_cat, e_int_cat]) ⟨Nat.le_refl _, Nat.le_refl _⟩ dX11_findBack_39 rfl (fun H locs hp hS => ?_)
      refine e_if_eq (tgt := 48) hx hb dX11_findBack_42 (by decide) (fun c42 => ?_) (fun c42 => ?_)
      · rw [if_pos c42] at hsh
        refine e_iinc (n := (-1)) (x := x6) (lv' := [(6, .int (iI ((x6 + (-1))))), (0, e_rv B (x0)), (1, .int (iI (x1))), (3, .int (iI (x3))), (4, e_rv B (x4))]) hx hb dX11_findBack_48 hl (k := 4) rfl (by decide) rfl (fun ls hl => ?_)
        refine lv_goto (tgt := 23) hx hb dX11_findBack_51 (by decide) ?_
        exact hk23 hp hS (hl.sub [1, 2, 3, 4, 0] rfl) hsh
      · rw [if_neg c42] at hsh
        refine lv_iload hx hb dX11_findBack_45 (hl.at 4 rfl) ?_
        cases hsh
        exact e_iret hx hb hrt hlk hp hS dX11_findBack_47
set_option maxRecDepth 100000 in
set_option maxHeartbeats 4000000 in
theorem c11_findBack (l : Launch) (D : va_G) (cA : Nat → ClassId) (B : Nat) (S S' : HP) (x0 : Int) (x1 : Int) (x2 : Int) (x3 : Int) (x4 : Int) (r : Int) (hsh : s11_findBack S x0 x1 x2 x3 x4 = some (r, S')) : Met l yX11_findBack (e_wu yX11_findBack cX11_findBack 7 (some .int)) ({ frames := 1, cells := 0, slots := 0, locals := 24 } : Room) (va_Pc [e_rv B (x0), .int (iI (x1)), .int (iI (x2)), .int (iI (x3)), e_rv B (x4)] (fun U => e_PU D cA B S U)) (e_Qi D cA B r S') 0 0 (e_A B) := by
  refine Met.ofW (cc := cX11_findBack) (maxL := 7) (ret := (some .int)) (by decide +kernel) rfl ?_
  intro p e s m args below meth c s₁ Bd hml hv
  obtain ⟨rfl, hp⟩ := hv
  have hp : e_Pic D cA B S s s.heap := hp
  have hx := Bd.exec
  have hb := Bd.bytes
  have hrt := Bd.returns
  have hlk := Bd.notSynchronized
  have hown : s.vm.findClass RX11 = some m.cls := findClass_of_methodNamed Bd.named
  have hts : ∀ w ∈ e_tb, w.before ([e_rv B (x0), .int (iI (x1)), .int (iI (x2)), .int (iI (x3)), e_rv B (x4)] : List Value).toArray s = true := fun w h => atoms_spec (ws := (e_wu yX11_findBack cX11_findBack 7 (some .int))) Bd.pre w (List.mem_cons_of_mem _ h)
  have E : e_En p s m ([e_rv B (x0), .int (iI (x1)), .int (iI (x2)), .int (iI (x3)), e_rv B (x4)] : List Value).toArray meth c cX11_findBack RX11 7 (some .int) := ⟨hx, hb, hml, hown, hts, hlk, hrt⟩
  have hS : va_S (e_A B) s.heap s.heap [] := va_S.rf
  have hl := e_entry (vs := [e_rv B (x0), .int (iI (x1)), .int (iI (x2)), .int (iI (x3)), e_rv B (x4)]) (n := 7) (Nat.le_of_ble_eq_true rfl) (e_cc (e_rv_cat _ _) (e_cc rfl (e_cc rfl (e_cc rfl (e_cc (e_rv_cat _ _) e_cn)))))
  rw [lg_entry_eq]
  generalize (lg_sl [e_rv B (x0), .int (iI (x1)), .int (iI (x2)), .int (iI (x3)), e_rv B (x4)] ++ List.replicate (7 - (lg_sl [e_rv B (x0), .int (iI (x1)), .int (iI (x2)), .int (iI (x3)), e_rv B (x4)]).length) Slot.unset).toArray = ls at hl ⊢
  generalize ([e_rv B (x0), .int (iI (x1)), .int (iI (x2)), .int (iI (x3)), e_rv B (x4)] : List Value).toArray = args at hts E ⊢
  have hl : e_lo ls 7 [(0, e_rv B (x0)), (1, .int (iI (x1))), (2, .int (iI (x2))), (3, .int (iI (x3))), (4, e_rv B (x4))] := hl
  have hsh := (gd_some hsh).2
  refine lv_iload_n hx hb dX11_findBack_0 rfl (hl.at 2 rfl) ?_
  refine lv_iconst (v := iI (1)) hx hb dX11_findBack_1 rfl ?_
  refine e_isub hx hb dX11_findBack_2 ?_
  refine e_aload_n (B := B) (x := x0) hx hb dX11_findBack_3 rfl (hl.at 0 rfl) ?_
  refine lv_iload_n hx hb dX11_findBack_4 rfl (hl.at 1 rfl) ?_
  obtain ⟨⟨v5, S5⟩, h5, hsh⟩ := Option.bind_eq_some_iff.mp hsh
  have hsh : _ = _ := hsh
  try dsimp only at hsh
  have ok5 := ok11_sizeOf h5
  refine e_callI (nL := 7) (mc := 0) (ms := 0) (T := TX11) (N := 6) (As := [.int (iI (x1))]) (rest := [.int (iI ((x2 - 1)))]) hx hb hml hown hts hp hS hl.size ok5.1 ok5.2.1 ok5.2.2 rfl (by decide) (c11_sizeOf l D cA B S S5 (x0) (x1) v5 h5) rfl rfl kd11_sizeOf (kl11_33) ks11_sizeOf kv11_sizeOf ki11 kh11_sizeOf ⟨Nat.le_of_ble_eq_true rfl, Nat.le_of_ble_eq_true rfl⟩ rfl (by simp [e_rv_cat, e_int_cat]) ⟨Nat.le_refl _, Nat.le_refl _⟩ dX11_findBack_5 rfl (fun H locs hp hS => ?_)
  refine e_aload (B := B) (x := x4) hx hb dX11_findBack_8 (hl.at 4 rfl) ?_
  obtain ⟨v10, h10, hsh⟩ := Option.bind_eq_some_iff.mp hsh
  refine e_getI (k := 1) hx hb hts in_X10 hown hp h10 rfl (by decide) (by decide) rfl (hts _ kf11_53) rfl dX11_findBack_10 ?_
  refine e_isub hx hb dX11_findBack_13 ?_
  refine e_min (rest := []) hx hb (hml.trans hl.size.symm) hown hts kl11_41 kM_min_s kM_i kM_min_c (Nat.le_of_ble_eq_true rfl) (Nat.le_trans (Nat.add_le_add_right (show _ ≤ 8 by simp [e_rv_cat, e_int_cat]) 13) (Nat.le_of_ble_eq_true rfl)) (Nat.le_refl _) (Nat.le_refl _) dX11_findBack_14 ?_
  refine e_istore (lv' := [(5, .int (iI ((iMn ((x2 - 1)) ((v5 - v10)))))), (0, e_rv B (x0)), (1, .int (iI (x1))), (2, .int (iI (x2))), (3, .int (iI (x3))), (4, e_rv B (x4))]) hx hb dX11_findBack_17 hl (by decide) rfl (fun ls hl => ?_)
  refine lv_iload hx hb dX11_findBack_19 (hl.at 0 rfl) ?_
  refine e_istore (lv' := [(6, .int (iI ((iMn ((x2 - 1)) ((v5 - v10)))))), (5, .int (iI ((iMn ((x2 - 1)) ((v5 - v10)))))), (0, e_rv B (x0)), (1, .int (iI (x1))), (2, .int (iI (x2))), (3, .int (iI (x3))), (4, e_rv B (x4))]) hx hb dX11_findBack_21 hl (by decide) rfl (fun ls hl => ?_)
  exact w11_findBack_l23 E 1000000 hp hS (hl.sub [2, 3, 5, 6, 0] rfl) hsh
theorem ok6_go {S : HP} {x0 : Int} {x1 : Int} {x2 : Int} {x3 : Int} {r : HP} (h : s6_go S x0 x1 x2 x3 = some r) : 0 ≤ x0 ∧ x0.toNat < e_n S ∧ e_g S x0.toNat = 6 := (gd_some h).1
set_option maxRecDepth 100000 in
set_option maxHeartbeats 4000000 in
theorem c6_go (l : Launch) (D : va_G) (cA : Nat → ClassId) (B : Nat) (S S' : HP) (x0 : Int) (x1 : Int) (x2 : Int) (x3 : Int) (hsh : s6_go S x0 x1 x2 x3 = some S') : Met l yX6_go (e_wu yX6_go cX6_go 4 none) ({ frames := 1, cells := 0, slots := 0, locals := 21 } : Room) (va_Pc [e_rv B (x0), e_rv B (x1), .int (iI (x2)), .int (iI (x3))] (fun U => e_PU D cA B S U)) (e_Qv D cA B S') 0 0 (e_A B) := by
  refine Met.ofW (cc := cX6_go) (maxL := 4) (ret := none) (by decide +kernel) rfl ?_
  intro p e s m args below meth c s₁ Bd hml hv
  obtain ⟨rfl, hp⟩ := hv
  have hp : e_Pic D cA B S s s.heap := hp
  have hx := Bd.exec
  have hb := Bd.bytes
  have hrt := Bd.returns
  have hlk := Bd.notSynchronized
  have hown : s.vm.findClass RX6 = some m.cls := findClass_of_methodNamed Bd.named
  have hts : ∀ w ∈ e_tb, w.before ([e_rv B (x0), e_rv B (x1), .int (iI (x2)), .int (iI (x3))] : List Value).toArray s = true := fun w h => atoms_spec (ws := (e_wu yX6_go cX6_go 4 none)) Bd.pre w (List.mem_cons_of_mem _ h)
  have E : e_En p s m ([e_rv B (x0), e_rv B (x1), .int (iI (x2)), .int (iI (x3))] : List Value).toArray meth c cX6_go RX6 4 none := ⟨hx, hb, hml, hown, hts, hlk, hrt⟩
  have hS : va_S (e_A B) s.heap s.heap [] := va_S.rf
  have hl := e_entry (vs := [e_rv B (x0), e_rv B (x1), .int (iI (x2)), .int (iI (x3))]) (n := 4) (Nat.le_of_ble_eq_true rfl) (e_cc (e_rv_cat _ _) (e_cc (e_rv_cat _ _) (e_cc rfl (e_cc rfl e_cn))))
  rw [lg_entry_eq]
  generalize (lg_sl [e_rv B (x0), e_rv B (x1), .int (iI (x2)), .int (iI (x3))] ++ List.replicate (4 - (lg_sl [e_rv B (x0), e_rv B (x1), .int (iI (x2)), .int (iI (x3))]).length) Slot.unset).toArray = ls at hl ⊢
  generalize ([e_rv B (x0), e_rv B (x1), .int (iI (x2)), .int (iI (x3))] : List Value).toArray = args at hts E ⊢
  have hl : e_lo ls 4 [(0, e_rv B (x0)), (1, e_rv B (x1)), (2, .int (iI (x2))), (3, .int (iI (x3)))] := hl
  have hsh := (gd_some hsh).2
  refine e_aload_n (B := B) (x := x0) hx hb dX6_go_0 rfl (hl.at 0 rfl) ?_
  refine lv_iconst (v := iI (0)) hx hb dX6_go_1 rfl ?_
  refine lv_iload_n hx hb dX6_go_2 rfl (hl.at 2 rfl) ?_
  refine e_aload_n (B := B) (x := x1) hx hb dX6_go_3 rfl (hl.at 1 rfl) ?_
  obtain ⟨v4, h4, hsh⟩ := Option.bind_eq_some_iff.mp hsh
  refine e_getI (k := 5) hx hb hts in_X11 hown hp h4 rfl (by decide) (by decide) rfl (hts _ kf6_68) rfl dX6_go_4 ?_
  refine lv_iconst (v := iI (1)) hx hb dX6_go_7 rfl ?_
  refine e_isub hx hb dX6_go_8 ?_
  refine e_min (rest := [.int (iI (0)), e_rv B (x0)]) hx hb (hml.trans hl.size.symm) hown hts kl6_73 kM_min_s kM_i kM_min_c (Nat.le_of_ble_eq_true rfl) (Nat.le_trans (Nat.add_le_add_right (show _ ≤ 8 by simp [e_rv_cat, e_int_cat]) 13) (Nat.le_of_ble_eq_true rfl)) (Nat.le_refl _) (Nat.le_refl _) dX6_go_9 ?_
  refine e_max (rest := [e_rv B (x0)]) hx hb (hml.trans hl.size.symm) hown hts kl6_79 kM_max_s kM_i kM_max_c (Nat.le_of_ble_eq_true rfl) (Nat.le_trans (Nat.add_le_add_right (show _ ≤ 8 by simp [e_rv_cat, e_int_cat]) 13) (Nat.le_of_ble_eq_true rfl)) (Nat.le_refl _) (Nat.le_refl _) dX6_go_12 ?_
  obtain ⟨S15, h15, hsh⟩ := Option.bind_eq_some_iff.mp hsh
  refine e_putI (k := 0) hx hb hts in_X6 tyX6 tyX6_ok nmX6 hown hp hS h15 rfl (by decide) (by decide) rfl (hts _ kf6_9) rfl rfl (by decide +kernel) dX6_go_15 (fun H locs hp hS => ?_)
  refine e_aload_n (B := B) (x := x0) hx hb dX6_go_18 rfl (hl.at 0 rfl) ?_
  refine lv_iconst (v := iI (0)) hx hb dX6_go_19 rfl ?_
  refine lv_iload_n hx hb dX6_go_20 rfl (hl.at 3 rfl) ?_
  refine e_aload_n (B := B) (x := x1) hx hb dX6_go_21 rfl (hl.at 1 rfl) ?_
  refine e_aload_n (B := B) (x := x0) hx hb dX6_go_22 rfl (hl.at 0 rfl) ?_
  obtain ⟨v23, h23, hsh⟩ := Option.bind_eq_some_iff.mp hsh
  refine e_getI (k := 0) hx hb hts in_X6 hown hp h23 rfl (by decide) (by decide) rfl (hts _ kf6_9) rfl dX6_go_23 ?_
  obtain ⟨⟨v26, S26⟩, h26, hsh⟩ := Option.bind_eq_some_iff.mp hsh
  have hsh : _ = _ := hsh
  try dsimp only at hsh
  have ok26 := ok11_sizeOf h26
  refine e_callI (nL := 4) (mc := 0) (ms := 0) (T := TX11) (N := 6) (As := [.int (iI (v23))]) (rest := [.int (iI (x3)), .int (iI (0)), e_rv B (x0)]) hx hb hml hown hts hp hS hl.size ok26.1 ok26.2.1 ok26.2.2 rfl (by decide) (c11_sizeOf l D cA B S15 S26 (x1) (v23) v26 h26) rfl rfl kd11_sizeOf (kl6_82) ks11_sizeOf kv11_sizeOf ki11 kh11_sizeOf ⟨Nat.le_of_ble_eq_true rfl, Nat.le_of_ble_eq_true rfl⟩ rfl (by simp [e_rv_cat, e_int_cat]) ⟨Nat.le_refl _, Nat.le_refl _⟩ dX6_go_26 rfl (fun H locs hp hS => ?_)
  refine lv_iconst (v := iI (1)) hx hb dX6_go_29 rfl ?_
  refine e_isub hx hb dX6_go_30 ?_
  refine e_min (rest := [.int (iI (0)), e_rv B (x0)]) hx hb (hml.trans hl.size.symm) hown hts kl6_73 kM_min_s kM_i kM_min_c (Nat.le_of_ble_eq_true rfl) (Nat.le_trans (Nat.add_le_add_right (show _ ≤ 8 by simp [e_rv_cat, e_int_cat]) 13) (Nat.le_of_ble_eq_true rfl)) (Nat.le_refl _) (Nat.le_refl _) dX6_go_31 ?_
  refine e_max (rest := [e_rv B (x0)]) hx hb (hml.trans hl.size.symm) hown hts kl6_79 kM_max_s kM_i kM_max_c (Nat.le_of_ble_eq_true rfl) (Nat.le_trans (Nat.add_le_add_right (show _ ≤ 8 by simp [e_rv_cat, e_int_cat]) 13) (Nat.le_of_ble_eq_true rfl)) (Nat.le_refl _) (Nat.le_refl _) dX6_go_34 ?_
  obtain ⟨S37, h37, hsh⟩ := Option.bind_eq_some_iff.mp hsh
  refine e_putI (k := 1) hx hb hts in_X6 tyX6 tyX6_ok nmX6 hown hp hS h37 rfl (by decide) (by decide) rfl (hts _ kf6_15) rfl rfl (by decide +kernel) dX6_go_37 (fun H locs hp hS => ?_)
  refine e_aload_n (B := B) (x := x0) hx hb dX6_go_40 rfl (hl.at 0 rfl) ?_
  refine e_aload_n (B := B) (x := x0) hx hb dX6_go_41 rfl (hl.at 0 rfl) ?_
  obtain ⟨v42, h42, hsh⟩ := Option.bind_eq_some_iff.mp hsh
  refine e_getI (k := 1) hx hb hts in_X6 hown hp h42 rfl (by decide) (by decide) rfl (hts _ kf6_15) rfl dX6_go_42 ?_
  obtain ⟨S45, h45, hsh⟩ := Option.bind_eq_some_iff.mp hsh
  refine e_putI (k := 2) hx hb hts in_X6 tyX6 tyX6_ok nmX6 hown hp hS h45 rfl (by decide) (by decide) rfl (hts _ kf6_18) rfl rfl (by decide +kernel) dX6_go_45 (fun H locs hp hS => ?_)
  cases hsh
  exact e_vret hx hb hrt hlk hp hS dX6_go_48
theorem ok6_goToText {S : HP} {x0 : Int} {x1 : Int} {x2 : Int} {r : HP} (h : s6_goToText S x0 x1 x2 = some r) : 0 ≤ x0 ∧ x0.toNat < e_n S ∧ e_g S x0.toNat = 6 := (gd_some h).1
set_option maxRecDepth 100000 in
set_option maxHeartbeats 4000000 in
theorem c6_goToText (l : Launch) (D : va_G) (cA : Nat → ClassId) (B : Nat) (S S' : HP) (x0 : Int) (x1 : Int) (x2 : Int) (hsh : s6_goToText S x0 x1 x2 = some S') : Met l yX6_goToText (e_wu yX6_goToText cX6_goToText 3 none) ({ frames := 1, cells := 0, slots := 0, locals := 22 } : Room) (va_Pc [e_rv B (x0), e_rv B (x1), .int (iI (x2))] (fun U => e_PU D cA B S U)) (e_Qv D cA B S') 0 0 (e_A B) := by
  refine Met.ofW (cc := cX6_goToText) (maxL := 3) (ret := none) (by decide +kernel) rfl ?_
  intro p e s m args below meth c s₁ Bd hml hv
  obtain ⟨rfl, hp⟩ := hv
  have hp : e_Pic D cA B S s s.heap := hp
  have hx := Bd.exec
  have hb := Bd.bytes
  have hrt := Bd.returns
  have hlk := Bd.notSynchronized
  have hown : s.vm.findClass RX6 = some m.cls := findClass_of_methodNamed Bd.named
  have hts : ∀ w ∈ e_tb, w.before ([e_rv B (x0), e_rv B (x1), .int (iI (x2))] : List Value).toArray s = true := fun w h => atoms_spec (ws := (e_wu yX6_goToText cX6_goToText 3 none)) Bd.pre w (List.mem_cons_of_mem _ h)
  have E : e_En p s m ([e_rv B (x0), e_rv B (x1), .int (iI (x2))] : List Value).toArray meth c cX6_goToText RX6 3 none := ⟨hx, hb, hml, hown, hts, hlk, hrt⟩
  have hS : va_S (e_A B) s.heap s.heap [] := va_S.rf
  have hl := e_entry (vs := [e_rv B (x0), e_rv B (x1), .int (iI (x2))]) (n := 3) (Nat.le_of_ble_eq_true rfl) (e_cc (e_rv_cat _ _) (e_cc (e_rv_cat _ _) (e_cc rfl e_cn)))
  rw [lg_entry_eq]
  generalize (lg_sl [e_rv B (x0), e_rv B (x1), .int (iI (x2))] ++ List.replicate (3 - (lg_sl [e_rv B (x0), e_rv B (x1), .int (iI (x2))]).length) Slot.unset).toArray = ls at hl ⊢
  generalize ([e_rv B (x0), e_rv B (x1), .int (iI (x2))] : List Value).toArray = args at hts E ⊢
  have hl : e_lo ls 3 [(0, e_rv B (x0)), (1, e_rv B (x1)), (2, .int (iI (x2)))] := hl
  have hsh := (gd_some hsh).2
  refine e_aload_n (B := B) (x := x0) hx hb dX6_goToText_0 rfl (hl.at 0 rfl) ?_
  refine lv_iconst (v := iI (0)) hx hb dX6_goToText_1 rfl ?_
  refine lv_iload_n hx hb dX6_goToText_2 rfl (hl.at 2 rfl) ?_
  refine e_aload_n (B := B) (x := x1) hx hb dX6_goToText_3 rfl (hl.at 1 rfl) ?_
  obtain ⟨v4, h4, hsh⟩ := Option.bind_eq_some_iff.mp hsh
  refine e_getI (k := 5) hx hb hts in_X11 hown hp h4 rfl (by decide) (by decide) rfl (hts _ kf6_68) rfl dX6_goToText_4 ?_
  refine lv_iconst (v := iI (1)) hx hb dX6_goToText_7 rfl ?_
  refine e_isub hx hb dX6_goToText_8 ?_
  refine e_min (rest := [.int (iI (0)), e_rv B (x0)]) hx hb (hml.trans hl.size.symm) hown hts kl6_73 kM_min_s kM_i kM_min_c (Nat.le_of_ble_eq_true rfl) (Nat.le_trans (Nat.add_le_add_right (show _ ≤ 8 by simp [e_rv_cat, e_int_cat]) 13) (Nat.le_of_ble_eq_true rfl)) (Nat.le_refl _) (Nat.le_refl _) dX6_goToText_9 ?_
  refine e_max (rest := [e_rv B (x0)]) hx hb (hml.trans hl.size.symm) hown hts kl6_79 kM_max_s kM_i kM_max_c (Nat.le_of_ble_eq_true rfl) (Nat.le_trans (Nat.add_le_add_right (show _ ≤ 8 by simp [e_rv_cat, e_int_cat]) 13) (Nat.le_of_ble_eq_true rfl)) (Nat.le_refl _) (Nat.le_refl _) dX6_goToText_12 ?_
  obtain ⟨S15, h15, hsh⟩ := Option.bind_eq_some_iff.mp hsh
  refine e_putI (k := 0) hx hb hts in_X6 tyX6 tyX6_ok nmX6 hown hp hS h15 rfl (by decide) (by decide) rfl (hts _ kf6_9) rfl rfl (by decide +kernel) dX6_goToText_15 (fun H locs hp hS => ?_)
  refine e_aload_n (B := B) (x := x0) hx hb dX6_goToText_18 rfl (hl.at 0 rfl) ?_
  refine e_aload_n (B := B) (x := x1) hx hb dX6_goToText_19 rfl (hl.at 1 rfl) ?_
  refine e_aload_n (B := B) (x := x0) hx hb dX6_goToText_20 rfl (hl.at 0 rfl) ?_
  obtain ⟨v21, h21, hsh⟩ := Option.bind_eq_some_iff.mp hsh
  refine e_getI (k := 0) hx hb hts in_X6 hown hp h21 rfl (by decide) (by decide) rfl (hts _ kf6_9) rfl dX6_goToText_21 ?_
  obtain ⟨⟨v24, S24⟩, h24, hsh⟩ := Option.bind_eq_some_iff.mp hsh
  have hsh : _ = _ := hsh
  try dsimp only at hsh
  have ok24 := ok11_firstSign h24
  refine e_callI (nL := 3) (mc := 0) (ms := 0) (T := TX11) (N := 6) (As := [.int (iI (v21))]) (rest := [e_rv B (x0)]) hx hb hml hown hts hp hS hl.size ok24.1 ok24.2.1 ok24.2.2 rfl (by decide) (c11_firstSign l D cA B S15 S24 (x1) (v21) v24 h24) rfl rfl kd11_firstSign (kl6_86) ks11_firstSign kv11_firstSign ki11 kh11_firstSign ⟨Nat.le_of_ble_eq_true rfl, Nat.le_of_ble_eq_true rfl⟩ rfl (by simp [e_rv_cat, e_int_cat]) ⟨Nat.le_refl _, Nat.le_refl _⟩ dX6_goToText_24 rfl (fun H locs hp hS => ?_)
  obtain ⟨S27, h27, hsh⟩ := Option.bind_eq_some_iff.mp hsh
  refine e_putI (k := 1) hx hb hts in_X6 tyX6 tyX6_ok nmX6 hown hp hS h27 rfl (by decide) (by decide) rfl (hts _ kf6_15) rfl rfl (by decide +kernel) dX6_goToText_27 (fun H locs hp hS => ?_)
  refine e_aload_n (B := B) (x := x0) hx hb dX6_goToText_30 rfl (hl.at 0 rfl) ?_
  refine e_aload_n (B := B) (x := x0) hx hb dX6_goToText_31 rfl (hl.at 0 rfl) ?_
  obtain ⟨v32, h32, hsh⟩ := Option.bind_eq_some_iff.mp hsh
  refine e_getI (k := 1) hx hb hts in_X6 hown hp h32 rfl (by decide) (by decide) rfl (hts _ kf6_15) rfl dX6_goToText_32 ?_
  obtain ⟨S35, h35, hsh⟩ := Option.bind_eq_some_iff.mp hsh
  refine e_putI (k := 2) hx hb hts in_X6 tyX6 tyX6_ok nmX6 hown hp hS h35 rfl (by decide) (by decide) rfl (hts _ kf6_18) rfl rfl (by decide +kernel) dX6_goToText_35 (fun H locs hp hS => ?_)
  cases hsh
  exact e_vret hx hb hrt hlk hp hS dX6_goToText_38
theorem ok6_goWanted {S : HP} {x0 : Int} {x1 : Int} {x2 : Int} {r : HP} (h : s6_goWanted S x0 x1 x2 = some r) : 0 ≤ x0 ∧ x0.toNat < e_n S ∧ e_g S x0.toNat = 6 := (gd_some h).1
set_option maxRecDepth 100000 in
set_option maxHeartbeats 4000000 in
theorem c6_goWanted (l : Launch) (D : va_G) (cA : Nat → ClassId) (B : Nat) (S S' : HP) (x0 : Int) (x1 : Int) (x2 : Int) (hsh : s6_goWanted S x0 x1 x2 = some S') : Met l yX6_goWanted (e_wu yX6_goWanted cX6_goWanted 3 none) ({ frames := 1, cells := 0, slots := 0, locals := 21 } : Room) (va_Pc [e_rv B (x0), e_rv B (x1), .int (iI (x2))] (fun U => e_PU D cA B S U)) (e_Qv D cA B S') 0 0 (e_A B) := by
  refine Met.ofW (cc := cX6_goWanted) (maxL := 3) (ret := none) (by decide +kernel) rfl ?_
  intro p e s m args below meth c s₁ Bd hml hv
  obtain ⟨rfl, hp⟩ := hv
  have hp : e_Pic D cA B S s s.heap := hp
  have hx := Bd.exec
  have hb := Bd.bytes
  have hrt := Bd.returns
  have hlk := Bd.notSynchronized
  have hown : s.vm.findClass RX6 = some m.cls := findClass_of_methodNamed Bd.named
  have hts : ∀ w ∈ e_tb, w.before ([e_rv B (x0), e_rv B (x1), .int (iI (x2))] : List Value).toArray s = true := fun w h => atoms_spec (ws := (e_wu yX6_goWanted cX6_goWanted 3 none)) Bd.pre w (List.mem_cons_of_mem _ h)
  have E : e_En p s m ([e_rv B (x0), e_rv B (x1), .int (iI (x2))] : List Value).toArray meth c cX6_goWanted RX6 3 none := ⟨hx, hb, hml, hown, hts, hlk, hrt⟩
  have hS : va_S (e_A B) s.heap s.heap [] := va_S.rf
  have hl := e_entry (vs := [e_rv B (x0), e_rv B (x1), .int (iI (x2))]) (n := 3) (Nat.le_of_ble_eq_true rfl) (e_cc (e_rv_cat _ _) (e_cc (e_rv_cat _ _) (e_cc rfl e_cn)))
  rw [lg_entry_eq]
  generalize (lg_sl [e_rv B (x0), e_rv B (x1), .int (iI (x2))] ++ List.replicate (3 - (lg_sl [e_rv B (x0), e_rv B (x1), .int (iI (x2))]).length) Slot.unset).toArray = ls at hl ⊢
  generalize ([e_rv B (x0), e_rv B (x1), .int (iI (x2))] : List Value).toArray = args at hts E ⊢
  have hl : e_lo ls 3 [(0, e_rv B (x0)), (1, e_rv B (x1)), (2, .int (iI (x2)))] := hl
  have hsh := (gd_some hsh).2
  refine e_aload_n (B := B) (x := x0) hx hb dX6_goWanted_0 rfl (hl.at 0 rfl) ?_
  refine lv_iconst (v := iI (0)) hx hb dX6_goWanted_1 rfl ?_
  refine lv_iload_n hx hb dX6_goWanted_2 rfl (hl.at 2 rfl) ?_
  refine e_aload_n (B := B) (x := x1) hx hb dX6_goWanted_3 rfl (hl.at 1 rfl) ?_
  obtain ⟨v4, h4, hsh⟩ := Option.bind_eq_some_iff.mp hsh
  refine e_getI (k := 5) hx hb hts in_X11 hown hp h4 rfl (by decide) (by decide) rfl (hts _ kf6_68) rfl dX6_goWanted_4 ?_
  refine lv_iconst (v := iI (1)) hx hb dX6_goWanted_7 rfl ?_
  refine e_isub hx hb dX6_goWanted_8 ?_
  refine e_min (rest := [.int (iI (0)), e_rv B (x0)]) hx hb (hml.trans hl.size.symm) hown hts kl6_73 kM_min_s kM_i kM_min_c (Nat.le_of_ble_eq_true rfl) (Nat.le_trans (Nat.add_le_add_right (show _ ≤ 8 by simp [e_rv_cat, e_int_cat]) 13) (Nat.le_of_ble_eq_true rfl)) (Nat.le_refl _) (Nat.le_refl _) dX6_goWanted_9 ?_
  refine e_max (rest := [e_rv B (x0)]) hx hb (hml.trans hl.size.symm) hown hts kl6_79 kM_max_s kM_i kM_max_c (Nat.le_of_ble_eq_true rfl) (Nat.le_trans (Nat.add_le_add_right (show _ ≤ 8 by simp [e_rv_cat, e_int_cat]) 13) (Nat.le_of_ble_eq_true rfl)) (Nat.le_refl _) (Nat.le_refl _) dX6_goWanted_12 ?_
  obtain ⟨S15, h15, hsh⟩ := Option.bind_eq_some_iff.mp hsh
  refine e_putI (k := 0) hx hb hts in_X6 tyX6 tyX6_ok nmX6 hown hp hS h15 rfl (by decide) (by decide) rfl (hts _ kf6_9) rfl rfl (by decide +kernel) dX6_goWanted_15 (fun H locs hp hS => ?_)
  refine e_aload_n (B := B) (x := x0) hx hb dX6_goWanted_18 rfl (hl.at 0 rfl) ?_
  refine lv_iconst (v := iI (0)) hx hb dX6_goWanted_19 rfl ?_
  refine e_aload_n (B := B) (x := x0) hx hb dX6_goWanted_20 rfl (hl.at 0 rfl) ?_
  obtain ⟨v21, h21, hsh⟩ := Option.bind_eq_some_iff.mp hsh
  refine e_getI (k := 2) hx hb hts in_X6 hown hp h21 rfl (by decide) (by decide) rfl (hts _ kf6_18) rfl dX6_goWanted_21 ?_
  refine e_aload_n (B := B) (x := x1) hx hb dX6_goWanted_24 rfl (hl.at 1 rfl) ?_
  refine e_aload_n (B := B) (x := x0) hx hb dX6_goWanted_25 rfl (hl.at 0 rfl) ?_
  obtain ⟨v26, h26, hsh⟩ := Option.bind_eq_some_iff.mp hsh
  refine e_getI (k := 0) hx hb hts in_X6 hown hp h26 rfl (by decide) (by decide) rfl (hts _ kf6_9) rfl dX6_goWanted_26 ?_
  obtain ⟨⟨v29, S29⟩, h29, hsh⟩ := Option.bind_eq_some_iff.mp hsh
  have hsh : _ = _ := hsh
  try dsimp only at hsh
  have ok29 := ok11_sizeOf h29
  refine e_callI (nL := 3) (mc := 0) (ms := 0) (T := TX11) (N := 6) (As := [.int (iI (v26))]) (rest := [.int (iI (v21)), .int (iI (0)), e_rv B (x0)]) hx hb hml hown hts hp hS hl.size ok29.1 ok29.2.1 ok29.2.2 rfl (by decide) (c11_sizeOf l D cA B S15 S29 (x1) (v26) v29 h29) rfl rfl kd11_sizeOf (kl6_82) ks11_sizeOf kv11_sizeOf ki11 kh11_sizeOf ⟨Nat.le_of_ble_eq_true rfl, Nat.le_of_ble_eq_true rfl⟩ rfl (by simp [e_rv_cat, e_int_cat]) ⟨Nat.le_refl _, Nat.le_refl _⟩ dX6_goWanted_29 rfl (fun H locs hp hS => ?_)
  refine lv_iconst (v := iI (1)) hx hb dX6_goWanted_32 rfl ?_
  refine e_isub hx hb dX6_goWanted_33 ?_
  refine e_min (rest := [.int (iI (0)), e_rv B (x0)]) hx hb (hml.trans hl.size.symm) hown hts kl6_73 kM_min_s kM_i kM_min_c (Nat.le_of_ble_eq_true rfl) (Nat.le_trans (Nat.add_le_add_right (show _ ≤ 8 by simp [e_rv_cat, e_int_cat]) 13) (Nat.le_of_ble_eq_true rfl)) (Nat.le_refl _) (Nat.le_refl _) dX6_goWanted_34 ?_
  refine e_max (rest := [e_rv B (x0)]) hx hb (hml.trans hl.size.symm) hown hts kl6_79 kM_max_s kM_i kM_max_c (Nat.le_of_ble_eq_true rfl) (Nat.le_trans (Nat.add_le_add_right (show _ ≤ 8 by simp [e_rv_cat, e_int_cat]) 13) (Nat.le_of_ble_eq_true rfl)) (Nat.le_refl _) (Nat.le_refl _) dX6_goWanted_37 ?_
  obtain ⟨S40, h40, hsh⟩ := Option.bind_eq_some_iff.mp hsh
  refine e_putI (k := 1) hx hb hts in_X6 tyX6 tyX6_ok nmX6 hown hp hS h40 rfl (by decide) (by decide) rfl (hts _ kf6_15) rfl rfl (by decide +kernel) dX6_goWanted_40 (fun H locs hp hS => ?_)
  cases hsh
  exact e_vret hx hb hrt hlk hp hS dX6_goWanted_43
theorem ok6_hold {S : HP} {x0 : Int} {x1 : Int} {r : HP} (h : s6_hold S x0 x1 = some r) : 0 ≤ x0 ∧ x0.toNat < e_n S ∧ e_g S x0.toNat = 6 := (gd_some h).1
set_option maxRecDepth 100000 in
set_option maxHeartbeats 4000000 in
theorem w6_hold_b72 {p : Program} {l : Launch} {e : Env} {s : State} {m : MethodId} {args : Array Value} {below : List Frame} {meth : Method} {c : Code} {D : va_G} {cA : Nat → ClassId} {B : Nat} {res : HP} (E : e_En p s m args meth c cX6_hold RX6 3 none) {ls : Array Slot} {H : Heap} {locs : List Loc} {S : HP} (hp : e_Pic D cA B S s H) (hS : va_S (e_A B) s.heap H locs) (hl : e_lo ls 3 []) (hsh : s6_hold_b72 S  = some res) : W p l e ({ frames := 2, cells := 0, slots := 0, locals := 45 } : Room) s m args below meth c H locs 0 0 (MQ below (e_Qv D cA B res) args s 0 0 (e_A B)) (F0 m 72 ls []) := by
  obtain ⟨hx, hb, hml, hown, hts, hlk, hrt⟩ := id E
  unfold s6_hold_b72 at hsh
  cases hsh
  exact e_vret hx hb hrt hlk hp hS dX6_hold_72
set_option maxRecDepth 100000 in
set_option maxHeartbeats 4000000 in
theorem c6_hold (l : Launch) (D : va_G) (cA : Nat → ClassId) (B : Nat) (S S' : HP) (x0 : Int) (x1 : Int) (hsh : s6_hold S x0 x1 = some S') : Met l yX6_hold (e_wu yX6_hold cX6_hold 3 none) ({ frames := 2, cells := 0, slots := 0, locals := 45 } : Room) (va_Pc [e_rv B (x0), e_rv B (x1)] (fun U => e_PU D cA B S U)) (e_Qv D cA B S') 0 0 (e_A B) := by
  refine Met.ofW (cc := cX6_hold) (maxL := 3) (ret := none) (by decide +kernel) rfl ?_
  intro p e s m args below meth c s₁ Bd hml hv
  obtain ⟨rfl, hp⟩ := hv
  have hp : e_Pic D cA B S s s.heap := hp
  have hx := Bd.exec
  have hb := Bd.bytes
  have hrt := Bd.returns
  have hlk := Bd.notSynchronized
  have hown : s.vm.findClass RX6 = some m.cls := findClass_of_methodNamed Bd.named
  have hts : ∀ w ∈ e_tb, w.before ([e_rv B (x0), e_rv B (x1)] : List Value).toArray s = true := fun w h => atoms_spec (ws := (e_wu yX6_hold cX6_hold 3 none)) Bd.pre w (List.mem_cons_of_mem _ h)
  have E : e_En p s m ([e_rv B (x0), e_rv B (x1)] : List Value).toArray meth c cX6_hold RX6 3 none := ⟨hx, hb, hml, hown, hts, hlk, hrt⟩
  have hS : va_S (e_A B) s.heap s.heap [] := va_S.rf
  have hl := e_entry (vs := [e_rv B (x0), e_rv B (x1)]) (n := 3) (Nat.le_of_ble_eq_true rfl) (e_cc (e_rv_cat _ _) (e_cc (e_rv_cat _ _) e_cn))
  rw [lg_entry_eq]
  generalize (lg_sl [e_rv B (x0), e_rv B (x1)] ++ List.replicate (3 - (lg_sl [e_rv B (x0), e_rv B (x1)]).length) Slot.unset).toArray = ls at hl ⊢
  generalize ([e_rv B (x0), e_rv B (x1)] : List Value).toArray = args at hts E ⊢
  have hl : e_lo ls 3 [(0, e_rv B (x0)), (1, e_rv B (x1))] := hl
  have hsh := (gd_some hsh).2
  refine e_aload_n (B := B) (x := x0) hx hb dX6_hold_0 rfl (hl.at 0 rfl) ?_
  refine lv_iconst (v := iI (0)) hx hb dX6_hold_1 rfl ?_
  refine e_aload_n (B := B) (x := x0) hx hb dX6_hold_2 rfl (hl.at 0 rfl) ?_
  obtain ⟨v3, h3, hsh⟩ := Option.bind_eq_some_iff.mp hsh
  refine e_getI (k := 1) hx hb hts in_X6 hown hp h3 rfl (by decide) (by decide) rfl (hts _ kf6_15) rfl dX6_hold_3 ?_
  refine e_aload_n (B := B) (x := x1) hx hb dX6_hold_6 rfl (hl.at 1 rfl) ?_
  refine e_aload_n (B := B) (x := x0) hx hb dX6_hold_7 rfl (hl.at 0 rfl) ?_
  obtain ⟨v8, h8, hsh⟩ := Option.bind_eq_some_iff.mp hsh
  refine e_getI (k := 0) hx hb hts in_X6 hown hp h8 rfl (by decide) (by decide) rfl (hts _ kf6_9) rfl dX6_hold_8 ?_
  obtain ⟨⟨v11, S11⟩, h11, hsh⟩ := Option.bind_eq_some_iff.mp hsh
  have hsh : _ = _ := hsh
  try dsimp only at hsh
  have ok11 := ok11_sizeOf h11
  refine e_callI (nL := 3) (mc := 0) (ms := 0) (T := TX11) (N := 6) (As := [.int (iI (v8))]) (rest := [.int (iI (v3)), .int (iI (0)), e_rv B (x0)]) hx hb hml hown hts hp hS hl.size ok11.1 ok11.2.1 ok11.2.2 rfl (by decide) (c11_sizeOf l D cA B S S11 (x1) (v8) v11 h11) rfl rfl kd11_sizeOf (kl6_82) ks11_sizeOf kv11_sizeOf ki11 kh11_sizeOf ⟨Nat.le_of_ble_eq_true rfl, Nat.le_of_ble_eq_true rfl⟩ rfl (by simp [e_rv_cat, e_int_cat]) ⟨Nat.le_refl _, Nat.le_refl _⟩ dX6_hold_11 rfl (fun H locs hp hS => ?_)
  refine lv_iconst (v := iI (1)) hx hb dX6_hold_14 rfl ?_
  refine e_isub hx hb dX6_hold_15 ?_
  refine e_min (rest := [.int (iI (0)), e_rv B (x0)]) hx hb (hml.trans hl.size.symm) hown hts kl6_73 kM_min_s kM_i kM_min_c (Nat.le_of_ble_eq_true rfl) (Nat.le_trans (Nat.add_le_add_right (show _ ≤ 8 by simp [e_rv_cat, e_int_cat]) 13) (Nat.le_of_ble_eq_true rfl)) (Nat.le_refl _) (Nat.le_refl _) dX6_hold_16 ?_
  refine e_max (rest := [e_rv B (x0)]) hx hb (hml.trans hl.size.symm) hown hts kl6_79 kM_max_s kM_i kM_max_c (Nat.le_of_ble_eq_true rfl) (Nat.le_trans (Nat.add_le_add_right (show _ ≤ 8 by simp [e_rv_cat, e_int_cat]) 13) (Nat.le_of_ble_eq_true rfl)) (Nat.le_refl _) (Nat.le_refl _) dX6_hold_19 ?_
  obtain ⟨S22, h22, hsh⟩ := Option.bind_eq_some_iff.mp hsh
  refine e_putI (k := 1) hx hb hts in_X6 tyX6 tyX6_ok nmX6 hown hp hS h22 rfl (by decide) (by decide) rfl (hts _ kf6_15) rfl rfl (by decide +kernel) dX6_hold_22 (fun H locs hp hS => ?_)
  refine e_aload_n (B := B) (x := x0) hx hb dX6_hold_25 rfl (hl.at 0 rfl) ?_
  refine e_aload_n (B := B) (x := x0) hx hb dX6_hold_26 rfl (hl.at 0 rfl) ?_
  obtain ⟨v27, h27, hsh⟩ := Option.bind_eq_some_iff.mp hsh
  refine e_getI (k := 0) hx hb hts in_X6 hown hp h27 rfl (by decide) (by decide) rfl (hts _ kf6_9) rfl dX6_hold_27 ?_
  obtain ⟨⟨v30, S30⟩, h30, hsh⟩ := Option.bind_eq_some_iff.mp hsh
  have hsh : _ = _ := hsh
  try dsimp only at hsh
  have ok30 := ok6_topOf h30
  refine e_callI (nL := 3) (mc := 0) (ms := 0) (T := TX6) (N := 16) (As := [.int (iI (v27))]) (rest := []) hx hb hml hown hts hp hS hl.size ok30.1 ok30.2.1 ok30.2.2 rfl (by decide) (c6_topOf l D cA B S22 S30 (x0) (v27) v30 h30) rfl rfl kd6_topOf (kl6_89) ks6_topOf kv6_topOf ki6 kh6_topOf ⟨Nat.le_of_ble_eq_true rfl, Nat.le_of_ble_eq_true rfl⟩ rfl (by simp [e_rv_cat, e_int_cat]) ⟨Nat.le_refl _, Nat.le_refl _⟩ dX6_hold_30 rfl (fun H locs hp hS => ?_)
  refine e_istore_n (lv' := [(2, .int (iI (v30))), (0, e_rv B (x0)), (1, e_rv B (x1))]) hx hb dX6_hold_33 rfl hl (by decide) rfl (fun ls hl => ?_)
  refine lv_iload_n hx hb dX6_hold_34 rfl (hl.at 0 rfl) ?_
  refine e_aload_n (B := B) (x := x0) hx hb dX6_hold_35 rfl (hl.at 1 rfl) ?_
  obtain ⟨v36, h36, hsh⟩ := Option.bind_eq_some_iff.mp hsh
  refine e_getI (k := 0) hx hb hts in_X6 hown hp h36 rfl (by decide) (by decide) rfl (hts _ kf6_9) rfl dX6_hold_36 ?_
  refine e_icmp_eq (tgt := 72) hx hb dX6_hold_39 (by decide) (fun c39 => ?_) (fun c39 => ?_)
  · rw [if_pos c39] at hsh
    exact w6_hold_b72 E hp hS (hl.sub [] rfl) hsh
  · rw [if_neg c39] at hsh
    refine e_aload_n (B := B) (x := x0) hx hb dX6_hold_42 rfl (hl.at 1 rfl) ?_
    refine lv_iload_n hx hb dX6_hold_43 rfl (hl.at 0 rfl) ?_
    obtain ⟨S44, h44, hsh⟩ := Option.bind_eq_some_iff.mp hsh
    refine e_putI (k := 0) hx hb hts in_X6 tyX6 tyX6_ok nmX6 hown hp hS h44 rfl (by decide) (by decide) rfl (hts _ kf6_9) rfl rfl (by decide +kernel) dX6_hold_44 (fun H locs hp hS => ?_)
    refine e_aload_n (B := B) (x := x0) hx hb dX6_hold_47 rfl (hl.at 1 rfl) ?_
    refine lv_iconst (v := iI (0)) hx hb dX6_hold_48 rfl ?_
    refine e_aload_n (B := B) (x := x0) hx hb dX6_hold_49 rfl (hl.at 1 rfl) ?_
    obtain ⟨v50, h50, hsh⟩ := Option.bind_eq_some_iff.mp hsh
    refine e_getI (k := 1) hx hb hts in_X6 hown hp h50 rfl (by decide) (by decide) rfl (hts _ kf6_15) rfl dX6_hold_50 ?_
    refine e_aload_n (B := B) (x := x1) hx hb dX6_hold_53 rfl (hl.at 2 rfl) ?_
    refine e_aload_n (B := B) (x := x0) hx hb dX6_hold_54 rfl (hl.at 1 rfl) ?_
    obtain ⟨v55, h55, hsh⟩ := Option.bind_eq_some_iff.mp hsh
    refine e_getI (k := 0) hx hb hts in_X6 hown hp h55 rfl (by decide) (by decide) rfl (hts _ kf6_9) rfl dX6_hold_55 ?_
    obtain ⟨⟨v58, S58⟩, h58, hsh⟩ := Option.bind_eq_some_iff.mp hsh
    have hsh : _ = _ := hsh
    try dsimp only at hsh
    have ok58 := ok11_sizeOf h58
    refine e_callI (nL := 3) (mc := 0) (ms := 0) (T := TX11) (N := 6) (As := [.int (iI (v55))]) (rest := [.int (iI (v50)), .int (iI (0)), e_rv B (x0)]) hx hb hml hown hts hp hS hl.size ok58.1 ok58.2.1 ok58.2.2 rfl (by decide) (c11_sizeOf l D cA B S44 S58 (x1) (v55) v58 h58) rfl rfl kd11_sizeOf (kl6_82) ks11_sizeOf kv11_sizeOf ki11 kh11_sizeOf ⟨Nat.le_of_ble_eq_true rfl, Nat.le_of_ble_eq_true rfl⟩ rfl (by simp [e_rv_cat, e_int_cat]) ⟨Nat.le_refl _, Nat.le_refl _⟩ dX6_hold_58 rfl (fun H locs hp hS => ?_)
    refine lv_iconst (v := iI (1)) hx hb dX6_hold_61 rfl ?_
    refine e_isub hx hb dX6_hold_62 ?_
    refine e_min (rest := [.int (iI (0)), e_rv B (x0)]) hx hb (hml.trans hl.size.symm) hown hts kl6_73 kM_min_s kM_i kM_min_c (Nat.le_of_ble_eq_true rfl) (Nat.le_trans (Nat.add_le_add_right (show _ ≤ 8 by simp [e_rv_cat, e_int_cat]) 13) (Nat.le_of_ble_eq_true rfl)) (Nat.le_refl _) (Nat.le_refl _) dX6_hold_63 ?_
    refine e_max (rest := [e_rv B (x0)]) hx hb (hml.trans hl.size.symm) hown hts kl6_79 kM_max_s kM_i kM_max_c (Nat.le_of_ble_eq_true rfl) (Nat.le_trans (Nat.add_le_add_right (show _ ≤ 8 by simp [e_rv_cat, e_int_cat]) 13) (Nat.le_of_ble_eq_true rfl)) (Nat.le_refl _) (Nat.le_refl _) dX6_hold_66 ?_
    obtain ⟨S69, h69, hsh⟩ := Option.bind_eq_some_iff.mp hsh
    refine e_putI (k := 1) hx hb hts in_X6 tyX6 tyX6_ok nmX6 hown hp hS h69 rfl (by decide) (by decide) rfl (hts _ kf6_15) rfl rfl (by decide +kernel) dX6_hold_69 (fun H locs hp hS => ?_)
    exact w6_hold_b72 E hp hS (hl.sub [] rfl) hsh
theorem ok6_goToJump {S : HP} {x0 : Int} {x1 : Int} {x2 : Int} {r : Int × HP} (h : s6_goToJump S x0 x1 x2 = some r) : 0 ≤ x0 ∧ x0.toNat < e_n S ∧ e_g S x0.toNat = 6 := (gd_some h).1
set_option maxRecDepth 100000 in
set_option maxHeartbeats 4000000 in
theorem w6_goToJump_b12 {p : Program} {l : Launch} {e : Env} {s : State} {m : MethodId} {args : Array Value} {below : List Frame} {meth : Method} {c : Code} {D : va_G} {cA : Nat → ClassId} {B : Nat} {res : Int × HP} (E : e_En p s m args meth c cX6_goToJump RX6 3 (some .boolean)) {ls : Array Slot} {H : Heap} {locs : List Loc} {S : HP} (hp : e_Pic D cA B S s H) (hS : va_S (e_A B) s.heap H locs) (hl : e_lo ls 3 []) (hsh : s6_goToJump_b12 S  = some res) : W p l e ({ frames := 2, cells := 0, slots := 0, locals := 44 } : Room) s m args below meth c H locs 0 0 (MQ below (e_Qi D cA B res.1 res.2) args s 0 0 (e_A B)) (F0 m 12 ls []) := by
  obtain ⟨hx, hb, hml, hown, hts, hlk, hrt⟩ := id E
  unfold s6_goToJump_b12 at hsh
  refine lv_iconst (v := iI (0)) hx hb dX6_goToJump_12 rfl ?_
  obtain ⟨hz, hz1, hz2⟩ := zR_some hsh
  rw [← hz1, ← hz2]
  exact e_zret hx hb hrt hlk hp hS hz dX6_goToJump_13
set_option maxRecDepth 100000 in
set_option maxHeartbeats 4000000 in
theorem c6_goToJump (l : Launch) (D : va_G) (cA : Nat → ClassId) (B : Nat) (S S' : HP) (x0 : Int) (x1 : Int) (x2 : Int) (r : Int) (hsh : s6_goToJump S x0 x1 x2 = some (r, S')) : Met l yX6_goToJump (e_wu yX6_goToJump cX6_goToJump 3 (some .boolean)) ({ frames := 2, cells := 0, slots := 0, locals := 44 } : Room) (va_Pc [e_rv B (x0), e_rv B (x1), .int (iI (x2))] (fun U => e_PU D cA B S U)) (e_Qi D cA B r S') 0 0 (e_A B) := by
  refine Met.ofW (cc := cX6_goToJump) (maxL := 3) (ret := (some .boolean)) (by decide +kernel) rfl ?_
  intro p e s m args below meth c s₁ Bd hml hv
  obtain ⟨rfl, hp⟩ := hv
  have hp : e_Pic D cA B S s s.heap := hp
  have hx := Bd.exec
  have hb := Bd.bytes
  have hrt := Bd.returns
  have hlk := Bd.notSynchronized
  have hown : s.vm.findClass RX6 = some m.cls := findClass_of_methodNamed Bd.named
  have hts : ∀ w ∈ e_tb, w.before ([e_rv B (x0), e_rv B (x1), .int (iI (x2))] : List Value).toArray s = true := fun w h => atoms_spec (ws := (e_wu yX6_goToJump cX6_goToJump 3 (some .boolean))) Bd.pre w (List.mem_cons_of_mem _ h)
  have E : e_En p s m ([e_rv B (x0), e_rv B (x1), .int (iI (x2))] : List Value).toArray meth c cX6_goToJump RX6 3 (some .boolean) := ⟨hx, hb, hml, hown, hts, hlk, hrt⟩
  have hS : va_S (e_A B) s.heap s.heap [] := va_S.rf
  have hl := e_entry (vs := [e_rv B (x0), e_rv B (x1), .int (iI (x2))]) (n := 3) (Nat.le_of_ble_eq_true rfl) (e_cc (e_rv_cat _ _) (e_cc (e_rv_cat _ _) (e_cc rfl e_cn)))
  rw [lg_entry_eq]
  generalize (lg_sl [e_rv B (x0), e_rv B (x1), .int (iI (x2))] ++ List.replicate (3 - (lg_sl [e_rv B (x0), e_rv B (x1), .int (iI (x2))]).length) Slot.unset).toArray = ls at hl ⊢
  generalize ([e_rv B (x0), e_rv B (x1), .int (iI (x2))] : List Value).toArray = args at hts E ⊢
  have hl : e_lo ls 3 [(0, e_rv B (x0)), (1, e_rv B (x1)), (2, .int (iI (x2)))] := hl
  have hsh := (gd_some hsh).2
  refine lv_iload_n hx hb dX6_goToJump_0 rfl (hl.at 2 rfl) ?_
  refine e_if_lt (tgt := 12) hx hb dX6_goToJump_1 (by decide) (fun c1 => ?_) (fun c1 => ?_)
  · rw [if_pos c1] at hsh
    exact w6_goToJump_b12 E hp hS (hl.sub [] rfl) hsh
  · rw [if_neg c1] at hsh
    refine lv_iload_n hx hb dX6_goToJump_4 rfl (hl.at 2 rfl) ?_
    refine e_aload_n (B := B) (x := x0) hx hb dX6_goToJump_5 rfl (hl.at 0 rfl) ?_
    obtain ⟨v6, h6, hsh⟩ := Option.bind_eq_some_iff.mp hsh
    refine e_getI (k := 6) hx hb hts in_X6 hown hp h6 rfl (by decide) (by decide) rfl (hts _ kf6_31) rfl dX6_goToJump_6 ?_
    refine e_icmp_lt (tgt := 14) hx hb dX6_goToJump_9 (by decide) (fun c9 => ?_) (fun c9 => ?_)
    · rw [if_pos c9] at hsh
      refine e_aload_n (B := B) (x := x0) hx hb dX6_goToJump_14 rfl (hl.at 0 rfl) ?_
      refine lv_iload_n hx hb dX6_goToJump_15 rfl (hl.at 2 rfl) ?_
      obtain ⟨S16, h16, hsh⟩ := Option.bind_eq_some_iff.mp hsh
      refine e_putI (k := 7) hx hb hts in_X6 tyX6 tyX6_ok nmX6 hown hp hS h16 rfl (by decide) (by decide) rfl (hts _ kf6_34) rfl rfl (by decide +kernel) dX6_goToJump_16 (fun H locs hp hS => ?_)
      refine e_aload_n (B := B) (x := x0) hx hb dX6_goToJump_19 rfl (hl.at 0 rfl) ?_
      refine e_aload_n (B := B) (x := x1) hx hb dX6_goToJump_20 rfl (hl.at 1 rfl) ?_
      refine e_aload_n (B := B) (x := x0) hx hb dX6_goToJump_21 rfl (hl.at 0 rfl) ?_
      obtain ⟨v22, h22, hsh⟩ := Option.bind_eq_some_iff.mp hsh
      refine e_getR (k := 5) hx hb hts in_X6 hown hp h22 rfl (by decide) (by decide) rfl (hts _ kf6_28) rfl dX6_goToJump_22 ?_
      refine lv_iload_n hx hb dX6_goToJump_25 rfl (hl.at 2 rfl) ?_
      obtain ⟨v26, h26, hsh⟩ := Option.bind_eq_some_iff.mp hsh
      refine e_iald hx hb hp h26 dX6_goToJump_26 ?_
      refine lv_bipush (v := iI (100)) hx hb dX6_goToJump_27 (by decide +kernel) ?_
      obtain ⟨v29, h29, hsh⟩ := Option.bind_eq_some_iff.mp hsh
      refine e_idiv hx hb h29 dX6_goToJump_29 ?_
      refine e_aload_n (B := B) (x := x0) hx hb dX6_goToJump_30 rfl (hl.at 0 rfl) ?_
      obtain ⟨v31, h31, hsh⟩ := Option.bind_eq_some_iff.mp hsh
      refine e_getR (k := 5) hx hb hts in_X6 hown hp h31 rfl (by decide) (by decide) rfl (hts _ kf6_28) rfl dX6_goToJump_31 ?_
      refine lv_iload_n hx hb dX6_goToJump_34 rfl (hl.at 2 rfl) ?_
      obtain ⟨v35, h35, hsh⟩ := Option.bind_eq_some_iff.mp hsh
      refine e_iald hx hb hp h35 dX6_goToJump_35 ?_
      refine lv_bipush (v := iI (100)) hx hb dX6_goToJump_36 (by decide +kernel) ?_
      obtain ⟨v38, h38, hsh⟩ := Option.bind_eq_some_iff.mp hsh
      refine e_irem hx hb h38 dX6_goToJump_38 ?_
      obtain ⟨S39, h39, hsh⟩ := Option.bind_eq_some_iff.mp hsh
      have ok39 := ok6_go h39
      refine e_callV (nL := 3) (mc := 0) (ms := 0) (T := TX6) (N := 16) (As := [e_rv B (x1), .int (iI (v29)), .int (iI (v38))]) (rest := []) hx hb hml hown hts hp hS hl.size ok39.1 ok39.2.1 ok39.2.2 rfl (by decide) (c6_go l D cA B S16 S39 (x0) (x1) (v29) (v38) h39) rfl rfl kd6_go (kl6_110) ks6_go kv6_go ki6 kh6_go ⟨Nat.le_of_ble_eq_true rfl, Nat.le_of_ble_eq_true rfl⟩ rfl (by simp [e_rv_cat, e_int_cat]) ⟨Nat.le_refl _, Nat.le_refl _⟩ dX6_goToJump_39 rfl (fun H locs hp hS => ?_)
      refine lv_iconst (v := iI (1)) hx hb dX6_goToJump_42 rfl ?_
      obtain ⟨hz, hz1, hz2⟩ := zR_some hsh
      rw [← hz1, ← hz2]
      exact e_zret hx hb hrt hlk hp hS hz dX6_goToJump_43
    · rw [if_neg c9] at hsh
      exact w6_goToJump_b12 E hp hS (hl.sub [] rfl) hsh
theorem ok6_cutOthers {S : HP} {x0 : Int} {x1 : Int} {r : HP} (h : s6_cutOthers S x0 x1 = some r) : 0 ≤ x0 ∧ x0.toNat < e_n S ∧ e_g S x0.toNat = 6 := (gd_some h).1
set_option maxRecDepth 100000 in
set_option maxHeartbeats 4000000 in
theorem w6_cutOthers_b72 {p : Program} {l : Launch} {e : Env} {s : State} {m : MethodId} {args : Array Value} {below : List Frame} {meth : Method} {c : Code} {D : va_G} {cA : Nat → ClassId} {B : Nat} {res : HP} {k2 : HP → Int → Int → Int → Option (HP)} (hk2 : ∀ {ls : Array Slot} {H : Heap} {locs : List Loc} {S : HP} {x0 : Int} {x1 : Int} {x2 : Int} (hp : e_Pic D cA B S s H) (hS : va_S (e_A B) s.heap H locs) (hl : e_lo ls 4 [(0, e_rv B (x0)), (1, e_rv B (x1)), (2, .int (iI (x2)))]) (hsh : k2 S x0 x1 x2 = some res), W p l e ({ frames := 1, cells := 0, slots := 0, locals := 21 } : Room) s m args below meth c H locs 0 0 (MQ below (e_Qv D cA B res) args s 0 0 (e_A B)) (F0 m 2 ls [])) (E : e_En p s m args meth c cX6_cutOthers RX6 4 none) {ls : Array Slot} {H : Heap} {locs : List Loc} {S : HP} {x0 : Int} {x1 : Int} {x2 : Int} (hp : e_Pic D cA B S s H) (hS : va_S (e_A B) s.heap H locs) (hl : e_lo ls 4 [(0, e_rv B (x0)), (1, e_rv B (x1)), (2, .int (iI (x2)))]) (hsh : s6_cutOthers_b72 k2 S x0 x1 x2 = some res) : W p l e ({ frames := 1, cells := 0, slots := 0, locals := 21 } : Room) s m args below meth c H locs 0 0 (MQ below (e_Qv D cA B res) args s 0 0 (e_A B)) (F0 m 72 ls []) := by
  obtain ⟨hx, hb, hml, hown, hts, hlk, hrt⟩ := id E
  unfold s6_cutOthers_b72 at hsh
  refine e_iinc (n := 1) (x := x2) (lv' := [(2, .int (iI ((x2 + 1)))), (0, e_rv B (x0)), (1, e_rv B (x1))]) hx hb dX6_cutOthers_72 hl (k := 2) rfl (by decide) rfl (fun ls hl => ?_)
  refine lv_goto (tgt := 2) hx hb dX6_cutOthers_75 (by decide) ?_
  exact hk2 hp hS (hl.sub [1, 2, 0] rfl) hsh
set_option maxRecDepth 100000 in
set_option maxHeartbeats 4000000 in
theorem w6_cutOthers_l2 {p : Program} {l : Launch} {e : Env} {s : State} {m : MethodId} {args : Array Value} {below : List Frame} {meth : Method} {c : Code} {D : va_G} {cA : Nat → ClassId} {B : Nat} {res : HP} (E : e_En p s m args meth c cX6_cutOthers RX6 4 none) : ∀ (f : Nat) {ls : Array Slot} {H : Heap} {locs : List Loc} {S : HP} {x0 : Int} {x1 : Int} {x2 : Int} (hp : e_Pic D cA B S s H) (hS : va_S (e_A B) s.heap H locs) (hl : e_lo ls 4 [(0, e_rv B (x0)), (1, e_rv B (x1)), (2, .int (iI (x2)))]) (hsh : s6_cutOthers_l2 f S x0 x1 x2 = some res), W p l e ({ frames := 1, cells := 0, slots := 0, locals := 21 } : Room) s m args below meth c H locs 0 0 (MQ below (e_Qv D cA B res) args s 0 0 (e_A B)) (F0 m 2 ls []) := by
  obtain ⟨hx, hb, hml, hown, hts, hlk, hrt⟩ := id E
  intro f
  induction f with
  | zero => intro ls H locs S x0 x1 x2 hp hS hl hsh; cases hsh
  | succ f ih =>
    intro ls H locs S x0 x1 x2 hp hS hl hsh
    have hk2 : ∀ {ls : Array Slot} {H : Heap} {locs : List Loc} {S : HP} {x0 : Int} {x1 : Int} {x2 : Int} (hp : e_Pic D cA B S s H) (hS : va_S (e_A B) s.heap H locs) (hl : e_lo ls 4 [(0, e_rv B (x0)), (1, e_rv B (x1)), (2, .int (iI (x2)))]) (hsh : (s6_cutOthers_l2 f) S x0 x1 x2 = some res), W p l e ({ frames := 1, cells := 0, slots := 0, locals := 21 } : Room) s m args below meth c H locs 0 0 (MQ below (e_Qv D cA B res) args s 0 0 (e_A B)) (F0 m 2 ls []) := ih
    generalize hkk : s6_cutOthers_l2 f = k2 at hk2
    rw [s6_cutOthers_l2] at hsh
    rw [hkk] at hsh
    try dsimp only at hsh
    refine lv_iload_n hx hb dX6_cutOthers_2 rfl (hl.at 2 rfl) ?_
    refine e_aload_n (B := B) (x := x0) hx hb dX6_cutOthers_3 rfl (hl.at 0 rfl) ?_
    obtain ⟨v4, h4, hsh⟩ := Option.bind_eq_some_iff.mp hsh
    refine e_getI (k := 9) hx hb hts in_X6 hown hp h4 rfl (by decide) (by decide) rfl (hts _ kf6_40) rfl dX6_cutOthers_4 ?_
    refine e_icmp_ge (tgt := 78) hx hb dX6_cutOthers_7 (by decide) (fun c7 => ?_) (fun c7 => ?_)
    · rw [if_pos c7] at hsh
      cases hsh
      exact e_vret hx hb hrt hlk hp hS dX6_cutOthers_78
    · rw [if_neg c7] at hsh
      refine e_aload_n (B := B) (x := x0) hx hb dX6_cutOthers_10 rfl (hl.at 0 rfl) ?_
      obtain ⟨v11, h11, hsh⟩ := Option.bind_eq_some_iff.mp hsh
      refine e_getR (k := 8) hx hb hts in_X6 hown hp h11 rfl (by decide) (by decide) rfl (hts _ kf6_37) rfl dX6_cutOthers_11 ?_
      refine lv_iload_n hx hb dX6_cutOthers_14 rfl (hl.at 2 rfl) ?_
      obtain ⟨v15, h15, hsh⟩ := Option.bind_eq_some_iff.mp hsh
      refine e_iald hx hb hp h15 dX6_cutOthers_15 ?_
      refine lv_iconst (v := iI (-1)) hx hb dX6_cutOthers_16 rfl ?_
      refine e_icmp_eq (tgt := 72) hx hb dX6_cutOthers_17 (by decide) (fun c17 => ?_) (fun c17 => ?_)
      · rw [if_pos c17] at hsh
        exact w6_cutOthers_b72 (hk2 := hk2) E hp hS (hl.sub [0, 1, 2] rfl) hsh
      · rw [if_neg c17] at hsh
        refine lv_iconst (v := iI (0)) hx hb dX6_cutOthers_20 rfl ?_
        refine e_aload_n (B := B) (x := x1) hx hb dX6_cutOthers_21 rfl (hl.at 1 rfl) ?_
        refine e_aload_n (B := B) (x := x0) hx hb dX6_cutOthers_22 rfl (hl.at 0 rfl) ?_
        obtain ⟨v23, h23, hsh⟩ := Option.bind_eq_some_iff.mp hsh
        refine e_getR (k := 8) hx hb hts in_X6 hown hp h23 rfl (by decide) (by decide) rfl (hts _ kf6_37) rfl dX6_cutOthers_23 ?_
        refine lv_iload_n hx hb dX6_cutOthers_26 rfl (hl.at 2 rfl) ?_
        obtain ⟨v27, h27, hsh⟩ := Option.bind_eq_some_iff.mp hsh
        refine e_iald hx hb hp h27 dX6_cutOthers_27 ?_
        refine lv_bipush (v := iI (100)) hx hb dX6_cutOthers_28 (by decide +kernel) ?_
        obtain ⟨v30, h30, hsh⟩ := Option.bind_eq_some_iff.mp hsh
        refine e_idiv hx hb h30 dX6_cutOthers_30 ?_
        obtain ⟨⟨v31, S31⟩, h31, hsh⟩ := Option.bind_eq_some_iff.mp hsh
        have hsh : _ = _ := hsh
        try dsimp only at hsh
        have ok31 := ok11_sizeOf h31
        refine e_callI (nL := 4) (mc := 0) (ms := 0) (T := TX11) (N := 6) (As := [.int (iI (v30))]) (rest := [.int (iI (0))]) hx hb hml hown hts hp hS hl.size ok31.1 ok31.2.1 ok31.2.2 rfl (by decide) (c11_sizeOf l D cA B S S31 (x1) (v30) v31 h31) rfl rfl kd11_sizeOf (kl6_82) ks11_sizeOf kv11_sizeOf ki11 kh11_sizeOf ⟨Nat.le_of_ble_eq_true rfl, Nat.le_of_ble_eq_true rfl⟩ rfl (by simp [e_rv_cat, e_int_cat]) ⟨Nat.le_refl _, Nat.le_refl _⟩ dX6_cutOthers_31 rfl (fun H locs hp hS => ?_)
        refine lv_iconst (v := iI (1)) hx hb dX6_cutOthers_34 rfl ?_
        refine e_isub hx hb dX6_cutOthers_35 ?_
        refine e_max (rest := []) hx hb (hml.trans hl.size.symm) hown hts kl6_79 kM_max_s kM_i kM_max_c (Nat.le_of_ble_eq_true rfl) (Nat.le_trans (Nat.add_le_add_right (show _ ≤ 8 by simp [e_rv_cat, e_int_cat]) 13) (Nat.le_of_ble_eq_true rfl)) (Nat.le_refl _) (Nat.le_refl _) dX6_cutOthers_36 ?_
        refine e_istore_n (lv' := [(3, .int (iI ((iMx (0) ((v31 - 1)))))), (0, e_rv B (x0)), (1, e_rv B (x1)), (2, .int (iI (x2)))]) hx hb dX6_cutOthers_39 rfl hl (by decide) rfl (fun ls hl => ?_)
        refine e_aload_n (B := B) (x := x0) hx hb dX6_cutOthers_40 rfl (hl.at 1 rfl) ?_
        obtain ⟨v41, h41, hsh⟩ := Option.bind_eq_some_iff.mp hsh
        refine e_getR (k := 8) hx hb hts in_X6 hown hp h41 rfl (by decide) (by decide) rfl (hts _ kf6_37) rfl dX6_cutOthers_41 ?_
        refine lv_iload_n hx hb dX6_cutOthers_44 rfl (hl.at 3 rfl) ?_
        refine e_aload_n (B := B) (x := x0) hx hb dX6_cutOthers_45 rfl (hl.at 1 rfl) ?_
        obtain ⟨v46, h46, hsh⟩ := Option.bind_eq_some_iff.mp hsh
        refine e_getR (k := 8) hx hb hts in_X6 hown hp h46 rfl (by decide) (by decide) rfl (hts _ kf6_37) rfl dX6_cutOthers_46 ?_
        refine lv_iload_n hx hb dX6_cutOthers_49 rfl (hl.at 3 rfl) ?_
        obtain ⟨v50, h50, hsh⟩ := Option.bind_eq_some_iff.mp hsh
        refine e_iald hx hb hp h50 dX6_cutOthers_50 ?_
        refine lv_bipush (v := iI (100)) hx hb dX6_cutOthers_51 (by decide +kernel) ?_
        obtain ⟨v53, h53, hsh⟩ := Option.bind_eq_some_iff.mp hsh
        refine e_idiv hx hb h53 dX6_cutOthers_53 ?_
        refine lv_bipush (v := iI (100)) hx hb dX6_cutOthers_54 (by decide +kernel) ?_
        refine e_imul hx hb dX6_cutOthers_56 ?_
        refine e_aload_n (B := B) (x := x0) hx hb dX6_cutOthers_57 rfl (hl.at 1 rfl) ?_
        obtain ⟨v58, h58, hsh⟩ := Option.bind_eq_some_iff.mp hsh
        refine e_getR (k := 8) hx hb hts in_X6 hown hp h58 rfl (by decide) (by decide) rfl (hts _ kf6_37) rfl dX6_cutOthers_58 ?_
        refine lv_iload_n hx hb dX6_cutOthers_61 rfl (hl.at 3 rfl) ?_
        obtain ⟨v62, h62, hsh⟩ := Option.bind_eq_some_iff.mp hsh
        refine e_iald hx hb hp h62 dX6_cutOthers_62 ?_
        refine lv_bipush (v := iI (100)) hx hb dX6_cutOthers_63 (by decide +kernel) ?_
        obtain ⟨v65, h65, hsh⟩ := Option.bind_eq_some_iff.mp hsh
        refine e_irem hx hb h65 dX6_cutOthers_65 ?_
        refine lv_iload_n hx hb dX6_cutOthers_66 rfl (hl.at 0 rfl) ?_
        refine e_min (rest := [.int (iI ((v53 * 100))), .int (iI (x2)), e_rv B (v41)]) hx hb (hml.trans hl.size.symm) hown hts kl6_73 kM_min_s kM_i kM_min_c (Nat.le_of_ble_eq_true rfl) (Nat.le_trans (Nat.add_le_add_right (show _ ≤ 8 by simp [e_rv_cat, e_int_cat]) 13) (Nat.le_of_ble_eq_true rfl)) (Nat.le_refl _) (Nat.le_refl _) dX6_cutOthers_67 ?_
        refine e_iadd hx hb dX6_cutOthers_70 ?_
        obtain ⟨S71, h71, hsh⟩ := Option.bind_eq_some_iff.mp hsh
        refine e_iast hx hb hp hS h71 dX6_cutOthers_71 (fun H locs hp hS => ?_)
        exact w6_cutOthers_b72 (hk2 := hk2) E hp hS (hl.sub [1, 2, 3] rfl) hsh
set_option maxRecDepth 100000 in
set_option maxHeartbeats 4000000 in
theorem c6_cutOthers (l : Launch) (D : va_G) (cA : Nat → ClassId) (B : Nat) (S S' : HP) (x0 : Int) (x1 : Int) (hsh : s6_cutOthers S x0 x1 = some S') : Met l yX6_cutOthers (e_wu yX6_cutOthers cX6_cutOthers 4 none) ({ frames := 1, cells := 0, slots := 0, locals := 21 } : Room) (va_Pc [e_rv B (x0), e_rv B (x1)] (fun U => e_PU D cA B S U)) (e_Qv D cA B S') 0 0 (e_A B) := by
  refine Met.ofW (cc := cX6_cutOthers) (maxL := 4) (ret := none) (by decide +kernel) rfl ?_
  intro p e s m args below meth c s₁ Bd hml hv
  obtain ⟨rfl, hp⟩ := hv
  have hp : e_Pic D cA B S s s.heap := hp
  have hx := Bd.exec
  have hb := Bd.bytes
  have hrt := Bd.returns
  have hlk := Bd.notSynchronized
  have hown : s.vm.findClass RX6 = some m.cls := findClass_of_methodNamed Bd.named
  have hts : ∀ w ∈ e_tb, w.before ([e_rv B (x0), e_rv B (x1)] : List Value).toArray s = true := fun w h => atoms_spec (ws := (e_wu yX6_cutOthers cX6_cutOthers 4 none)) Bd.pre w (List.mem_cons_of_mem _ h)
  have E : e_En p s m ([e_rv B (x0), e_rv B (x1)] : List Value).toArray meth c cX6_cutOthers RX6 4 none := ⟨hx, hb, hml, hown, hts, hlk, hrt⟩
  have hS : va_S (e_A B) s.heap s.heap [] := va_S.rf
  have hl := e_entry (vs := [e_rv B (x0), e_rv B (x1)]) (n := 4) (Nat.le_of_ble_eq_true rfl) (e_cc (e_rv_cat _ _) (e_cc (e_rv_cat _ _) e_cn))
  rw [lg_entry_eq]
  generalize (lg_sl [e_rv B (x0), e_rv B (x1)] ++ List.replicate (4 - (lg_sl [e_rv B (x0), e_rv B (x1)]).length) Slot.unset).toArray = ls at hl ⊢
  generalize ([e_rv B (x0), e_rv B (x1)] : List Value).toArray = args at hts E ⊢
  have hl : e_lo ls 4 [(0, e_rv B (x0)), (1, e_rv B (x1))] := hl
  have hsh := (gd_some hsh).2
  refine lv_iconst (v := iI (0)) hx hb dX6_cutOthers_0 rfl ?_
  refine e_istore_n (lv' := [(2, .int (iI (0))), (0, e_rv B (x0)), (1, e_rv B (x1))]) hx hb dX6_cutOthers_1 rfl hl (by decide) rfl (fun ls hl => ?_)
  exact w6_cutOthers_l2 E 1000000 hp hS (hl.sub [1, 2, 0] rfl) hsh
theorem ok11_isLike {S : HP} {x0 : Int} {x1 : Int} {r : Int × HP} (h : s11_isLike S x0 x1 = some r) : 0 ≤ x0 ∧ x0.toNat < e_n S ∧ e_g S x0.toNat = 11 := (gd_some h).1
set_option maxRecDepth 100000 in
set_option maxHeartbeats 4000000 in
theorem w11_isLike_b14 {p : Program} {l : Launch} {e : Env} {s : State} {m : MethodId} {args : Array Value} {below : List Frame} {meth : Method} {c : Code} {D : va_G} {cA : Nat → ClassId} {B : Nat} {res : Int × HP} (E : e_En p s m args meth c cX11_isLike RX11 2 (some .boolean)) {ls : Array Slot} {H : Heap} {locs : List Loc} {S : HP} {y0 : Int} (hp : e_Pic D cA B S s H) (hS : va_S (e_A B) s.heap H locs) (hl : e_lo ls 2 []) (hsh : s11_isLike_b14 S y0 = some res) : W p l e ({ frames := 2, cells := 0, slots := 0, locals := 44 } : Room) s m args below meth c H locs 0 0 (MQ below (e_Qi D cA B res.1 res.2) args s 0 0 (e_A B)) (F0 m 14 ls [.int (iI (y0))]) := by
  obtain ⟨hx, hb, hml, hown, hts, hlk, hrt⟩ := id E
  unfold s11_isLike_b14 at hsh
  obtain ⟨hz, hz1, hz2⟩ := zR_some hsh
  rw [← hz1, ← hz2]
  exact e_zret hx hb hrt hlk hp hS hz dX11_isLike_14
set_option maxRecDepth 100000 in
set_option maxHeartbeats 4000000 in
theorem c11_isLike (l : Launch) (D : va_G) (cA : Nat → ClassId) (B : Nat) (S S' : HP) (x0 : Int) (x1 : Int) (r : Int) (hsh : s11_isLike S x0 x1 = some (r, S')) : Met l yX11_isLike (e_wu yX11_isLike cX11_isLike 2 (some .boolean)) ({ frames := 2, cells := 0, slots := 0, locals := 44 } : Room) (va_Pc [e_rv B (x0), e_rv B (x1)] (fun U => e_PU D cA B S U)) (e_Qi D cA B r S') 0 0 (e_A B) := by
  refine Met.ofW (cc := cX11_isLike) (maxL := 2) (ret := (some .boolean)) (by decide +kernel) rfl ?_
  intro p e s m args below meth c s₁ Bd hml hv
  obtain ⟨rfl, hp⟩ := hv
  have hp : e_Pic D cA B S s s.heap := hp
  have hx := Bd.exec
  have hb := Bd.bytes
  have hrt := Bd.returns
  have hlk := Bd.notSynchronized
  have hown : s.vm.findClass RX11 = some m.cls := findClass_of_methodNamed Bd.named
  have hts : ∀ w ∈ e_tb, w.before ([e_rv B (x0), e_rv B (x1)] : List Value).toArray s = true := fun w h => atoms_spec (ws := (e_wu yX11_isLike cX11_isLike 2 (some .boolean))) Bd.pre w (List.mem_cons_of_mem _ h)
  have E : e_En p s m ([e_rv B (x0), e_rv B (x1)] : List Value).toArray meth c cX11_isLike RX11 2 (some .boolean) := ⟨hx, hb, hml, hown, hts, hlk, hrt⟩
  have hS : va_S (e_A B) s.heap s.heap [] := va_S.rf
  have hl := e_entry (vs := [e_rv B (x0), e_rv B (x1)]) (n := 2) (Nat.le_of_ble_eq_true rfl) (e_cc (e_rv_cat _ _) (e_cc (e_rv_cat _ _) e_cn))
  rw [lg_entry_eq]
  generalize (lg_sl [e_rv B (x0), e_rv B (x1)] ++ List.replicate (2 - (lg_sl [e_rv B (x0), e_rv B (x1)]).length) Slot.unset).toArray = ls at hl ⊢
  generalize ([e_rv B (x0), e_rv B (x1)] : List Value).toArray = args at hts E ⊢
  have hl : e_lo ls 2 [(0, e_rv B (x0)), (1, e_rv B (x1))] := hl
  have hsh := (gd_some hsh).2
  refine e_aload_n (B := B) (x := x0) hx hb dX11_isLike_0 rfl (hl.at 0 rfl) ?_
  refine e_aload_n (B := B) (x := x1) hx hb dX11_isLike_1 rfl (hl.at 1 rfl) ?_
  obtain ⟨⟨v2, S2⟩, h2, hsh⟩ := Option.bind_eq_some_iff.mp hsh
  have hsh : _ = _ := hsh
  try dsimp only at hsh
  have ok2 := ok11_firstDifference h2
  refine e_callI (nL := 2) (mc := 0) (ms := 0) (T := TX11) (N := 6) (As := [e_rv B (x1)]) (rest := []) hx hb hml hown hts hp hS hl.size ok2.1 ok2.2.1 ok2.2.2 rfl (by decide) (c11_firstDifference l D cA B S S2 (x0) (x1) v2 h2) rfl rfl kd11_firstDifference (kl11_37) ks11_firstDifference kv11_firstDifference ki11 kh11_firstDifference ⟨Nat.le_of_ble_eq_true rfl, Nat.le_of_ble_eq_true rfl⟩ rfl (by simp [e_rv_cat, e_int_cat]) ⟨Nat.le_refl _, Nat.le_refl _⟩ dX11_isLike_2 rfl (fun H locs hp hS => ?_)
  refine lv_iconst (v := iI (-1)) hx hb dX11_isLike_5 rfl ?_
  refine e_icmp_ne (tgt := 13) hx hb dX11_isLike_6 (by decide) (fun c6 => ?_) (fun c6 => ?_)
  · rw [if_neg c6] at hsh
    refine lv_iconst (v := iI (0)) hx hb dX11_isLike_13 rfl ?_
    exact w11_isLike_b14 E hp hS (hl.sub [] rfl) hsh
  · rw [if_pos c6] at hsh
    refine lv_iconst (v := iI (1)) hx hb dX11_isLike_9 rfl ?_
    refine lv_goto (tgt := 14) hx hb dX11_isLike_10 (by decide) ?_
    exact w11_isLike_b14 E hp hS (hl.sub [] rfl) hsh
theorem ok6_goOlder {S : HP} {x0 : Int} {x1 : Int} {x2 : Int} {r : Int × HP} (h : s6_goOlder S x0 x1 x2 = some r) : 0 ≤ x0 ∧ x0.toNat < e_n S ∧ e_g S x0.toNat = 6 := (gd_some h).1
set_option maxRecDepth 100000 in
set_option maxHeartbeats 4000000 in
theorem w6_goOlder_b90 {p : Program} {l : Launch} {e : Env} {s : State} {m : MethodId} {args : Array Value} {below : List Frame} {meth : Method} {c : Code} {D : va_G} {cA : Nat → ClassId} {B : Nat} {res : Int × HP} (E : e_En p s m args meth c cX6_goOlder RX6 6 (some .boolean)) {ls : Array Slot} {H : Heap} {locs : List Loc} {S : HP} {x0 : Int} {x1 : Int} {x2 : Int} {x3 : Int} (hp : e_Pic D cA B S s H) (hS : va_S (e_A B) s.heap H locs) (hl : e_lo ls 6 [(0, e_rv B (x0)), (1, e_rv B (x1)), (2, .int (iI (x2))), (3, .int (iI (x3)))]) (hsh : s6_goOlder_b90 S x0 x1 x2 x3 = some res) : W p l e ({ frames := 3, cells := 0, slots := 0, locals := 83 } : Room) s m args below meth c H locs 0 0 (MQ below (e_Qi D cA B res.1 res.2) args s 0 0 (e_A B)) (F0 m 90 ls []) := by
  obtain ⟨hx, hb, hml, hown, hts, hlk, hrt⟩ := id E
  unfold s6_goOlder_b90 at hsh
  refine e_aload_n (B := B) (x := x0) hx hb dX6_goOlder_90 rfl (hl.at 0 rfl) ?_
  refine e_aload_n (B := B) (x := x1) hx hb dX6_goOlder_91 rfl (hl.at 1 rfl) ?_
  refine lv_iload_n hx hb dX6_goOlder_92 rfl (hl.at 3 rfl) ?_
  refine lv_iload_n hx hb dX6_goOlder_93 rfl (hl.at 2 rfl) ?_
  refine e_isub hx hb dX6_goOlder_94 ?_
  obtain ⟨⟨v95, S95⟩, h95, hsh⟩ := Option.bind_eq_some_iff.mp hsh
  have hsh : _ = _ := hsh
  try dsimp only at hsh
  have ok95 := ok6_goToJump h95
  refine e_callI (nL := 6) (mc := 0) (ms := 0) (T := TX6) (N := 16) (As := [e_rv B (x1), .int (iI ((x3 - x2)))]) (rest := []) hx hb hml hown hts hp hS hl.size ok95.1 ok95.2.1 ok95.2.2 rfl (by decide) (c6_goToJump l D cA B S S95 (x0) (x1) ((x3 - x2)) v95 h95) rfl rfl kd6_goToJump (kl6_106) ks6_goToJump kv6_goToJump ki6 kh6_goToJump ⟨Nat.le_of_ble_eq_true rfl, Nat.le_of_ble_eq_true rfl⟩ rfl (by simp [e_rv_cat, e_int_cat]) ⟨Nat.le_refl _, Nat.le_refl _⟩ dX6_goOlder_95 rfl (fun H locs hp hS => ?_)
  obtain ⟨hz, hz1, hz2⟩ := zR_some hsh
  rw [← hz1, ← hz2]
  exact e_zret hx hb hrt hlk hp hS hz dX6_goOlder_98
set_option maxRecDepth 100000 in
set_option maxHeartbeats 4000000 in
theorem w6_goOlder_b66 {p : Program} {l : Launch} {e : Env} {s : State} {m : MethodId} {args : Array Value} {below : List Frame} {meth : Method} {c : Code} {D : va_G} {cA : Nat → ClassId} {B : Nat} {res : Int × HP} (E : e_En p s m args meth c cX6_goOlder RX6 6 (some .boolean)) {ls : Array Slot} {H : Heap} {locs : List Loc} {S : HP} {x0 : Int} {x1 : Int} {x2 : Int} {x3 : Int} (hp : e_Pic D cA B S s H) (hS : va_S (e_A B) s.heap H locs) (hl : e_lo ls 6 [(0, e_rv B (x0)), (1, e_rv B (x1)), (2, .int (iI (x2))), (3, .int (iI (x3)))]) (hsh : s6_goOlder_b66 S x0 x1 x2 x3 = some res) : W p l e ({ frames := 3, cells := 0, slots := 0, locals := 83 } : Room) s m args below meth c H locs 0 0 (MQ below (e_Qi D cA B res.1 res.2) args s 0 0 (e_A B)) (F0 m 66 ls []) := by
  obtain ⟨hx, hb, hml, hown, hts, hlk, hrt⟩ := id E
  unfold s6_goOlder_b66 at hsh
  refine lv_iload_n hx hb dX6_goOlder_66 rfl (hl.at 3 rfl) ?_
  refine lv_iload_n hx hb dX6_goOlder_67 rfl (hl.at 2 rfl) ?_
  refine e_isub hx hb dX6_goOlder_68 ?_
  refine e_if_ge (tgt := 74) hx hb dX6_goOlder_69 (by decide) (fun c69 => ?_) (fun c69 => ?_)
  · rw [if_pos c69] at hsh
    refine e_aload_n (B := B) (x := x0) hx hb dX6_goOlder_74 rfl (hl.at 0 rfl) ?_
    obtain ⟨v75, h75, hsh⟩ := Option.bind_eq_some_iff.mp hsh
    refine e_getI (k := 7) hx hb hts in_X6 hown hp h75 rfl (by decide) (by decide) rfl (hts _ kf6_34) rfl dX6_goOlder_75 ?_
    refine lv_iconst (v := iI (-1)) hx hb dX6_goOlder_78 rfl ?_
    refine e_icmp_ne (tgt := 90) hx hb dX6_goOlder_79 (by decide) (fun c79 => ?_) (fun c79 => ?_)
    · rw [if_neg c79] at hsh
      exact w6_goOlder_b90 E hp hS (hl.sub [0, 1, 2, 3] rfl) hsh
    · rw [if_pos c79] at hsh
      refine e_aload_n (B := B) (x := x0) hx hb dX6_goOlder_82 rfl (hl.at 0 rfl) ?_
      refine e_aload_n (B := B) (x := x0) hx hb dX6_goOlder_83 rfl (hl.at 0 rfl) ?_
      obtain ⟨⟨v84, S84⟩, h84, hsh⟩ := Option.bind_eq_some_iff.mp hsh
      have hsh : _ = _ := hsh
      try dsimp only at hsh
      have ok84 := ok6_here h84
      refine e_callI (nL := 6) (mc := 0) (ms := 0) (T := TX6) (N := 16) (As := []) (rest := [e_rv B (x0)]) hx hb hml hown hts hp hS hl.size ok84.1 ok84.2.1 ok84.2.2 rfl (by decide) (c6_here l D cA B S S84 (x0) v84 h84) rfl rfl kd6_here (kl6_98) ks6_here kv6_here ki6 kh6_here ⟨Nat.le_of_ble_eq_true rfl, Nat.le_of_ble_eq_true rfl⟩ rfl (by simp [e_rv_cat, e_int_cat]) ⟨Nat.le_refl _, Nat.le_refl _⟩ dX6_goOlder_84 rfl (fun H locs hp hS => ?_)
      obtain ⟨S87, h87, hsh⟩ := Option.bind_eq_some_iff.mp hsh
      have ok87 := ok6_keepJump h87
      refine e_callV (nL := 6) (mc := 0) (ms := 0) (T := TX6) (N := 16) (As := [.int (iI (v84))]) (rest := []) hx hb hml hown hts hp hS hl.size ok87.1 ok87.2.1 ok87.2.2 rfl (by decide) (c6_keepJump l D cA B S84 S87 (x0) (v84) h87) rfl rfl kd6_keepJump (kl6_102) ks6_keepJump kv6_keepJump ki6 kh6_keepJump ⟨Nat.le_of_ble_eq_true rfl, Nat.le_of_ble_eq_true rfl⟩ rfl (by simp [e_rv_cat, e_int_cat]) ⟨Nat.le_refl _, Nat.le_refl _⟩ dX6_goOlder_87 rfl (fun H locs hp hS => ?_)
      exact w6_goOlder_b90 E hp hS (hl.sub [0, 1, 2, 3] rfl) hsh
  · rw [if_neg c69] at hsh
    refine lv_iconst (v := iI (0)) hx hb dX6_goOlder_72 rfl ?_
    obtain ⟨hz, hz1, hz2⟩ := zR_some hsh
    rw [← hz1, ← hz2]
    exact e_zret hx hb hrt hlk hp hS hz dX6_goOlder_73
set_option maxRecDepth 100000 in
set_option maxHeartbeats 4000000 in
theorem w6_goOlder_b49 {p : Program} {l : Launch} {e : Env} {s : State} {m : MethodId} {args : Array Value} {below : List Frame} {meth : Method} {c : Code} {D : va_G} {cA : Nat → ClassId} {B : Nat} {res : Int × HP} {k16 : HP → Int → Int → Int → Int → Int → Option (Int × HP)} (hk16 : ∀ {ls : Array Slot} {H : Heap} {locs : List Loc} {S : HP} {x0 : Int} {x1 : Int} {x2 : Int} {x4 : Int} {x5 : Int} (hp : e_Pic D cA B S s H) (hS : va_S (e_A B) s.heap H locs) (hl : e_lo ls 6 [(0, e_rv B (x0)), (1, e_rv B (x1)), (2, .int (iI (x2))), (4, .int (iI (x4))), (5, .int (iI (x5)))]) (hsh : k16 S x0 x1 x2 x4 x5 = some res), W p l e ({ frames := 3, cells := 0, slots := 0, locals := 83 } : Room) s m args below meth c H locs 0 0 (MQ below (e_Qi D cA B res.1 res.2) args s 0 0 (e_A B)) (F0 m 16 ls [])) (E : e_En p s m args meth c cX6_goOlder RX6 6 (some .boolean)) {ls : Array Slot} {H : Heap} {locs : List Loc} {S : HP} {x0 : Int} {x1 : Int} {x2 : Int} {x5 : Int} {y0 : Int} {y1 : Int} (hp : e_Pic D cA B S s H) (hS : va_S (e_A B) s.heap H locs) (hl : e_lo ls 6 [(0, e_rv B (x0)), (1, e_rv B (x1)), (2, .int (iI (x2))), (5, .int (iI (x5)))]) (hsh : s6_goOlder_b49 k16 S x0 x1 x2 x5 y0 y1 = some res) : W p l e ({ frames := 3, cells := 0, slots := 0, locals := 83 } : Room) s m args below meth c H locs 0 0 (MQ below (e_Qi D cA B res.1 res.2) args s 0 0 (e_A B)) (F0 m 49 ls [.int (iI (y1)), .int (iI (y0))]) := by
  obtain ⟨hx, hb, hml, hown, hts, hlk, hrt⟩ := id E
  unfold s6_goOlder_b49 at hsh
  refine e_iadd hx hb dX6_goOlder_49 ?_
  refine e_istore (lv' := [(4, .int (iI ((y0 + y1)))), (0, e_rv B (x0)), (1, e_rv B (x1)), (2, .int (iI (x2))), (5, .int (iI (x5)))]) hx hb dX6_goOlder_50 hl (by decide) rfl (fun ls hl => ?_)
  refine e_iinc (n := 1) (x := x5) (lv' := [(5, .int (iI ((x5 + 1)))), (4, .int (iI ((y0 + y1)))), (0, e_rv B (x0)), (1, e_rv B (x1)), (2, .int (iI (x2)))]) hx hb dX6_goOlder_52 hl (k := 4) rfl (by decide) rfl (fun ls hl => ?_)
  refine lv_goto (tgt := 16) hx hb dX6_goOlder_55 (by decide) ?_
  exact hk16 hp hS (hl.sub [2, 3, 4, 1, 0] rfl) hsh
set_option maxRecDepth 100000 in
set_option maxHeartbeats 4000000 in
theorem w6_goOlder_l16 {p : Program} {l : Launch} {e : Env} {s : State} {m : MethodId} {args : Array Value} {below : List Frame} {meth : Method} {c : Code} {D : va_G} {cA : Nat → ClassId} {B : Nat} {res : Int × HP} (E : e_En p s m args meth c cX6_goOlder RX6 6 (some .boolean)) : ∀ (f : Nat) {ls : Array Slot} {H : Heap} {locs : List Loc} {S : HP} {x0 : Int} {x1 : Int} {x2 : Int} {x4 : Int} {x5 : Int} (hp : e_Pic D cA B S s H) (hS : va_S (e_A B) s.heap H locs) (hl : e_lo ls 6 [(0, e_rv B (x0)), (1, e_rv B (x1)), (2, .int (iI (x2))), (4, .int (iI (x4))), (5, .int (iI (x5)))]) (hsh : s6_goOlder_l16 f S x0 x1 x2 x4 x5 = some res), W p l e ({ frames := 3, cells := 0, slots := 0, locals := 83 } : Room) s m args below meth c H locs 0 0 (MQ below (e_Qi D cA B res.1 res.2) args s 0 0 (e_A B)) (F0 m 16 ls []) := by
  obtain ⟨hx, hb, hml, hown, hts, hlk, hrt⟩ := id E
  intro f
  induction f with
  | zero => intro ls H locs S x0 x1 x2 x4 x5 hp hS hl hsh; cases hsh
  | succ f ih =>
    intro ls H locs S x0 x1 x2 x4 x5 hp hS hl hsh
    have hk16 : ∀ {ls : Array Slot} {H : Heap} {locs : List Loc} {S : HP} {x0 : Int} {x1 : Int} {x2 : Int} {x4 : Int} {x5 : Int} (hp : e_Pic D cA B S s H) (hS : va_S (e_A B) s.heap H locs) (hl : e_lo ls 6 [(0, e_rv B (x0)), (1, e_rv B (x1)), (2, .int (iI (x2))), (4, .int (iI (x4))), (5, .int (iI (x5)))]) (hsh : (s6_goOlder_l16 f) S x0 x1 x2 x4 x5 = some res), W p l e ({ frames := 3, cells := 0, slots := 0, locals := 83 } : Room) s m args below meth c H locs 0 0 (MQ below (e_Qi D cA B res.1 res.2) args s 0 0 (e_A B)) (F0 m 16 ls []) := ih
    generalize hkk : s6_goOlder_l16 f = k16 at hk16
    rw [s6_goOlder_l16] at hsh
    rw [hkk] at hsh
    try dsimp only at hsh
    refine lv_iload hx hb dX6_goOlder_16 (hl.at 4 rfl) ?_
    refine e_aload_n (B := B) (x := x0) hx hb dX6_goOlder_18 rfl (hl.at 0 rfl) ?_
    obtain ⟨v19, h19, hsh⟩ := Option.bind_eq_some_iff.mp hsh
    refine e_getI (k := 6) hx hb hts in_X6 hown hp h19 rfl (by decide) (by decide) rfl (hts _ kf6_31) rfl dX6_goOlder_19 ?_
    refine e_icmp_ge (tgt := 58) hx hb dX6_goOlder_22 (by decide) (fun c22 => ?_) (fun c22 => ?_)
    · rw [if_pos c22] at hsh
      refine lv_iload hx hb dX6_goOlder_58 (hl.at 3 rfl) ?_
      refine lv_bipush (v := iI (9)) hx hb dX6_goOlder_60 (by decide +kernel) ?_
      refine e_min (rest := []) hx hb (hml.trans hl.size.symm) hown hts kl6_73 kM_min_s kM_i kM_min_c (Nat.le_of_ble_eq_true rfl) (Nat.le_trans (Nat.add_le_add_right (show _ ≤ 8 by simp [e_rv_cat, e_int_cat]) 13) (Nat.le_of_ble_eq_true rfl)) (Nat.le_refl _) (Nat.le_refl _) dX6_goOlder_62 ?_
      refine e_istore_n (lv' := [(3, .int (iI ((iMn (x4) (9))))), (0, e_rv B (x0)), (1, e_rv B (x1)), (2, .int (iI (x2))), (4, .int (iI (x4))), (5, .int (iI (x5)))]) hx hb dX6_goOlder_65 rfl hl (by decide) rfl (fun ls hl => ?_)
      exact w6_goOlder_b66 E hp hS (hl.sub [1, 2, 3, 0] rfl) hsh
    · rw [if_neg c22] at hsh
      refine lv_iload hx hb dX6_goOlder_25 (hl.at 3 rfl) ?_
      refine e_aload_n (B := B) (x := x0) hx hb dX6_goOlder_27 rfl (hl.at 0 rfl) ?_
      obtain ⟨v28, h28, hsh⟩ := Option.bind_eq_some_iff.mp hsh
      refine e_getR (k := 5) hx hb hts in_X6 hown hp h28 rfl (by decide) (by decide) rfl (hts _ kf6_28) rfl dX6_goOlder_28 ?_
      refine lv_iload hx hb dX6_goOlder_31 (hl.at 4 rfl) ?_
      obtain ⟨v33, h33, hsh⟩ := Option.bind_eq_some_iff.mp hsh
      refine e_iald hx hb hp h33 dX6_goOlder_33 ?_
      refine lv_bipush (v := iI (100)) hx hb dX6_goOlder_34 (by decide +kernel) ?_
      obtain ⟨v36, h36, hsh⟩ := Option.bind_eq_some_iff.mp hsh
      refine e_idiv hx hb h36 dX6_goOlder_36 ?_
      refine e_aload_n (B := B) (x := x0) hx hb dX6_goOlder_37 rfl (hl.at 0 rfl) ?_
      obtain ⟨v38, h38, hsh⟩ := Option.bind_eq_some_iff.mp hsh
      refine e_getI (k := 0) hx hb hts in_X6 hown hp h38 rfl (by decide) (by decide) rfl (hts _ kf6_9) rfl dX6_goOlder_38 ?_
      refine e_icmp_ne (tgt := 48) hx hb dX6_goOlder_41 (by decide) (fun c41 => ?_) (fun c41 => ?_)
      · rw [if_neg c41] at hsh
        refine lv_iconst (v := iI (1)) hx hb dX6_goOlder_48 rfl ?_
        exact w6_goOlder_b49 (hk16 := hk16) E hp hS (hl.sub [0, 1, 2, 4] rfl) hsh
      · rw [if_pos c41] at hsh
        refine lv_iconst (v := iI (0)) hx hb dX6_goOlder_44 rfl ?_
        refine lv_goto (tgt := 49) hx hb dX6_goOlder_45 (by decide) ?_
        exact w6_goOlder_b49 (hk16 := hk16) E hp hS (hl.sub [0, 1, 2, 4] rfl) hsh
set_option maxRecDepth 100000 in
set_option maxHeartbeats 4000000 in
theorem c6_goOlder (l : Launch) (D : va_G) (cA : Nat → ClassId) (B : Nat) (S S' : HP) (x0 : Int) (x1 : Int) (x2 : Int) (r : Int) (hsh : s6_goOlder S x0 x1 x2 = some (r, S')) : Met l yX6_goOlder (e_wu yX6_goOlder cX6_goOlder 6 (some .boolean)) ({ frames := 3, cells := 0, slots := 0, locals := 83 } : Room) (va_Pc [e_rv B (x0), e_rv B (x1), .int (iI (x2))] (fun U => e_PU D cA B S U)) (e_Qi D cA B r S') 0 0 (e_A B) := by
  refine Met.ofW (cc := cX6_goOlder) (maxL := 6) (ret := (some .boolean)) (by decide +kernel) rfl ?_
  intro p e s m args below meth c s₁ Bd hml hv
  obtain ⟨rfl, hp⟩ := hv
  have hp : e_Pic D cA B S s s.heap := hp
  have hx := Bd.exec
  have hb := Bd.bytes
  have hrt := Bd.returns
  have hlk := Bd.notSynchronized
  have hown : s.vm.findClass RX6 = some m.cls := findClass_of_methodNamed Bd.named
  have hts : ∀ w ∈ e_tb, w.before ([e_rv B (x0), e_rv B (x1), .int (iI (x2))] : List Value).toArray s = true := fun w h => atoms_spec (ws := (e_wu yX6_goOlder cX6_goOlder 6 (some .boolean))) Bd.pre w (List.mem_cons_of_mem _ h)
  have E : e_En p s m ([e_rv B (x0), e_rv B (x1), .int (iI (x2))] : List Value).toArray meth c cX6_goOlder RX6 6 (some .boolean) := ⟨hx, hb, hml, hown, hts, hlk, hrt⟩
  have hS : va_S (e_A B) s.heap s.heap [] := va_S.rf
  have hl := e_entry (vs := [e_rv B (x0), e_rv B (x1), .int (iI (x2))]) (n := 6) (Nat.le_of_ble_eq_true rfl) (e_cc (e_rv_cat _ _) (e_cc (e_rv_cat _ _) (e_cc rfl e_cn)))
  rw [lg_entry_eq]
  generalize (lg_sl [e_rv B (x0), e_rv B (x1), .int (iI (x2))] ++ List.replicate (6 - (lg_sl [e_rv B (x0), e_rv B (x1), .int (iI (x2))]).length) Slot.unset).toArray = ls at hl ⊢
  generalize ([e_rv B (x0), e_rv B (x1), .int (iI (x2))] : List Value).toArray = args at hts E ⊢
  have hl : e_lo ls 6 [(0, e_rv B (x0)), (1, e_rv B (x1)), (2, .int (iI (x2)))] := hl
  have hsh := (gd_some hsh).2
  refine e_aload_n (B := B) (x := x0) hx hb dX6_goOlder_0 rfl (hl.at 0 rfl) ?_
  obtain ⟨v1, h1, hsh⟩ := Option.bind_eq_some_iff.mp hsh
  refine e_getI (k := 7) hx hb hts in_X6 hown hp h1 rfl (by decide) (by decide) rfl (hts _ kf6_34) rfl dX6_goOlder_1 ?_
  refine e_istore_n (lv' := [(3, .int (iI (v1))), (0, e_rv B (x0)), (1, e_rv B (x1)), (2, .int (iI (x2)))]) hx hb dX6_goOlder_4 rfl hl (by decide) rfl (fun ls hl => ?_)
  refine lv_iload_n hx hb dX6_goOlder_5 rfl (hl.at 0 rfl) ?_
  refine lv_iconst (v := iI (-1)) hx hb dX6_goOlder_6 rfl ?_
  refine e_icmp_ne (tgt := 66) hx hb dX6_goOlder_7 (by decide) (fun c7 => ?_) (fun c7 => ?_)
  · rw [if_neg c7] at hsh
    exact w6_goOlder_b66 E hp hS (hl.sub [1, 2, 3, 0] rfl) hsh
  · rw [if_pos c7] at hsh
    refine lv_iconst (v := iI (0)) hx hb dX6_goOlder_10 rfl ?_
    refine e_istore (lv' := [(4, .int (iI (0))), (3, .int (iI (v1))), (0, e_rv B (x0)), (1, e_rv B (x1)), (2, .int (iI (x2)))]) hx hb dX6_goOlder_11 hl (by decide) rfl (fun ls hl => ?_)
    refine lv_iconst (v := iI (0)) hx hb dX6_goOlder_13 rfl ?_
    refine e_istore (lv' := [(5, .int (iI (0))), (4, .int (iI (0))), (3, .int (iI (v1))), (0, e_rv B (x0)), (1, e_rv B (x1)), (2, .int (iI (x2)))]) hx hb dX6_goOlder_14 hl (by decide) rfl (fun ls hl => ?_)
    exact w6_goOlder_l16 E 1000000 hp hS (hl.sub [3, 4, 5, 1, 0] rfl) hsh
theorem ok6_goNewer {S : HP} {x0 : Int} {x1 : Int} {x2 : Int} {r : Int × HP} (h : s6_goNewer S x0 x1 x2 = some r) : 0 ≤ x0 ∧ x0.toNat < e_n S ∧ e_g S x0.toNat = 6 := (gd_some h).1
set_option maxRecDepth 100000 in
set_option maxHeartbeats 4000000 in
theorem w6_goNewer_b27 {p : Program} {l : Launch} {e : Env} {s : State} {m : MethodId} {args : Array Value} {below : List Frame} {meth : Method} {c : Code} {D : va_G} {cA : Nat → ClassId} {B : Nat} {res : Int × HP} (E : e_En p s m args meth c cX6_goNewer RX6 3 (some .boolean)) {ls : Array Slot} {H : Heap} {locs : List Loc} {S : HP} {y0 : Int} (hp : e_Pic D cA B S s H) (hS : va_S (e_A B) s.heap H locs) (hl : e_lo ls 3 []) (hsh : s6_goNewer_b27 S y0 = some res) : W p l e ({ frames := 3, cells := 0, slots := 0, locals := 66 } : Room) s m args below meth c H locs 0 0 (MQ below (e_Qi D cA B res.1 res.2) args s 0 0 (e_A B)) (F0 m 27 ls [.int (iI (y0))]) := by
  obtain ⟨hx, hb, hml, hown, hts, hlk, hrt⟩ := id E
  unfold s6_goNewer_b27 at hsh
  obtain ⟨hz, hz1, hz2⟩ := zR_some hsh
  rw [← hz1, ← hz2]
  exact e_zret hx hb hrt hlk hp hS hz dX6_goNewer_27
set_option maxRecDepth 100000 in
set_option maxHeartbeats 4000000 in
theorem w6_goNewer_b26 {p : Program} {l : Launch} {e : Env} {s : State} {m : MethodId} {args : Array Value} {below : List Frame} {meth : Method} {c : Code} {D : va_G} {cA : Nat → ClassId} {B : Nat} {res : Int × HP} (E : e_En p s m args meth c cX6_goNewer RX6 3 (some .boolean)) {ls : Array Slot} {H : Heap} {locs : List Loc} {S : HP} (hp : e_Pic D cA B S s H) (hS : va_S (e_A B) s.heap H locs) (hl : e_lo ls 3 []) (hsh : s6_goNewer_b26 S  = some res) : W p l e ({ frames := 3, cells := 0, slots := 0, locals := 66 } : Room) s m args below meth c H locs 0 0 (MQ below (e_Qi D cA B res.1 res.2) args s 0 0 (e_A B)) (F0 m 26 ls []) := by
  obtain ⟨hx, hb, hml, hown, hts, hlk, hrt⟩ := id E
  unfold s6_goNewer_b26 at hsh
  refine lv_iconst (v := iI (0)) hx hb dX6_goNewer_26 rfl ?_
  exact w6_goNewer_b27 E hp hS (hl.sub [] rfl) hsh
set_option maxRecDepth 100000 in
set_option maxHeartbeats 4000000 in
theorem c6_goNewer (l : Launch) (D : va_G) (cA : Nat → ClassId) (B : Nat) (S S' : HP) (x0 : Int) (x1 : Int) (x2 : Int) (r : Int) (hsh : s6_goNewer S x0 x1 x2 = some (r, S')) : Met l yX6_goNewer (e_wu yX6_goNewer cX6_goNewer 3 (some .boolean)) ({ frames := 3, cells := 0, slots := 0, locals := 66 } : Room) (va_Pc [e_rv B (x0), e_rv B (x1), .int (iI (x2))] (fun U => e_PU D cA B S U)) (e_Qi D cA B r S') 0 0 (e_A B) := by
  refine Met.ofW (cc := cX6_goNewer) (maxL := 3) (ret := (some .boolean)) (by decide +kernel) rfl ?_
  intro p e s m args below meth c s₁ Bd hml hv
  obtain ⟨rfl, hp⟩ := hv
  have hp : e_Pic D cA B S s s.heap := hp
  have hx := Bd.exec
  have hb := Bd.bytes
  have hrt := Bd.returns
  have hlk := Bd.notSynchronized
  have hown : s.vm.findClass RX6 = some m.cls := findClass_of_methodNamed Bd.named
  have hts : ∀ w ∈ e_tb, w.before ([e_rv B (x0), e_rv B (x1), .int (iI (x2))] : List Value).toArray s = true := fun w h => atoms_spec (ws := (e_wu yX6_goNewer cX6_goNewer 3 (some .boolean))) Bd.pre w (List.mem_cons_of_mem _ h)
  have E : e_En p s m ([e_rv B (x0), e_rv B (x1), .int (iI (x2))] : List Value).toArray meth c cX6_goNewer RX6 3 (some .boolean) := ⟨hx, hb, hml, hown, hts, hlk, hrt⟩
  have hS : va_S (e_A B) s.heap s.heap [] := va_S.rf
  have hl := e_entry (vs := [e_rv B (x0), e_rv B (x1), .int (iI (x2))]) (n := 3) (Nat.le_of_ble_eq_true rfl) (e_cc (e_rv_cat _ _) (e_cc (e_rv_cat _ _) (e_cc rfl e_cn)))
  rw [lg_entry_eq]
  generalize (lg_sl [e_rv B (x0), e_rv B (x1), .int (iI (x2))] ++ List.replicate (3 - (lg_sl [e_rv B (x0), e_rv B (x1), .int (iI (x2))]).length) Slot.unset).toArray = ls at hl ⊢
  generalize ([e_rv B (x0), e_rv B (x1), .int (iI (x2))] : List Value).toArray = args at hts E ⊢
  have hl : e_lo ls 3 [(0, e_rv B (x0)), (1, e_rv B (x1)), (2, .int (iI (x2)))] := hl
  have hsh := (gd_some hsh).2
  refine e_aload_n (B := B) (x := x0) hx hb dX6_goNewer_0 rfl (hl.at 0 rfl) ?_
  obtain ⟨v1, h1, hsh⟩ := Option.bind_eq_some_iff.mp hsh
  refine e_getI (k := 7) hx hb hts in_X6 hown hp h1 rfl (by decide) (by decide) rfl (hts _ kf6_34) rfl dX6_goNewer_1 ?_
  refine lv_iconst (v := iI (-1)) hx hb dX6_goNewer_4 rfl ?_
  refine e_icmp_eq (tgt := 26) hx hb dX6_goNewer_5 (by decide) (fun c5 => ?_) (fun c5 => ?_)
  · rw [if_pos c5] at hsh
    exact w6_goNewer_b26 E hp hS (hl.sub [] rfl) hsh
  · rw [if_neg c5] at hsh
    refine e_aload_n (B := B) (x := x0) hx hb dX6_goNewer_8 rfl (hl.at 0 rfl) ?_
    refine e_aload_n (B := B) (x := x1) hx hb dX6_goNewer_9 rfl (hl.at 1 rfl) ?_
    refine e_aload_n (B := B) (x := x0) hx hb dX6_goNewer_10 rfl (hl.at 0 rfl) ?_
    obtain ⟨v11, h11, hsh⟩ := Option.bind_eq_some_iff.mp hsh
    refine e_getI (k := 7) hx hb hts in_X6 hown hp h11 rfl (by decide) (by decide) rfl (hts _ kf6_34) rfl dX6_goNewer_11 ?_
    refine lv_iload_n hx hb dX6_goNewer_14 rfl (hl.at 2 rfl) ?_
    refine e_iadd hx hb dX6_goNewer_15 ?_
    obtain ⟨⟨v16, S16⟩, h16, hsh⟩ := Option.bind_eq_some_iff.mp hsh
    have hsh : _ = _ := hsh
    try dsimp only at hsh
    have ok16 := ok6_goToJump h16
    refine e_callI (nL := 3) (mc := 0) (ms := 0) (T := TX6) (N := 16) (As := [e_rv B (x1), .int (iI ((v11 + x2)))]) (rest := []) hx hb hml hown hts hp hS hl.size ok16.1 ok16.2.1 ok16.2.2 rfl (by decide) (c6_goToJump l D cA B S S16 (x0) (x1) ((v11 + x2)) v16 h16) rfl rfl kd6_goToJump (kl6_106) ks6_goToJump kv6_goToJump ki6 kh6_goToJump ⟨Nat.le_of_ble_eq_true rfl, Nat.le_of_ble_eq_true rfl⟩ rfl (by simp [e_rv_cat, e_int_cat]) ⟨Nat.le_refl _, Nat.le_refl _⟩ dX6_goNewer_16 rfl (fun H locs hp hS => ?_)
    refine e_if_eq (tgt := 26) hx hb dX6_goNewer_19 (by decide) (fun c19 => ?_) (fun c19 => ?_)
    · rw [if_pos c19] at hsh
      exact w6_goNewer_b26 E hp hS (hl.sub [] rfl) hsh
    · rw [if_neg c19] at hsh
      refine lv_iconst (v := iI (1)) hx hb dX6_goNewer_22 rfl ?_
      refine lv_goto (tgt := 27) hx hb dX6_goNewer_23 (by decide) ?_
      exact w6_goNewer_b27 E hp hS (hl.sub [] rfl) hsh
