set_option maxRecDepth 100000 in
set_option maxHeartbeats 4000000 in
theorem c12_byteOf (l : Launch) (D : va_G) (cA : Nat → ClassId) (B : Nat) (S S' : HP) (x0 : Int) (x2 : Int) (r : Int) (hsh : s12_byteOf S x0 x2 = some (r, S')) : Met l yX12_byteOf (e_wu yX12_byteOf cX12_byteOf 3 (some .int)) ({ frames := 0, cells := 0, slots := 0, locals := 0 } : Room) (va_Pc [.long (iL (x0)), .int (iI (x2))] (fun U => e_PU D cA B S U)) (e_Qi D cA B r S') 0 0 (e_A B) := by
  refine Met.ofW (cc := cX12_byteOf) (maxL := 3) (ret := (some .int)) (by decide +kernel) rfl ?_
  intro p e s m args below meth c s₁ Bd hml hv
  obtain ⟨rfl, hp⟩ := hv
  have hp : e_Pic D cA B S s s.heap := hp
  have hx := Bd.exec
  have hb := Bd.bytes
  have hrt := Bd.returns
  have hlk := Bd.notSynchronized
  have hown : s.vm.findClass RX12 = some m.cls := findClass_of_methodNamed Bd.named
  have hts : ∀ w ∈ e_tb, w.before ([.long (iL (x0)), .int (iI (x2))] : List Value).toArray s = true := fun w h => atoms_spec (ws := (e_wu yX12_byteOf cX12_byteOf 3 (some .int))) Bd.pre w (List.mem_cons_of_mem _ h)
  have E : e_En p s m ([.long (iL (x0)), .int (iI (x2))] : List Value).toArray meth c cX12_byteOf RX12 3 (some .int) := ⟨hx, hb, hml, hown, hts, hlk, hrt⟩
  have hS : va_S (e_A B) s.heap s.heap [] := va_S.rf
  have hl := e_entryj (K := [0]) (vs := [.long (iL (x0)), .int (iI (x2))]) (cs := [2, 1]) (n := 3) ⟨rfl, rfl, trivial⟩ (Nat.le_of_ble_eq_true rfl) (by simp [e_idj, e_rv_cat, e_int_cat, e_long_cat])
  rw [lg_entry_eq]
  generalize (lg_sl [.long (iL (x0)), .int (iI (x2))] ++ List.replicate (3 - (lg_sl [.long (iL (x0)), .int (iI (x2))]).length) Slot.unset).toArray = ls at hl ⊢
  generalize ([.long (iL (x0)), .int (iI (x2))] : List Value).toArray = args at hts E ⊢
  have hl : e_lj [0] ls 3 [(0, .long (iL (x0))), (2, .int (iI (x2)))] := hl
  unfold s12_byteOf at hsh
  refine lv_lload_n hx hb dX12_byteOf_0 rfl (hl.at 0 rfl) ?_
  refine lv_bipush (v := iI (8)) hx hb dX12_byteOf_1 (by decide +kernel) ?_
  refine lv_iload_n hx hb dX12_byteOf_3 rfl (hl.at 1 rfl) ?_
  refine e_imul hx hb dX12_byteOf_4 ?_
  refine e_lushr hx hb dX12_byteOf_5 ?_
  refine e_l2i hx hb dX12_byteOf_6 ?_
  refine lv_sipush (v := iI (255)) hx hb dX12_byteOf_7 (by decide +kernel) ?_
  refine e_iand hx hb dX12_byteOf_10 ?_
  cases hsh
  exact e_iret hx hb hrt hlk hp hS dX12_byteOf_11
theorem ok13_can {S : HP} {x0 : Int} {x1 : Int} {r : Int × HP} (h : s13_can S x0 x1 = some r) : 0 ≤ x0 ∧ x0.toNat < e_n S ∧ e_g S x0.toNat = 13 := (gd_some h).1
set_option maxRecDepth 100000 in
set_option maxHeartbeats 4000000 in
theorem w13_can_b14 {p : Program} {l : Launch} {e : Env} {s : State} {m : MethodId} {args : Array Value} {below : List Frame} {meth : Method} {c : Code} {D : va_G} {cA : Nat → ClassId} {B : Nat} {res : Int × HP} (E : e_En p s m args meth c cX13_can RX13 2 (some .boolean)) {ls : Array Slot} {H : Heap} {locs : List Loc} {S : HP} {y0 : Int} (hp : e_Pic D cA B S s H) (hS : va_S (e_A B) s.heap H locs) (hl : e_lo ls 2 []) (hsh : s13_can_b14 S y0 = some res) : W p l e ({ frames := 0, cells := 0, slots := 0, locals := 0 } : Room) s m args below meth c H locs 0 0 (MQ below (e_Qi D cA B res.1 res.2) args s 0 0 (e_A B)) (F0 m 14 ls [.int (iI (y0))]) := by
  obtain ⟨hx, hb, hml, hown, hts, hlk, hrt⟩ := id E
  unfold s13_can_b14 at hsh
  obtain ⟨hz, hz1, hz2⟩ := zR_some hsh
  rw [← hz1, ← hz2]
  exact e_zret hx hb hrt hlk hp hS hz dX13_can_14
set_option maxRecDepth 100000 in
set_option maxHeartbeats 4000000 in
theorem c13_can (l : Launch) (D : va_G) (cA : Nat → ClassId) (B : Nat) (S S' : HP) (x0 : Int) (x1 : Int) (r : Int) (hsh : s13_can S x0 x1 = some (r, S')) : Met l yX13_can (e_wu yX13_can cX13_can 2 (some .boolean)) ({ frames := 0, cells := 0, slots := 0, locals := 0 } : Room) (va_Pc [e_rv B (x0), .int (iI (x1))] (fun U => e_PU D cA B S U)) (e_Qi D cA B r S') 0 0 (e_A B) := by
  refine Met.ofW (cc := cX13_can) (maxL := 2) (ret := (some .boolean)) (by decide +kernel) rfl ?_
  intro p e s m args below meth c s₁ Bd hml hv
  obtain ⟨rfl, hp⟩ := hv
  have hp : e_Pic D cA B S s s.heap := hp
  have hx := Bd.exec
  have hb := Bd.bytes
  have hrt := Bd.returns
  have hlk := Bd.notSynchronized
  have hown : s.vm.findClass RX13 = some m.cls := findClass_of_methodNamed Bd.named
  have hts : ∀ w ∈ e_tb, w.before ([e_rv B (x0), .int (iI (x1))] : List Value).toArray s = true := fun w h => atoms_spec (ws := (e_wu yX13_can cX13_can 2 (some .boolean))) Bd.pre w (List.mem_cons_of_mem _ h)
  have E : e_En p s m ([e_rv B (x0), .int (iI (x1))] : List Value).toArray meth c cX13_can RX13 2 (some .boolean) := ⟨hx, hb, hml, hown, hts, hlk, hrt⟩
  have hS : va_S (e_A B) s.heap s.heap [] := va_S.rf
  have hl := e_entry (vs := [e_rv B (x0), .int (iI (x1))]) (n := 2) (Nat.le_of_ble_eq_true rfl) (e_cc (e_rv_cat _ _) (e_cc rfl e_cn))
  rw [lg_entry_eq]
  generalize (lg_sl [e_rv B (x0), .int (iI (x1))] ++ List.replicate (2 - (lg_sl [e_rv B (x0), .int (iI (x1))]).length) Slot.unset).toArray = ls at hl ⊢
  generalize ([e_rv B (x0), .int (iI (x1))] : List Value).toArray = args at hts E ⊢
  have hl : e_lo ls 2 [(0, e_rv B (x0)), (1, .int (iI (x1)))] := hl
  have hsh := (gd_some hsh).2
  refine e_aload_n (B := B) (x := x0) hx hb dX13_can_0 rfl (hl.at 0 rfl) ?_
  refine lv_iload_n hx hb dX13_can_1 rfl (hl.at 1 rfl) ?_
  obtain ⟨S2, h2, hsh⟩ := Option.bind_eq_some_iff.mp hsh
  refine e_putI (k := 125) hx hb hts in_X13 tyX13 tyX13_ok nmX13 hown hp hS h2 rfl (by decide) (by decide) rfl (hts _ kf13_195) rfl rfl (by decide +kernel) dX13_can_2 (fun H locs hp hS => ?_)
  refine lv_iload_n hx hb dX13_can_5 rfl (hl.at 1 rfl) ?_
  refine e_if_ne (tgt := 13) hx hb dX13_can_6 (by decide) (fun c6 => ?_) (fun c6 => ?_)
  · rw [if_neg c6] at hsh
    refine lv_iconst (v := iI (0)) hx hb dX13_can_13 rfl ?_
    exact w13_can_b14 E hp hS (hl.sub [] rfl) hsh
  · rw [if_pos c6] at hsh
    refine lv_iconst (v := iI (1)) hx hb dX13_can_9 rfl ?_
    refine lv_goto (tgt := 14) hx hb dX13_can_10 (by decide) ?_
    exact w13_can_b14 E hp hS (hl.sub [] rfl) hsh
set_option maxRecDepth 100000 in
set_option maxHeartbeats 4000000 in
theorem w13_isIn_b15 {p : Program} {l : Launch} {e : Env} {s : State} {m : MethodId} {args : Array Value} {below : List Frame} {meth : Method} {c : Code} {D : va_G} {cA : Nat → ClassId} {B : Nat} {res : Int × HP} (E : e_En p s m args meth c cX13_isIn RX13 3 (some .boolean)) {ls : Array Slot} {H : Heap} {locs : List Loc} {S : HP} {y0 : Int} (hp : e_Pic D cA B S s H) (hS : va_S (e_A B) s.heap H locs) (hl : e_lo ls 3 []) (hsh : s13_isIn_b15 S y0 = some res) : W p l e ({ frames := 0, cells := 0, slots := 0, locals := 0 } : Room) s m args below meth c H locs 0 0 (MQ below (e_Qi D cA B res.1 res.2) args s 0 0 (e_A B)) (F0 m 15 ls [.int (iI (y0))]) := by
  obtain ⟨hx, hb, hml, hown, hts, hlk, hrt⟩ := id E
  unfold s13_isIn_b15 at hsh
  obtain ⟨hz, hz1, hz2⟩ := zR_some hsh
  rw [← hz1, ← hz2]
  exact e_zret hx hb hrt hlk hp hS hz dX13_isIn_15
set_option maxRecDepth 100000 in
set_option maxHeartbeats 4000000 in
theorem w13_isIn_b14 {p : Program} {l : Launch} {e : Env} {s : State} {m : MethodId} {args : Array Value} {below : List Frame} {meth : Method} {c : Code} {D : va_G} {cA : Nat → ClassId} {B : Nat} {res : Int × HP} (E : e_En p s m args meth c cX13_isIn RX13 3 (some .boolean)) {ls : Array Slot} {H : Heap} {locs : List Loc} {S : HP} (hp : e_Pic D cA B S s H) (hS : va_S (e_A B) s.heap H locs) (hl : e_lo ls 3 []) (hsh : s13_isIn_b14 S  = some res) : W p l e ({ frames := 0, cells := 0, slots := 0, locals := 0 } : Room) s m args below meth c H locs 0 0 (MQ below (e_Qi D cA B res.1 res.2) args s 0 0 (e_A B)) (F0 m 14 ls []) := by
  obtain ⟨hx, hb, hml, hown, hts, hlk, hrt⟩ := id E
  unfold s13_isIn_b14 at hsh
  refine lv_iconst (v := iI (0)) hx hb dX13_isIn_14 rfl ?_
  exact w13_isIn_b15 E hp hS (hl.sub [] rfl) hsh
set_option maxRecDepth 100000 in
set_option maxHeartbeats 4000000 in
theorem c13_isIn (l : Launch) (D : va_G) (cA : Nat → ClassId) (B : Nat) (S S' : HP) (x0 : Int) (x1 : Int) (x2 : Int) (r : Int) (hsh : s13_isIn S x0 x1 x2 = some (r, S')) : Met l yX13_isIn (e_wu yX13_isIn cX13_isIn 3 (some .boolean)) ({ frames := 0, cells := 0, slots := 0, locals := 0 } : Room) (va_Pc [.int (iI (x0)), .int (iI (x1)), .int (iI (x2))] (fun U => e_PU D cA B S U)) (e_Qi D cA B r S') 0 0 (e_A B) := by
  refine Met.ofW (cc := cX13_isIn) (maxL := 3) (ret := (some .boolean)) (by decide +kernel) rfl ?_
  intro p e s m args below meth c s₁ Bd hml hv
  obtain ⟨rfl, hp⟩ := hv
  have hp : e_Pic D cA B S s s.heap := hp
  have hx := Bd.exec
  have hb := Bd.bytes
  have hrt := Bd.returns
  have hlk := Bd.notSynchronized
  have hown : s.vm.findClass RX13 = some m.cls := findClass_of_methodNamed Bd.named
  have hts : ∀ w ∈ e_tb, w.before ([.int (iI (x0)), .int (iI (x1)), .int (iI (x2))] : List Value).toArray s = true := fun w h => atoms_spec (ws := (e_wu yX13_isIn cX13_isIn 3 (some .boolean))) Bd.pre w (List.mem_cons_of_mem _ h)
  have E : e_En p s m ([.int (iI (x0)), .int (iI (x1)), .int (iI (x2))] : List Value).toArray meth c cX13_isIn RX13 3 (some .boolean) := ⟨hx, hb, hml, hown, hts, hlk, hrt⟩
  have hS : va_S (e_A B) s.heap s.heap [] := va_S.rf
  have hl := e_entry (vs := [.int (iI (x0)), .int (iI (x1)), .int (iI (x2))]) (n := 3) (Nat.le_of_ble_eq_true rfl) (e_cc rfl (e_cc rfl (e_cc rfl e_cn)))
  rw [lg_entry_eq]
  generalize (lg_sl [.int (iI (x0)), .int (iI (x1)), .int (iI (x2))] ++ List.replicate (3 - (lg_sl [.int (iI (x0)), .int (iI (x1)), .int (iI (x2))]).length) Slot.unset).toArray = ls at hl ⊢
  generalize ([.int (iI (x0)), .int (iI (x1)), .int (iI (x2))] : List Value).toArray = args at hts E ⊢
  have hl : e_lo ls 3 [(0, .int (iI (x0))), (1, .int (iI (x1))), (2, .int (iI (x2)))] := hl
  unfold s13_isIn at hsh
  refine lv_iload_n hx hb dX13_isIn_0 rfl (hl.at 0 rfl) ?_
  refine lv_iload_n hx hb dX13_isIn_1 rfl (hl.at 1 rfl) ?_
  refine e_icmp_lt (tgt := 14) hx hb dX13_isIn_2 (by decide) (fun c2 => ?_) (fun c2 => ?_)
  · rw [if_pos c2] at hsh
    exact w13_isIn_b14 E hp hS (hl.sub [] rfl) hsh
  · rw [if_neg c2] at hsh
    refine lv_iload_n hx hb dX13_isIn_5 rfl (hl.at 0 rfl) ?_
    refine lv_iload_n hx hb dX13_isIn_6 rfl (hl.at 2 rfl) ?_
    refine e_icmp_gt (tgt := 14) hx hb dX13_isIn_7 (by decide) (fun c7 => ?_) (fun c7 => ?_)
    · rw [if_pos c7] at hsh
      exact w13_isIn_b14 E hp hS (hl.sub [] rfl) hsh
    · rw [if_neg c7] at hsh
      refine lv_iconst (v := iI (1)) hx hb dX13_isIn_10 rfl ?_
      refine lv_goto (tgt := 15) hx hb dX13_isIn_11 (by decide) ?_
      exact w13_isIn_b15 E hp hS (hl.sub [] rfl) hsh
set_option maxRecDepth 100000 in
set_option maxHeartbeats 4000000 in
theorem c13_isSign (l : Launch) (D : va_G) (cA : Nat → ClassId) (B : Nat) (S S' : HP) (x0 : Int) (r : Int) (hsh : s13_isSign S x0 = some (r, S')) : Met l yX13_isSign (e_wu yX13_isSign cX13_isSign 1 (some .boolean)) ({ frames := 1, cells := 0, slots := 0, locals := 22 } : Room) (va_Pc [.int (iI (x0))] (fun U => e_PU D cA B S U)) (e_Qi D cA B r S') 0 0 (e_A B) := by
  refine Met.ofW (cc := cX13_isSign) (maxL := 1) (ret := (some .boolean)) (by decide +kernel) rfl ?_
  intro p e s m args below meth c s₁ Bd hml hv
  obtain ⟨rfl, hp⟩ := hv
  have hp : e_Pic D cA B S s s.heap := hp
  have hx := Bd.exec
  have hb := Bd.bytes
  have hrt := Bd.returns
  have hlk := Bd.notSynchronized
  have hown : s.vm.findClass RX13 = some m.cls := findClass_of_methodNamed Bd.named
  have hts : ∀ w ∈ e_tb, w.before ([.int (iI (x0))] : List Value).toArray s = true := fun w h => atoms_spec (ws := (e_wu yX13_isSign cX13_isSign 1 (some .boolean))) Bd.pre w (List.mem_cons_of_mem _ h)
  have E : e_En p s m ([.int (iI (x0))] : List Value).toArray meth c cX13_isSign RX13 1 (some .boolean) := ⟨hx, hb, hml, hown, hts, hlk, hrt⟩
  have hS : va_S (e_A B) s.heap s.heap [] := va_S.rf
  have hl := e_entry (vs := [.int (iI (x0))]) (n := 1) (Nat.le_of_ble_eq_true rfl) (e_cc rfl e_cn)
  rw [lg_entry_eq]
  generalize (lg_sl [.int (iI (x0))] ++ List.replicate (1 - (lg_sl [.int (iI (x0))]).length) Slot.unset).toArray = ls at hl ⊢
  generalize ([.int (iI (x0))] : List Value).toArray = args at hts E ⊢
  have hl : e_lo ls 1 [(0, .int (iI (x0)))] := hl
  unfold s13_isSign at hsh
  refine lv_iload_n hx hb dX13_isSign_0 rfl (hl.at 0 rfl) ?_
  refine lv_bipush (v := iI (32)) hx hb dX13_isSign_1 (by decide +kernel) ?_
  refine lv_bipush (v := iI (126)) hx hb dX13_isSign_3 (by decide +kernel) ?_
  obtain ⟨⟨v5, S5⟩, h5, hsh⟩ := Option.bind_eq_some_iff.mp hsh
  have hsh : _ = _ := hsh
  try dsimp only at hsh
  refine e_callS (nL := 1) (mc := 0) (ms := 0) (As := [.int (iI (x0)), .int (iI (32)), .int (iI (126))]) (rest := []) hx hb hml hown hts hp hS hl.size (c13_isIn l D cA B S S5 (x0) (32) (126) v5 h5) rfl rfl kd13_isIn (kl13_198) ks13_isIn ki13 kh13_isIn ⟨Nat.le_of_ble_eq_true rfl, Nat.le_of_ble_eq_true rfl⟩ rfl (by simp [e_rv_cat, e_int_cat, e_long_cat]) ⟨Nat.le_refl _, Nat.le_refl _⟩ dX13_isSign_5 rfl (fun H locs hp hS => ?_)
  obtain ⟨hz, hz1, hz2⟩ := zR_some hsh
  rw [← hz1, ← hz2]
  exact e_zret hx hb hrt hlk hp hS hz dX13_isSign_8
set_option maxRecDepth 100000 in
set_option maxHeartbeats 4000000 in
theorem w13_isKey_b54 {p : Program} {l : Launch} {e : Env} {s : State} {m : MethodId} {args : Array Value} {below : List Frame} {meth : Method} {c : Code} {D : va_G} {cA : Nat → ClassId} {B : Nat} {res : Int × HP} (E : e_En p s m args meth c cX13_isKey RX13 1 (some .boolean)) {ls : Array Slot} {H : Heap} {locs : List Loc} {S : HP} {y0 : Int} (hp : e_Pic D cA B S s H) (hS : va_S (e_A B) s.heap H locs) (hl : e_lo ls 1 []) (hsh : s13_isKey_b54 S y0 = some res) : W p l e ({ frames := 2, cells := 0, slots := 0, locals := 42 } : Room) s m args below meth c H locs 0 0 (MQ below (e_Qi D cA B res.1 res.2) args s 0 0 (e_A B)) (F0 m 54 ls [.int (iI (y0))]) := by
  obtain ⟨hx, hb, hml, hown, hts, hlk, hrt⟩ := id E
  unfold s13_isKey_b54 at hsh
  obtain ⟨hz, hz1, hz2⟩ := zR_some hsh
  rw [← hz1, ← hz2]
  exact e_zret hx hb hrt hlk hp hS hz dX13_isKey_54
set_option maxRecDepth 100000 in
set_option maxHeartbeats 4000000 in
theorem w13_isKey_b49 {p : Program} {l : Launch} {e : Env} {s : State} {m : MethodId} {args : Array Value} {below : List Frame} {meth : Method} {c : Code} {D : va_G} {cA : Nat → ClassId} {B : Nat} {res : Int × HP} (E : e_En p s m args meth c cX13_isKey RX13 1 (some .boolean)) {ls : Array Slot} {H : Heap} {locs : List Loc} {S : HP} (hp : e_Pic D cA B S s H) (hS : va_S (e_A B) s.heap H locs) (hl : e_lo ls 1 []) (hsh : s13_isKey_b49 S  = some res) : W p l e ({ frames := 2, cells := 0, slots := 0, locals := 42 } : Room) s m args below meth c H locs 0 0 (MQ below (e_Qi D cA B res.1 res.2) args s 0 0 (e_A B)) (F0 m 49 ls []) := by
  obtain ⟨hx, hb, hml, hown, hts, hlk, hrt⟩ := id E
  unfold s13_isKey_b49 at hsh
  refine lv_iconst (v := iI (1)) hx hb dX13_isKey_49 rfl ?_
  refine lv_goto (tgt := 54) hx hb dX13_isKey_50 (by decide) ?_
  exact w13_isKey_b54 E hp hS (hl.sub [] rfl) hsh
set_option maxRecDepth 100000 in
set_option maxHeartbeats 4000000 in
theorem c13_isKey (l : Launch) (D : va_G) (cA : Nat → ClassId) (B : Nat) (S S' : HP) (x0 : Int) (r : Int) (hsh : s13_isKey S x0 = some (r, S')) : Met l yX13_isKey (e_wu yX13_isKey cX13_isKey 1 (some .boolean)) ({ frames := 2, cells := 0, slots := 0, locals := 42 } : Room) (va_Pc [.int (iI (x0))] (fun U => e_PU D cA B S U)) (e_Qi D cA B r S') 0 0 (e_A B) := by
  refine Met.ofW (cc := cX13_isKey) (maxL := 1) (ret := (some .boolean)) (by decide +kernel) rfl ?_
  intro p e s m args below meth c s₁ Bd hml hv
  obtain ⟨rfl, hp⟩ := hv
  have hp : e_Pic D cA B S s s.heap := hp
  have hx := Bd.exec
  have hb := Bd.bytes
  have hrt := Bd.returns
  have hlk := Bd.notSynchronized
  have hown : s.vm.findClass RX13 = some m.cls := findClass_of_methodNamed Bd.named
  have hts : ∀ w ∈ e_tb, w.before ([.int (iI (x0))] : List Value).toArray s = true := fun w h => atoms_spec (ws := (e_wu yX13_isKey cX13_isKey 1 (some .boolean))) Bd.pre w (List.mem_cons_of_mem _ h)
  have E : e_En p s m ([.int (iI (x0))] : List Value).toArray meth c cX13_isKey RX13 1 (some .boolean) := ⟨hx, hb, hml, hown, hts, hlk, hrt⟩
  have hS : va_S (e_A B) s.heap s.heap [] := va_S.rf
  have hl := e_entry (vs := [.int (iI (x0))]) (n := 1) (Nat.le_of_ble_eq_true rfl) (e_cc rfl e_cn)
  rw [lg_entry_eq]
  generalize (lg_sl [.int (iI (x0))] ++ List.replicate (1 - (lg_sl [.int (iI (x0))]).length) Slot.unset).toArray = ls at hl ⊢
  generalize ([.int (iI (x0))] : List Value).toArray = args at hts E ⊢
  have hl : e_lo ls 1 [(0, .int (iI (x0)))] := hl
  unfold s13_isKey at hsh
  refine lv_iload_n hx hb dX13_isKey_0 rfl (hl.at 0 rfl) ?_
  obtain ⟨⟨v1, S1⟩, h1, hsh⟩ := Option.bind_eq_some_iff.mp hsh
  have hsh : _ = _ := hsh
  try dsimp only at hsh
  refine e_callS (nL := 1) (mc := 0) (ms := 0) (As := [.int (iI (x0))]) (rest := []) hx hb hml hown hts hp hS hl.size (c13_isSign l D cA B S S1 (x0) v1 h1) rfl rfl kd13_isSign (kl13_202) ks13_isSign ki13 kh13_isSign ⟨Nat.le_of_ble_eq_true rfl, Nat.le_of_ble_eq_true rfl⟩ rfl (by simp [e_rv_cat, e_int_cat, e_long_cat]) ⟨Nat.le_refl _, Nat.le_refl _⟩ dX13_isKey_1 rfl (fun H locs hp hS => ?_)
  refine e_if_ne (tgt := 49) hx hb dX13_isKey_4 (by decide) (fun c4 => ?_) (fun c4 => ?_)
  · rw [if_neg c4] at hsh
    exact w13_isKey_b49 E hp hS (hl.sub [] rfl) hsh
  · rw [if_pos c4] at hsh
    refine lv_iload_n hx hb dX13_isKey_7 rfl (hl.at 0 rfl) ?_
    refine lv_bipush (v := iI (8)) hx hb dX13_isKey_8 (by decide +kernel) ?_
    refine e_icmp_eq (tgt := 49) hx hb dX13_isKey_10 (by decide) (fun c10 => ?_) (fun c10 => ?_)
    · rw [if_pos c10] at hsh
      exact w13_isKey_b49 E hp hS (hl.sub [] rfl) hsh
    · rw [if_neg c10] at hsh
      refine lv_iload_n hx hb dX13_isKey_13 rfl (hl.at 0 rfl) ?_
      refine lv_bipush (v := iI (9)) hx hb dX13_isKey_14 (by decide +kernel) ?_
      refine e_icmp_eq (tgt := 49) hx hb dX13_isKey_16 (by decide) (fun c16 => ?_) (fun c16 => ?_)
      · rw [if_pos c16] at hsh
        exact w13_isKey_b49 E hp hS (hl.sub [] rfl) hsh
      · rw [if_neg c16] at hsh
        refine lv_iload_n hx hb dX13_isKey_19 rfl (hl.at 0 rfl) ?_
        refine lv_bipush (v := iI (13)) hx hb dX13_isKey_20 (by decide +kernel) ?_
        refine e_icmp_eq (tgt := 49) hx hb dX13_isKey_22 (by decide) (fun c22 => ?_) (fun c22 => ?_)
        · rw [if_pos c22] at hsh
          exact w13_isKey_b49 E hp hS (hl.sub [] rfl) hsh
        · rw [if_neg c22] at hsh
          refine lv_iload_n hx hb dX13_isKey_25 rfl (hl.at 0 rfl) ?_
          refine lv_bipush (v := iI (15)) hx hb dX13_isKey_26 (by decide +kernel) ?_
          refine e_icmp_eq (tgt := 49) hx hb dX13_isKey_28 (by decide) (fun c28 => ?_) (fun c28 => ?_)
          · rw [if_pos c28] at hsh
            exact w13_isKey_b49 E hp hS (hl.sub [] rfl) hsh
          · rw [if_neg c28] at hsh
            refine lv_iload_n hx hb dX13_isKey_31 rfl (hl.at 0 rfl) ?_
            refine lv_bipush (v := iI (18)) hx hb dX13_isKey_32 (by decide +kernel) ?_
            refine e_icmp_eq (tgt := 49) hx hb dX13_isKey_34 (by decide) (fun c34 => ?_) (fun c34 => ?_)
            · rw [if_pos c34] at hsh
              exact w13_isKey_b49 E hp hS (hl.sub [] rfl) hsh
            · rw [if_neg c34] at hsh
              refine lv_iload_n hx hb dX13_isKey_37 rfl (hl.at 0 rfl) ?_
              refine lv_bipush (v := iI (22)) hx hb dX13_isKey_38 (by decide +kernel) ?_
              refine e_icmp_eq (tgt := 49) hx hb dX13_isKey_40 (by decide) (fun c40 => ?_) (fun c40 => ?_)
              · rw [if_pos c40] at hsh
                exact w13_isKey_b49 E hp hS (hl.sub [] rfl) hsh
              · rw [if_neg c40] at hsh
                refine lv_iload_n hx hb dX13_isKey_43 rfl (hl.at 0 rfl) ?_
                refine lv_bipush (v := iI (27)) hx hb dX13_isKey_44 (by decide +kernel) ?_
                refine e_icmp_ne (tgt := 53) hx hb dX13_isKey_46 (by decide) (fun c46 => ?_) (fun c46 => ?_)
                · rw [if_neg c46] at hsh
                  refine lv_iconst (v := iI (0)) hx hb dX13_isKey_53 rfl ?_
                  exact w13_isKey_b54 E hp hS (hl.sub [] rfl) hsh
                · rw [if_pos c46] at hsh
                  exact w13_isKey_b49 E hp hS (hl.sub [] rfl) hsh
theorem ok13_at {S : HP} {x0 : Int} {x1 : Int} {x2 : Int} {r : Int × HP} (h : s13_at S x0 x1 x2 = some r) : 0 ≤ x0 ∧ x0.toNat < e_n S ∧ e_g S x0.toNat = 13 := (gd_some h).1
set_option maxRecDepth 100000 in
set_option maxHeartbeats 4000000 in
theorem c13_at (l : Launch) (D : va_G) (cA : Nat → ClassId) (B : Nat) (S S' : HP) (x0 : Int) (x1 : Int) (x2 : Int) (r : Int) (hsh : s13_at S x0 x1 x2 = some (r, S')) : Met l yX13_at (e_wu yX13_at cX13_at 3 (some .int)) ({ frames := 0, cells := 0, slots := 0, locals := 0 } : Room) (va_Pc [e_rv B (x0), .int (iI (x1)), .int (iI (x2))] (fun U => e_PU D cA B S U)) (e_Qi D cA B r S') 0 0 (e_A B) := by
  refine Met.ofW (cc := cX13_at) (maxL := 3) (ret := (some .int)) (by decide +kernel) rfl ?_
  intro p e s m args below meth c s₁ Bd hml hv
  obtain ⟨rfl, hp⟩ := hv
  have hp : e_Pic D cA B S s s.heap := hp
  have hx := Bd.exec
  have hb := Bd.bytes
  have hrt := Bd.returns
  have hlk := Bd.notSynchronized
  have hown : s.vm.findClass RX13 = some m.cls := findClass_of_methodNamed Bd.named
  have hts : ∀ w ∈ e_tb, w.before ([e_rv B (x0), .int (iI (x1)), .int (iI (x2))] : List Value).toArray s = true := fun w h => atoms_spec (ws := (e_wu yX13_at cX13_at 3 (some .int))) Bd.pre w (List.mem_cons_of_mem _ h)
  have E : e_En p s m ([e_rv B (x0), .int (iI (x1)), .int (iI (x2))] : List Value).toArray meth c cX13_at RX13 3 (some .int) := ⟨hx, hb, hml, hown, hts, hlk, hrt⟩
  have hS : va_S (e_A B) s.heap s.heap [] := va_S.rf
  have hl := e_entry (vs := [e_rv B (x0), .int (iI (x1)), .int (iI (x2))]) (n := 3) (Nat.le_of_ble_eq_true rfl) (e_cc (e_rv_cat _ _) (e_cc rfl (e_cc rfl e_cn)))
  rw [lg_entry_eq]
  generalize (lg_sl [e_rv B (x0), .int (iI (x1)), .int (iI (x2))] ++ List.replicate (3 - (lg_sl [e_rv B (x0), .int (iI (x1)), .int (iI (x2))]).length) Slot.unset).toArray = ls at hl ⊢
  generalize ([e_rv B (x0), .int (iI (x1)), .int (iI (x2))] : List Value).toArray = args at hts E ⊢
  have hl : e_lo ls 3 [(0, e_rv B (x0)), (1, .int (iI (x1))), (2, .int (iI (x2)))] := hl
  have hsh := (gd_some hsh).2
  refine e_aload_n (B := B) (x := x0) hx hb dX13_at_0 rfl (hl.at 0 rfl) ?_
  obtain ⟨v1, h1, hsh⟩ := Option.bind_eq_some_iff.mp hsh
  refine e_getR (k := 4) hx hb hts in_X13 hown hp h1 rfl (by decide) (by decide) rfl (hts _ kf13_20) rfl dX13_at_1 ?_
  refine lv_bipush (v := iI (60)) hx hb dX13_at_4 (by decide +kernel) ?_
  refine lv_iload_n hx hb dX13_at_6 rfl (hl.at 1 rfl) ?_
  refine e_imul hx hb dX13_at_7 ?_
  refine lv_iload_n hx hb dX13_at_8 rfl (hl.at 2 rfl) ?_
  refine e_iadd hx hb dX13_at_9 ?_
  obtain ⟨v10, h10, hsh⟩ := Option.bind_eq_some_iff.mp hsh
  refine e_iald hx hb hp h10 dX13_at_10 ?_
  cases hsh
  exact e_iret hx hb hrt hlk hp hS dX13_at_11
set_option maxRecDepth 100000 in
set_option maxHeartbeats 4000000 in
theorem w13_registerOf_b39 {p : Program} {l : Launch} {e : Env} {s : State} {m : MethodId} {args : Array Value} {below : List Frame} {meth : Method} {c : Code} {D : va_G} {cA : Nat → ClassId} {B : Nat} {res : Int × HP} (E : e_En p s m args meth c cX13_registerOf RX13 1 (some .int)) {ls : Array Slot} {H : Heap} {locs : List Loc} {S : HP} {y0 : Int} (hp : e_Pic D cA B S s H) (hS : va_S (e_A B) s.heap H locs) (hl : e_lo ls 1 []) (hsh : s13_registerOf_b39 S y0 = some res) : W p l e ({ frames := 1, cells := 0, slots := 0, locals := 22 } : Room) s m args below meth c H locs 0 0 (MQ below (e_Qi D cA B res.1 res.2) args s 0 0 (e_A B)) (F0 m 39 ls [.int (iI (y0))]) := by
  obtain ⟨hx, hb, hml, hown, hts, hlk, hrt⟩ := id E
  unfold s13_registerOf_b39 at hsh
  cases hsh
  exact e_iret hx hb hrt hlk hp hS dX13_registerOf_39
set_option maxRecDepth 100000 in
set_option maxHeartbeats 4000000 in
theorem w13_registerOf_b22 {p : Program} {l : Launch} {e : Env} {s : State} {m : MethodId} {args : Array Value} {below : List Frame} {meth : Method} {c : Code} {D : va_G} {cA : Nat → ClassId} {B : Nat} {res : Int × HP} (E : e_En p s m args meth c cX13_registerOf RX13 1 (some .int)) {ls : Array Slot} {H : Heap} {locs : List Loc} {S : HP} {x0 : Int} (hp : e_Pic D cA B S s H) (hS : va_S (e_A B) s.heap H locs) (hl : e_lo ls 1 [(0, .int (iI (x0)))]) (hsh : s13_registerOf_b22 S x0 = some res) : W p l e ({ frames := 1, cells := 0, slots := 0, locals := 22 } : Room) s m args below meth c H locs 0 0 (MQ below (e_Qi D cA B res.1 res.2) args s 0 0 (e_A B)) (F0 m 22 ls []) := by
  obtain ⟨hx, hb, hml, hown, hts, hlk, hrt⟩ := id E
  unfold s13_registerOf_b22 at hsh
  refine lv_iload_n hx hb dX13_registerOf_22 rfl (hl.at 0 rfl) ?_
  refine lv_bipush (v := iI (97)) hx hb dX13_registerOf_23 (by decide +kernel) ?_
  refine e_icmp_lt (tgt := 35) hx hb dX13_registerOf_25 (by decide) (fun c25 => ?_) (fun c25 => ?_)
  · rw [if_pos c25] at hsh
    refine lv_iload_n hx hb dX13_registerOf_35 rfl (hl.at 0 rfl) ?_
    refine lv_bipush (v := iI (65)) hx hb dX13_registerOf_36 (by decide +kernel) ?_
    refine e_isub hx hb dX13_registerOf_38 ?_
    exact w13_registerOf_b39 E hp hS (hl.sub [] rfl) hsh
  · rw [if_neg c25] at hsh
    refine lv_iload_n hx hb dX13_registerOf_28 rfl (hl.at 0 rfl) ?_
    refine lv_bipush (v := iI (97)) hx hb dX13_registerOf_29 (by decide +kernel) ?_
    refine e_isub hx hb dX13_registerOf_31 ?_
    refine lv_goto (tgt := 39) hx hb dX13_registerOf_32 (by decide) ?_
    exact w13_registerOf_b39 E hp hS (hl.sub [] rfl) hsh
set_option maxRecDepth 100000 in
set_option maxHeartbeats 4000000 in
theorem w13_registerOf_b95 {p : Program} {l : Launch} {e : Env} {s : State} {m : MethodId} {args : Array Value} {below : List Frame} {meth : Method} {c : Code} {D : va_G} {cA : Nat → ClassId} {B : Nat} {res : Int × HP} (E : e_En p s m args meth c cX13_registerOf RX13 1 (some .int)) {ls : Array Slot} {H : Heap} {locs : List Loc} {S : HP} {y0 : Int} (hp : e_Pic D cA B S s H) (hS : va_S (e_A B) s.heap H locs) (hl : e_lo ls 1 []) (hsh : s13_registerOf_b95 S y0 = some res) : W p l e ({ frames := 1, cells := 0, slots := 0, locals := 22 } : Room) s m args below meth c H locs 0 0 (MQ below (e_Qi D cA B res.1 res.2) args s 0 0 (e_A B)) (F0 m 95 ls [.int (iI (y0))]) := by
  obtain ⟨hx, hb, hml, hown, hts, hlk, hrt⟩ := id E
  unfold s13_registerOf_b95 at hsh
  cases hsh
  exact e_iret hx hb hrt hlk hp hS dX13_registerOf_95
set_option maxRecDepth 100000 in
set_option maxHeartbeats 4000000 in
theorem c13_registerOf (l : Launch) (D : va_G) (cA : Nat → ClassId) (B : Nat) (S S' : HP) (x0 : Int) (r : Int) (hsh : s13_registerOf S x0 = some (r, S')) : Met l yX13_registerOf (e_wu yX13_registerOf cX13_registerOf 1 (some .int)) ({ frames := 1, cells := 0, slots := 0, locals := 22 } : Room) (va_Pc [.int (iI (x0))] (fun U => e_PU D cA B S U)) (e_Qi D cA B r S') 0 0 (e_A B) := by
  refine Met.ofW (cc := cX13_registerOf) (maxL := 1) (ret := (some .int)) (by decide +kernel) rfl ?_
  intro p e s m args below meth c s₁ Bd hml hv
  obtain ⟨rfl, hp⟩ := hv
  have hp : e_Pic D cA B S s s.heap := hp
  have hx := Bd.exec
  have hb := Bd.bytes
  have hrt := Bd.returns
  have hlk := Bd.notSynchronized
  have hown : s.vm.findClass RX13 = some m.cls := findClass_of_methodNamed Bd.named
  have hts : ∀ w ∈ e_tb, w.before ([.int (iI (x0))] : List Value).toArray s = true := fun w h => atoms_spec (ws := (e_wu yX13_registerOf cX13_registerOf 1 (some .int))) Bd.pre w (List.mem_cons_of_mem _ h)
  have E : e_En p s m ([.int (iI (x0))] : List Value).toArray meth c cX13_registerOf RX13 1 (some .int) := ⟨hx, hb, hml, hown, hts, hlk, hrt⟩
  have hS : va_S (e_A B) s.heap s.heap [] := va_S.rf
  have hl := e_entry (vs := [.int (iI (x0))]) (n := 1) (Nat.le_of_ble_eq_true rfl) (e_cc rfl e_cn)
  rw [lg_entry_eq]
  generalize (lg_sl [.int (iI (x0))] ++ List.replicate (1 - (lg_sl [.int (iI (x0))]).length) Slot.unset).toArray = ls at hl ⊢
  generalize ([.int (iI (x0))] : List Value).toArray = args at hts E ⊢
  have hl : e_lo ls 1 [(0, .int (iI (x0)))] := hl
  unfold s13_registerOf at hsh
  refine lv_iload_n hx hb dX13_registerOf_0 rfl (hl.at 0 rfl) ?_
  refine lv_bipush (v := iI (97)) hx hb dX13_registerOf_1 (by decide +kernel) ?_
  refine lv_bipush (v := iI (122)) hx hb dX13_registerOf_3 (by decide +kernel) ?_
  obtain ⟨⟨v5, S5⟩, h5, hsh⟩ := Option.bind_eq_some_iff.mp hsh
  have hsh : _ = _ := hsh
  try dsimp only at hsh
  refine e_callS (nL := 1) (mc := 0) (ms := 0) (As := [.int (iI (x0)), .int (iI (97)), .int (iI (122))]) (rest := []) hx hb hml hown hts hp hS hl.size (c13_isIn l D cA B S S5 (x0) (97) (122) v5 h5) rfl rfl kd13_isIn (kl13_198) ks13_isIn ki13 kh13_isIn ⟨Nat.le_of_ble_eq_true rfl, Nat.le_of_ble_eq_true rfl⟩ rfl (by simp [e_rv_cat, e_int_cat, e_long_cat]) ⟨Nat.le_refl _, Nat.le_refl _⟩ dX13_registerOf_5 rfl (fun H locs hp hS => ?_)
  refine e_if_ne (tgt := 22) hx hb dX13_registerOf_8 (by decide) (fun c8 => ?_) (fun c8 => ?_)
  · rw [if_neg c8] at hsh
    exact w13_registerOf_b22 E hp hS (hl.sub [0] rfl) hsh
  · rw [if_pos c8] at hsh
    refine lv_iload_n hx hb dX13_registerOf_11 rfl (hl.at 0 rfl) ?_
    refine lv_bipush (v := iI (65)) hx hb dX13_registerOf_12 (by decide +kernel) ?_
    refine lv_bipush (v := iI (90)) hx hb dX13_registerOf_14 (by decide +kernel) ?_
    obtain ⟨⟨v16, S16⟩, h16, hsh⟩ := Option.bind_eq_some_iff.mp hsh
    have hsh : _ = _ := hsh
    try dsimp only at hsh
    refine e_callS (nL := 1) (mc := 0) (ms := 0) (As := [.int (iI (x0)), .int (iI (65)), .int (iI (90))]) (rest := []) hx hb hml hown hts hp hS hl.size (c13_isIn l D cA B S5 S16 (x0) (65) (90) v16 h16) rfl rfl kd13_isIn (kl13_198) ks13_isIn ki13 kh13_isIn ⟨Nat.le_of_ble_eq_true rfl, Nat.le_of_ble_eq_true rfl⟩ rfl (by simp [e_rv_cat, e_int_cat, e_long_cat]) ⟨Nat.le_refl _, Nat.le_refl _⟩ dX13_registerOf_16 rfl (fun H locs hp hS => ?_)
    refine e_if_eq (tgt := 40) hx hb dX13_registerOf_19 (by decide) (fun c19 => ?_) (fun c19 => ?_)
    · rw [if_pos c19] at hsh
      refine lv_iload_n hx hb dX13_registerOf_40 rfl (hl.at 0 rfl) ?_
      refine lv_bipush (v := iI (48)) hx hb dX13_registerOf_41 (by decide +kernel) ?_
      refine lv_bipush (v := iI (57)) hx hb dX13_registerOf_43 (by decide +kernel) ?_
      obtain ⟨⟨v45, S45⟩, h45, hsh⟩ := Option.bind_eq_some_iff.mp hsh
      have hsh : _ = _ := hsh
      try dsimp only at hsh
      refine e_callS (nL := 1) (mc := 0) (ms := 0) (As := [.int (iI (x0)), .int (iI (48)), .int (iI (57))]) (rest := []) hx hb hml hown hts hp hS hl.size (c13_isIn l D cA B S16 S45 (x0) (48) (57) v45 h45) rfl rfl kd13_isIn (kl13_198) ks13_isIn ki13 kh13_isIn ⟨Nat.le_of_ble_eq_true rfl, Nat.le_of_ble_eq_true rfl⟩ rfl (by simp [e_rv_cat, e_int_cat, e_long_cat]) ⟨Nat.le_refl _, Nat.le_refl _⟩ dX13_registerOf_45 rfl (fun H locs hp hS => ?_)
      refine e_if_eq (tgt := 61) hx hb dX13_registerOf_48 (by decide) (fun c48 => ?_) (fun c48 => ?_)
      · rw [if_pos c48] at hsh
        refine lv_iload_n hx hb dX13_registerOf_61 rfl (hl.at 0 rfl) ?_
        refine lv_bipush (v := iI (45)) hx hb dX13_registerOf_62 (by decide +kernel) ?_
        refine e_icmp_ne (tgt := 72) hx hb dX13_registerOf_64 (by decide) (fun c64 => ?_) (fun c64 => ?_)
        · rw [if_neg c64] at hsh
          refine lv_iload_n hx hb dX13_registerOf_72 rfl (hl.at 0 rfl) ?_
          refine lv_bipush (v := iI (34)) hx hb dX13_registerOf_73 (by decide +kernel) ?_
          refine e_icmp_ne (tgt := 83) hx hb dX13_registerOf_75 (by decide) (fun c75 => ?_) (fun c75 => ?_)
          · rw [if_neg c75] at hsh
            refine lv_iload_n hx hb dX13_registerOf_83 rfl (hl.at 0 rfl) ?_
            refine lv_bipush (v := iI (95)) hx hb dX13_registerOf_84 (by decide +kernel) ?_
            refine e_icmp_ne (tgt := 94) hx hb dX13_registerOf_86 (by decide) (fun c86 => ?_) (fun c86 => ?_)
            · rw [if_neg c86] at hsh
              refine lv_iconst (v := iI (-1)) hx hb dX13_registerOf_94 rfl ?_
              exact w13_registerOf_b95 E hp hS (hl.sub [] rfl) hsh
            · rw [if_pos c86] at hsh
              refine lv_bipush (v := iI (38)) hx hb dX13_registerOf_89 (by decide +kernel) ?_
              refine lv_goto (tgt := 95) hx hb dX13_registerOf_91 (by decide) ?_
              exact w13_registerOf_b95 E hp hS (hl.sub [] rfl) hsh
          · rw [if_pos c75] at hsh
            refine lv_bipush (v := iI (37)) hx hb dX13_registerOf_78 (by decide +kernel) ?_
            refine lv_goto (tgt := 95) hx hb dX13_registerOf_80 (by decide) ?_
            exact w13_registerOf_b95 E hp hS (hl.sub [] rfl) hsh
        · rw [if_pos c64] at hsh
          refine lv_bipush (v := iI (36)) hx hb dX13_registerOf_67 (by decide +kernel) ?_
          refine lv_goto (tgt := 95) hx hb dX13_registerOf_69 (by decide) ?_
          exact w13_registerOf_b95 E hp hS (hl.sub [] rfl) hsh
      · rw [if_neg c48] at hsh
        refine lv_bipush (v := iI (26)) hx hb dX13_registerOf_51 (by decide +kernel) ?_
        refine lv_iload_n hx hb dX13_registerOf_53 rfl (hl.at 0 rfl) ?_
        refine e_iadd hx hb dX13_registerOf_54 ?_
        refine lv_bipush (v := iI (48)) hx hb dX13_registerOf_55 (by decide +kernel) ?_
        refine e_isub hx hb dX13_registerOf_57 ?_
        refine lv_goto (tgt := 95) hx hb dX13_registerOf_58 (by decide) ?_
        exact w13_registerOf_b95 E hp hS (hl.sub [] rfl) hsh
    · rw [if_neg c19] at hsh
      exact w13_registerOf_b22 E hp hS (hl.sub [0] rfl) hsh
set_option maxRecDepth 100000 in
set_option maxHeartbeats 4000000 in
theorem c13_keyOf (l : Launch) (D : va_G) (cA : Nat → ClassId) (B : Nat) (S S' : HP) (x0 : Int) (x2 : Int) (r : Int) (hsh : s13_keyOf S x0 x2 = some (r, S')) : Met l yX13_keyOf (e_wu yX13_keyOf cX13_keyOf 3 (some .int)) ({ frames := 0, cells := 0, slots := 0, locals := 0 } : Room) (va_Pc [.long (iL (x0)), .int (iI (x2))] (fun U => e_PU D cA B S U)) (e_Qi D cA B r S') 0 0 (e_A B) := by
  refine Met.ofW (cc := cX13_keyOf) (maxL := 3) (ret := (some .int)) (by decide +kernel) rfl ?_
  intro p e s m args below meth c s₁ Bd hml hv
  obtain ⟨rfl, hp⟩ := hv
  have hp : e_Pic D cA B S s s.heap := hp
  have hx := Bd.exec
  have hb := Bd.bytes
  have hrt := Bd.returns
  have hlk := Bd.notSynchronized
  have hown : s.vm.findClass RX13 = some m.cls := findClass_of_methodNamed Bd.named
  have hts : ∀ w ∈ e_tb, w.before ([.long (iL (x0)), .int (iI (x2))] : List Value).toArray s = true := fun w h => atoms_spec (ws := (e_wu yX13_keyOf cX13_keyOf 3 (some .int))) Bd.pre w (List.mem_cons_of_mem _ h)
  have E : e_En p s m ([.long (iL (x0)), .int (iI (x2))] : List Value).toArray meth c cX13_keyOf RX13 3 (some .int) := ⟨hx, hb, hml, hown, hts, hlk, hrt⟩
  have hS : va_S (e_A B) s.heap s.heap [] := va_S.rf
  have hl := e_entryj (K := [0]) (vs := [.long (iL (x0)), .int (iI (x2))]) (cs := [2, 1]) (n := 3) ⟨rfl, rfl, trivial⟩ (Nat.le_of_ble_eq_true rfl) (by simp [e_idj, e_rv_cat, e_int_cat, e_long_cat])
  rw [lg_entry_eq]
  generalize (lg_sl [.long (iL (x0)), .int (iI (x2))] ++ List.replicate (3 - (lg_sl [.long (iL (x0)), .int (iI (x2))]).length) Slot.unset).toArray = ls at hl ⊢
  generalize ([.long (iL (x0)), .int (iI (x2))] : List Value).toArray = args at hts E ⊢
  have hl : e_lj [0] ls 3 [(0, .long (iL (x0))), (2, .int (iI (x2)))] := hl
  unfold s13_keyOf at hsh
  refine lv_lload_n hx hb dX13_keyOf_0 rfl (hl.at 0 rfl) ?_
  refine lv_bipush (v := iI (8)) hx hb dX13_keyOf_1 (by decide +kernel) ?_
  refine lv_iload_n hx hb dX13_keyOf_3 rfl (hl.at 1 rfl) ?_
  refine e_imul hx hb dX13_keyOf_4 ?_
  refine e_lushr hx hb dX13_keyOf_5 ?_
  refine lv_ldc2 (v := iL (255)) hx hb hown (hts _ kk13_1001) dX13_keyOf_6 ?_
  refine e_land hx hb dX13_keyOf_9 ?_
  refine e_l2i hx hb dX13_keyOf_10 ?_
  cases hsh
  exact e_iret hx hb hrt hlk hp hS dX13_keyOf_11
set_option maxRecDepth 100000 in
set_option maxHeartbeats 4000000 in
theorem w13_keysIn_b24 {p : Program} {l : Launch} {e : Env} {s : State} {m : MethodId} {args : Array Value} {below : List Frame} {meth : Method} {c : Code} {D : va_G} {cA : Nat → ClassId} {B : Nat} {res : Int × HP} {k4 : HP → Int → Int → Int → Option (Int × HP)} (hk4 : ∀ {ls : Array Slot} {H : Heap} {locs : List Loc} {S : HP} {x0 : Int} {x2 : Int} {x3 : Int} (hp : e_Pic D cA B S s H) (hS : va_S (e_A B) s.heap H locs) (hl : e_lj [0] ls 4 [(0, .long (iL (x0))), (2, .int (iI (x2))), (3, .int (iI (x3)))]) (hsh : k4 S x0 x2 x3 = some res), W p l e ({ frames := 1, cells := 0, slots := 0, locals := 22 } : Room) s m args below meth c H locs 0 0 (MQ below (e_Qi D cA B res.1 res.2) args s 0 0 (e_A B)) (F0 m 4 ls [])) (E : e_En p s m args meth c cX13_keysIn RX13 4 (some .int)) {ls : Array Slot} {H : Heap} {locs : List Loc} {S : HP} {x0 : Int} {x3 : Int} {y0 : Int} {y1 : Int} (hp : e_Pic D cA B S s H) (hS : va_S (e_A B) s.heap H locs) (hl : e_lj [0] ls 4 [(0, .long (iL (x0))), (3, .int (iI (x3)))]) (hsh : s13_keysIn_b24 k4 S x0 x3 y0 y1 = some res) : W p l e ({ frames := 1, cells := 0, slots := 0, locals := 22 } : Room) s m args below meth c H locs 0 0 (MQ below (e_Qi D cA B res.1 res.2) args s 0 0 (e_A B)) (F0 m 24 ls [.int (iI (y1)), .int (iI (y0))]) := by
  obtain ⟨hx, hb, hml, hown, hts, hlk, hrt⟩ := id E
  unfold s13_keysIn_b24 at hsh
  refine e_iadd hx hb dX13_keysIn_24 ?_
  refine e_istoreJ_n (lv' := [(2, .int (iI ((y0 + y1)))), (0, .long (iL (x0))), (3, .int (iI (x3)))]) hx hb dX13_keysIn_25 rfl hl (by decide) (by decide) rfl (fun ls hl => ?_)
  refine e_iincJ (n := 1) (x := x3) (lv' := [(3, .int (iI ((x3 + 1)))), (2, .int (iI ((y0 + y1)))), (0, .long (iL (x0)))]) hx hb dX13_keysIn_26 hl (by decide) (k := 2) rfl (by decide) rfl (fun ls hl => ?_)
  refine lv_goto (tgt := 4) hx hb dX13_keysIn_29 (by decide) ?_
  exact hk4 hp hS (hl.sub [2, 1, 0] rfl) hsh
set_option maxRecDepth 100000 in
set_option maxHeartbeats 4000000 in
theorem w13_keysIn_l4 {p : Program} {l : Launch} {e : Env} {s : State} {m : MethodId} {args : Array Value} {below : List Frame} {meth : Method} {c : Code} {D : va_G} {cA : Nat → ClassId} {B : Nat} {res : Int × HP} (E : e_En p s m args meth c cX13_keysIn RX13 4 (some .int)) : ∀ (f : Nat) {ls : Array Slot} {H : Heap} {locs : List Loc} {S : HP} {x0 : Int} {x2 : Int} {x3 : Int} (hp : e_Pic D cA B S s H) (hS : va_S (e_A B) s.heap H locs) (hl : e_lj [0] ls 4 [(0, .long (iL (x0))), (2, .int (iI (x2))), (3, .int (iI (x3)))]) (hsh : s13_keysIn_l4 f S x0 x2 x3 = some res), W p l e ({ frames := 1, cells := 0, slots := 0, locals := 22 } : Room) s m args below meth c H locs 0 0 (MQ below (e_Qi D cA B res.1 res.2) args s 0 0 (e_A B)) (F0 m 4 ls []) := by
  obtain ⟨hx, hb, hml, hown, hts, hlk, hrt⟩ := id E
  intro f
  induction f with
  | zero => intro ls H locs S x0 x2 x3 hp hS hl hsh; cases hsh
  | succ f ih =>
    intro ls H locs S x0 x2 x3 hp hS hl hsh
    have hk4 : ∀ {ls : Array Slot} {H : Heap} {locs : List Loc} {S : HP} {x0 : Int} {x2 : Int} {x3 : Int} (hp : e_Pic D cA B S s H) (hS : va_S (e_A B) s.heap H locs) (hl : e_lj [0] ls 4 [(0, .long (iL (x0))), (2, .int (iI (x2))), (3, .int (iI (x3)))]) (hsh : (s13_keysIn_l4 f) S x0 x2 x3 = some res), W p l e ({ frames := 1, cells := 0, slots := 0, locals := 22 } : Room) s m args below meth c H locs 0 0 (MQ below (e_Qi D cA B res.1 res.2) args s 0 0 (e_A B)) (F0 m 4 ls []) := ih
    generalize hkk : s13_keysIn_l4 f = k4 at hk4
    rw [s13_keysIn_l4] at hsh
    rw [hkk] at hsh
    try dsimp only at hsh
    refine lv_iload_n hx hb dX13_keysIn_4 rfl (hl.at 2 rfl) ?_
    refine lv_bipush (v := iI (8)) hx hb dX13_keysIn_5 (by decide +kernel) ?_
    refine e_icmp_ge (tgt := 32) hx hb dX13_keysIn_7 (by decide) (fun c7 => ?_) (fun c7 => ?_)
    · rw [if_pos c7] at hsh
      refine lv_iload_n hx hb dX13_keysIn_32 rfl (hl.at 1 rfl) ?_
      cases hsh
      exact e_iret hx hb hrt hlk hp hS dX13_keysIn_33
    · rw [if_neg c7] at hsh
      refine lv_iload_n hx hb dX13_keysIn_10 rfl (hl.at 1 rfl) ?_
      refine lv_lload_n hx hb dX13_keysIn_11 rfl (hl.at 0 rfl) ?_
      refine lv_iload_n hx hb dX13_keysIn_12 rfl (hl.at 2 rfl) ?_
      obtain ⟨⟨v13, S13⟩, h13, hsh⟩ := Option.bind_eq_some_iff.mp hsh
      have hsh : _ = _ := hsh
      try dsimp only at hsh
      refine e_callS (nL := 4) (mc := 0) (ms := 0) (As := [.long (iL (x0)), .int (iI (x3))]) (rest := [.int (iI (x2))]) hx hb hml hown hts hp hS hl.size (c13_keyOf l D cA B S S13 (x0) (x3) v13 h13) rfl rfl kd13_keyOf (kl13_1036) ks13_keyOf ki13 kh13_keyOf ⟨Nat.le_of_ble_eq_true rfl, Nat.le_of_ble_eq_true rfl⟩ rfl (by simp [e_rv_cat, e_int_cat, e_long_cat]) ⟨Nat.le_refl _, Nat.le_refl _⟩ dX13_keysIn_13 rfl (fun H locs hp hS => ?_)
      refine e_if_ne (tgt := 23) hx hb dX13_keysIn_16 (by decide) (fun c16 => ?_) (fun c16 => ?_)
      · rw [if_neg c16] at hsh
        refine lv_iconst (v := iI (1)) hx hb dX13_keysIn_23 rfl ?_
        exact w13_keysIn_b24 (hk4 := hk4) E hp hS (hl.sub [0, 2] rfl) hsh
      · rw [if_pos c16] at hsh
        refine lv_iconst (v := iI (0)) hx hb dX13_keysIn_19 rfl ?_
        refine lv_goto (tgt := 24) hx hb dX13_keysIn_20 (by decide) ?_
        exact w13_keysIn_b24 (hk4 := hk4) E hp hS (hl.sub [0, 2] rfl) hsh
set_option maxRecDepth 100000 in
set_option maxHeartbeats 4000000 in
theorem c13_keysIn (l : Launch) (D : va_G) (cA : Nat → ClassId) (B : Nat) (S S' : HP) (x0 : Int) (r : Int) (hsh : s13_keysIn S x0 = some (r, S')) : Met l yX13_keysIn (e_wu yX13_keysIn cX13_keysIn 4 (some .int)) ({ frames := 1, cells := 0, slots := 0, locals := 22 } : Room) (va_Pc [.long (iL (x0))] (fun U => e_PU D cA B S U)) (e_Qi D cA B r S') 0 0 (e_A B) := by
  refine Met.ofW (cc := cX13_keysIn) (maxL := 4) (ret := (some .int)) (by decide +kernel) rfl ?_
  intro p e s m args below meth c s₁ Bd hml hv
  obtain ⟨rfl, hp⟩ := hv
  have hp : e_Pic D cA B S s s.heap := hp
  have hx := Bd.exec
  have hb := Bd.bytes
  have hrt := Bd.returns
  have hlk := Bd.notSynchronized
  have hown : s.vm.findClass RX13 = some m.cls := findClass_of_methodNamed Bd.named
  have hts : ∀ w ∈ e_tb, w.before ([.long (iL (x0))] : List Value).toArray s = true := fun w h => atoms_spec (ws := (e_wu yX13_keysIn cX13_keysIn 4 (some .int))) Bd.pre w (List.mem_cons_of_mem _ h)
  have E : e_En p s m ([.long (iL (x0))] : List Value).toArray meth c cX13_keysIn RX13 4 (some .int) := ⟨hx, hb, hml, hown, hts, hlk, hrt⟩
  have hS : va_S (e_A B) s.heap s.heap [] := va_S.rf
  have hl := e_entryj (K := [0]) (vs := [.long (iL (x0))]) (cs := [2]) (n := 4) ⟨rfl, trivial⟩ (Nat.le_of_ble_eq_true rfl) (by simp [e_idj, e_rv_cat, e_int_cat, e_long_cat])
  rw [lg_entry_eq]
  generalize (lg_sl [.long (iL (x0))] ++ List.replicate (4 - (lg_sl [.long (iL (x0))]).length) Slot.unset).toArray = ls at hl ⊢
  generalize ([.long (iL (x0))] : List Value).toArray = args at hts E ⊢
  have hl : e_lj [0] ls 4 [(0, .long (iL (x0)))] := hl
  unfold s13_keysIn at hsh
  refine lv_iconst (v := iI (0)) hx hb dX13_keysIn_0 rfl ?_
  refine e_istoreJ_n (lv' := [(2, .int (iI (0))), (0, .long (iL (x0)))]) hx hb dX13_keysIn_1 rfl hl (by decide) (by decide) rfl (fun ls hl => ?_)
  refine lv_iconst (v := iI (0)) hx hb dX13_keysIn_2 rfl ?_
  refine e_istoreJ_n (lv' := [(3, .int (iI (0))), (2, .int (iI (0))), (0, .long (iL (x0)))]) hx hb dX13_keysIn_3 rfl hl (by decide) (by decide) rfl (fun ls hl => ?_)
  exact w13_keysIn_l4 E 1000000 hp hS (hl.sub [2, 1, 0] rfl) hsh
set_option maxRecDepth 100000 in
set_option maxHeartbeats 4000000 in
theorem w13_areKeys_b38 {p : Program} {l : Launch} {e : Env} {s : State} {m : MethodId} {args : Array Value} {below : List Frame} {meth : Method} {c : Code} {D : va_G} {cA : Nat → ClassId} {B : Nat} {res : Int × HP} {k4 : HP → Int → Int → Int → Option (Int × HP)} (hk4 : ∀ {ls : Array Slot} {H : Heap} {locs : List Loc} {S : HP} {x0 : Int} {x2 : Int} {x3 : Int} (hp : e_Pic D cA B S s H) (hS : va_S (e_A B) s.heap H locs) (hl : e_lj [0] ls 4 [(0, .long (iL (x0))), (2, .int (iI (x2))), (3, .int (iI (x3)))]) (hsh : k4 S x0 x2 x3 = some res), W p l e ({ frames := 3, cells := 0, slots := 0, locals := 62 } : Room) s m args below meth c H locs 0 0 (MQ below (e_Qi D cA B res.1 res.2) args s 0 0 (e_A B)) (F0 m 4 ls [])) (E : e_En p s m args meth c cX13_areKeys RX13 4 (some .boolean)) {ls : Array Slot} {H : Heap} {locs : List Loc} {S : HP} {x0 : Int} {x3 : Int} {y0 : Int} (hp : e_Pic D cA B S s H) (hS : va_S (e_A B) s.heap H locs) (hl : e_lj [0] ls 4 [(0, .long (iL (x0))), (3, .int (iI (x3)))]) (hsh : s13_areKeys_b38 k4 S x0 x3 y0 = some res) : W p l e ({ frames := 3, cells := 0, slots := 0, locals := 62 } : Room) s m args below meth c H locs 0 0 (MQ below (e_Qi D cA B res.1 res.2) args s 0 0 (e_A B)) (F0 m 38 ls [.int (iI (y0))]) := by
  obtain ⟨hx, hb, hml, hown, hts, hlk, hrt⟩ := id E
  unfold s13_areKeys_b38 at hsh
  refine e_istoreJ_n (lv' := [(2, .int (iI (y0))), (0, .long (iL (x0))), (3, .int (iI (x3)))]) hx hb dX13_areKeys_38 rfl hl (by decide) (by decide) rfl (fun ls hl => ?_)
  refine e_iincJ (n := 1) (x := x3) (lv' := [(3, .int (iI ((x3 + 1)))), (2, .int (iI (y0))), (0, .long (iL (x0)))]) hx hb dX13_areKeys_39 hl (by decide) (k := 2) rfl (by decide) rfl (fun ls hl => ?_)
  refine lv_goto (tgt := 4) hx hb dX13_areKeys_42 (by decide) ?_
  exact hk4 hp hS (hl.sub [2, 1, 0] rfl) hsh
set_option maxRecDepth 100000 in
set_option maxHeartbeats 4000000 in
theorem w13_areKeys_b37 {p : Program} {l : Launch} {e : Env} {s : State} {m : MethodId} {args : Array Value} {below : List Frame} {meth : Method} {c : Code} {D : va_G} {cA : Nat → ClassId} {B : Nat} {res : Int × HP} {k4 : HP → Int → Int → Int → Option (Int × HP)} (hk4 : ∀ {ls : Array Slot} {H : Heap} {locs : List Loc} {S : HP} {x0 : Int} {x2 : Int} {x3 : Int} (hp : e_Pic D cA B S s H) (hS : va_S (e_A B) s.heap H locs) (hl : e_lj [0] ls 4 [(0, .long (iL (x0))), (2, .int (iI (x2))), (3, .int (iI (x3)))]) (hsh : k4 S x0 x2 x3 = some res), W p l e ({ frames := 3, cells := 0, slots := 0, locals := 62 } : Room) s m args below meth c H locs 0 0 (MQ below (e_Qi D cA B res.1 res.2) args s 0 0 (e_A B)) (F0 m 4 ls [])) (E : e_En p s m args meth c cX13_areKeys RX13 4 (some .boolean)) {ls : Array Slot} {H : Heap} {locs : List Loc} {S : HP} {x0 : Int} {x3 : Int} (hp : e_Pic D cA B S s H) (hS : va_S (e_A B) s.heap H locs) (hl : e_lj [0] ls 4 [(0, .long (iL (x0))), (3, .int (iI (x3)))]) (hsh : s13_areKeys_b37 k4 S x0 x3 = some res) : W p l e ({ frames := 3, cells := 0, slots := 0, locals := 62 } : Room) s m args below meth c H locs 0 0 (MQ below (e_Qi D cA B res.1 res.2) args s 0 0 (e_A B)) (F0 m 37 ls []) := by
  obtain ⟨hx, hb, hml, hown, hts, hlk, hrt⟩ := id E
  unfold s13_areKeys_b37 at hsh
  refine lv_iconst (v := iI (0)) hx hb dX13_areKeys_37 rfl ?_
  exact w13_areKeys_b38 (hk4 := hk4) E hp hS (hl.sub [0, 1] rfl) hsh
set_option maxRecDepth 100000 in
set_option maxHeartbeats 4000000 in
theorem w13_areKeys_b33 {p : Program} {l : Launch} {e : Env} {s : State} {m : MethodId} {args : Array Value} {below : List Frame} {meth : Method} {c : Code} {D : va_G} {cA : Nat → ClassId} {B : Nat} {res : Int × HP} {k4 : HP → Int → Int → Int → Option (Int × HP)} (hk4 : ∀ {ls : Array Slot} {H : Heap} {locs : List Loc} {S : HP} {x0 : Int} {x2 : Int} {x3 : Int} (hp : e_Pic D cA B S s H) (hS : va_S (e_A B) s.heap H locs) (hl : e_lj [0] ls 4 [(0, .long (iL (x0))), (2, .int (iI (x2))), (3, .int (iI (x3)))]) (hsh : k4 S x0 x2 x3 = some res), W p l e ({ frames := 3, cells := 0, slots := 0, locals := 62 } : Room) s m args below meth c H locs 0 0 (MQ below (e_Qi D cA B res.1 res.2) args s 0 0 (e_A B)) (F0 m 4 ls [])) (E : e_En p s m args meth c cX13_areKeys RX13 4 (some .boolean)) {ls : Array Slot} {H : Heap} {locs : List Loc} {S : HP} {x0 : Int} {x3 : Int} (hp : e_Pic D cA B S s H) (hS : va_S (e_A B) s.heap H locs) (hl : e_lj [0] ls 4 [(0, .long (iL (x0))), (3, .int (iI (x3)))]) (hsh : s13_areKeys_b33 k4 S x0 x3 = some res) : W p l e ({ frames := 3, cells := 0, slots := 0, locals := 62 } : Room) s m args below meth c H locs 0 0 (MQ below (e_Qi D cA B res.1 res.2) args s 0 0 (e_A B)) (F0 m 33 ls []) := by
  obtain ⟨hx, hb, hml, hown, hts, hlk, hrt⟩ := id E
  unfold s13_areKeys_b33 at hsh
  refine lv_iconst (v := iI (1)) hx hb dX13_areKeys_33 rfl ?_
  refine lv_goto (tgt := 38) hx hb dX13_areKeys_34 (by decide) ?_
  exact w13_areKeys_b38 (hk4 := hk4) E hp hS (hl.sub [0, 1] rfl) hsh
set_option maxRecDepth 100000 in
set_option maxHeartbeats 4000000 in
theorem w13_areKeys_l4 {p : Program} {l : Launch} {e : Env} {s : State} {m : MethodId} {args : Array Value} {below : List Frame} {meth : Method} {c : Code} {D : va_G} {cA : Nat → ClassId} {B : Nat} {res : Int × HP} (E : e_En p s m args meth c cX13_areKeys RX13 4 (some .boolean)) : ∀ (f : Nat) {ls : Array Slot} {H : Heap} {locs : List Loc} {S : HP} {x0 : Int} {x2 : Int} {x3 : Int} (hp : e_Pic D cA B S s H) (hS : va_S (e_A B) s.heap H locs) (hl : e_lj [0] ls 4 [(0, .long (iL (x0))), (2, .int (iI (x2))), (3, .int (iI (x3)))]) (hsh : s13_areKeys_l4 f S x0 x2 x3 = some res), W p l e ({ frames := 3, cells := 0, slots := 0, locals := 62 } : Room) s m args below meth c H locs 0 0 (MQ below (e_Qi D cA B res.1 res.2) args s 0 0 (e_A B)) (F0 m 4 ls []) := by
  obtain ⟨hx, hb, hml, hown, hts, hlk, hrt⟩ := id E
  intro f
  induction f with
  | zero => intro ls H locs S x0 x2 x3 hp hS hl hsh; cases hsh
  | succ f ih =>
    intro ls H locs S x0 x2 x3 hp hS hl hsh
    have hk4 : ∀ {ls : Array Slot} {H : Heap} {locs : List Loc} {S : HP} {x0 : Int} {x2 : Int} {x3 : Int} (hp : e_Pic D cA B S s H) (hS : va_S (e_A B) s.heap H locs) (hl : e_lj [0] ls 4 [(0, .long (iL (x0))), (2, .int (iI (x2))), (3, .int (iI (x3)))]) (hsh : (s13_areKeys_l4 f) S x0 x2 x3 = some res), W p l e ({ frames := 3, cells := 0, slots := 0, locals := 62 } : Room) s m args below meth c H locs 0 0 (MQ below (e_Qi D cA B res.1 res.2) args s 0 0 (e_A B)) (F0 m 4 ls []) := ih
    generalize hkk : s13_areKeys_l4 f = k4 at hk4
    rw [s13_areKeys_l4] at hsh
    rw [hkk] at hsh
    try dsimp only at hsh
    refine lv_iload_n hx hb dX13_areKeys_4 rfl (hl.at 2 rfl) ?_
    refine lv_bipush (v := iI (8)) hx hb dX13_areKeys_5 (by decide +kernel) ?_
    refine e_icmp_ge (tgt := 45) hx hb dX13_areKeys_7 (by decide) (fun c7 => ?_) (fun c7 => ?_)
    · rw [if_pos c7] at hsh
      refine lv_iload_n hx hb dX13_areKeys_45 rfl (hl.at 1 rfl) ?_
      obtain ⟨hz, hz1, hz2⟩ := zR_some hsh
      rw [← hz1, ← hz2]
      exact e_zret hx hb hrt hlk hp hS hz dX13_areKeys_46
    · rw [if_neg c7] at hsh
      refine lv_iload_n hx hb dX13_areKeys_10 rfl (hl.at 1 rfl) ?_
      refine e_if_eq (tgt := 37) hx hb dX13_areKeys_11 (by decide) (fun c11 => ?_) (fun c11 => ?_)
      · rw [if_pos c11] at hsh
        exact w13_areKeys_b37 (hk4 := hk4) E hp hS (hl.sub [0, 2] rfl) hsh
      · rw [if_neg c11] at hsh
        refine lv_lload_n hx hb dX13_areKeys_14 rfl (hl.at 0 rfl) ?_
        refine lv_iload_n hx hb dX13_areKeys_15 rfl (hl.at 2 rfl) ?_
        obtain ⟨⟨v16, S16⟩, h16, hsh⟩ := Option.bind_eq_some_iff.mp hsh
        have hsh : _ = _ := hsh
        try dsimp only at hsh
        refine e_callS (nL := 4) (mc := 0) (ms := 0) (As := [.long (iL (x0)), .int (iI (x3))]) (rest := []) hx hb hml hown hts hp hS hl.size (c13_keyOf l D cA B S S16 (x0) (x3) v16 h16) rfl rfl kd13_keyOf (kl13_1036) ks13_keyOf ki13 kh13_keyOf ⟨Nat.le_of_ble_eq_true rfl, Nat.le_of_ble_eq_true rfl⟩ rfl (by simp [e_rv_cat, e_int_cat, e_long_cat]) ⟨Nat.le_refl _, Nat.le_refl _⟩ dX13_areKeys_16 rfl (fun H locs hp hS => ?_)
        refine e_if_eq (tgt := 33) hx hb dX13_areKeys_19 (by decide) (fun c19 => ?_) (fun c19 => ?_)
        · rw [if_pos c19] at hsh
          exact w13_areKeys_b33 (hk4 := hk4) E hp hS (hl.sub [0, 2] rfl) hsh
        · rw [if_neg c19] at hsh
          refine lv_lload_n hx hb dX13_areKeys_22 rfl (hl.at 0 rfl) ?_
          refine lv_iload_n hx hb dX13_areKeys_23 rfl (hl.at 2 rfl) ?_
          obtain ⟨⟨v24, S24⟩, h24, hsh⟩ := Option.bind_eq_some_iff.mp hsh
          have hsh : _ = _ := hsh
          try dsimp only at hsh
          refine e_callS (nL := 4) (mc := 0) (ms := 0) (As := [.long (iL (x0)), .int (iI (x3))]) (rest := []) hx hb hml hown hts hp hS hl.size (c13_keyOf l D cA B S16 S24 (x0) (x3) v24 h24) rfl rfl kd13_keyOf (kl13_1036) ks13_keyOf ki13 kh13_keyOf ⟨Nat.le_of_ble_eq_true rfl, Nat.le_of_ble_eq_true rfl⟩ rfl (by simp [e_rv_cat, e_int_cat, e_long_cat]) ⟨Nat.le_refl _, Nat.le_refl _⟩ dX13_areKeys_24 rfl (fun H locs hp hS => ?_)
          obtain ⟨⟨v27, S27⟩, h27, hsh⟩ := Option.bind_eq_some_iff.mp hsh
          have hsh : _ = _ := hsh
          try dsimp only at hsh
          refine e_callS (nL := 4) (mc := 0) (ms := 0) (As := [.int (iI (v24))]) (rest := []) hx hb hml hown hts hp hS hl.size (c13_isKey l D cA B S24 S27 (v24) v27 h27) rfl rfl kd13_isKey (kl13_1049) ks13_isKey ki13 kh13_isKey ⟨Nat.le_of_ble_eq_true rfl, Nat.le_of_ble_eq_true rfl⟩ rfl (by simp [e_rv_cat, e_int_cat, e_long_cat]) ⟨Nat.le_refl _, Nat.le_refl _⟩ dX13_areKeys_27 rfl (fun H locs hp hS => ?_)
          refine e_if_eq (tgt := 37) hx hb dX13_areKeys_30 (by decide) (fun c30 => ?_) (fun c30 => ?_)
          · rw [if_pos c30] at hsh
            exact w13_areKeys_b37 (hk4 := hk4) E hp hS (hl.sub [0, 2] rfl) hsh
          · rw [if_neg c30] at hsh
            exact w13_areKeys_b33 (hk4 := hk4) E hp hS (hl.sub [0, 2] rfl) hsh
set_option maxRecDepth 100000 in
set_option maxHeartbeats 4000000 in
theorem c13_areKeys (l : Launch) (D : va_G) (cA : Nat → ClassId) (B : Nat) (S S' : HP) (x0 : Int) (r : Int) (hsh : s13_areKeys S x0 = some (r, S')) : Met l yX13_areKeys (e_wu yX13_areKeys cX13_areKeys 4 (some .boolean)) ({ frames := 3, cells := 0, slots := 0, locals := 62 } : Room) (va_Pc [.long (iL (x0))] (fun U => e_PU D cA B S U)) (e_Qi D cA B r S') 0 0 (e_A B) := by
  refine Met.ofW (cc := cX13_areKeys) (maxL := 4) (ret := (some .boolean)) (by decide +kernel) rfl ?_
  intro p e s m args below meth c s₁ Bd hml hv
  obtain ⟨rfl, hp⟩ := hv
  have hp : e_Pic D cA B S s s.heap := hp
  have hx := Bd.exec
  have hb := Bd.bytes
  have hrt := Bd.returns
  have hlk := Bd.notSynchronized
  have hown : s.vm.findClass RX13 = some m.cls := findClass_of_methodNamed Bd.named
  have hts : ∀ w ∈ e_tb, w.before ([.long (iL (x0))] : List Value).toArray s = true := fun w h => atoms_spec (ws := (e_wu yX13_areKeys cX13_areKeys 4 (some .boolean))) Bd.pre w (List.mem_cons_of_mem _ h)
  have E : e_En p s m ([.long (iL (x0))] : List Value).toArray meth c cX13_areKeys RX13 4 (some .boolean) := ⟨hx, hb, hml, hown, hts, hlk, hrt⟩
  have hS : va_S (e_A B) s.heap s.heap [] := va_S.rf
  have hl := e_entryj (K := [0]) (vs := [.long (iL (x0))]) (cs := [2]) (n := 4) ⟨rfl, trivial⟩ (Nat.le_of_ble_eq_true rfl) (by simp [e_idj, e_rv_cat, e_int_cat, e_long_cat])
  rw [lg_entry_eq]
  generalize (lg_sl [.long (iL (x0))] ++ List.replicate (4 - (lg_sl [.long (iL (x0))]).length) Slot.unset).toArray = ls at hl ⊢
  generalize ([.long (iL (x0))] : List Value).toArray = args at hts E ⊢
  have hl : e_lj [0] ls 4 [(0, .long (iL (x0)))] := hl
  unfold s13_areKeys at hsh
  refine lv_iconst (v := iI (1)) hx hb dX13_areKeys_0 rfl ?_
  refine e_istoreJ_n (lv' := [(2, .int (iI (1))), (0, .long (iL (x0)))]) hx hb dX13_areKeys_1 rfl hl (by decide) (by decide) rfl (fun ls hl => ?_)
  refine lv_iconst (v := iI (0)) hx hb dX13_areKeys_2 rfl ?_
  refine e_istoreJ_n (lv' := [(3, .int (iI (0))), (2, .int (iI (1))), (0, .long (iL (x0)))]) hx hb dX13_areKeys_3 rfl hl (by decide) (by decide) rfl (fun ls hl => ?_)
  exact w13_areKeys_l4 E 1000000 hp hS (hl.sub [2, 1, 0] rfl) hsh
theorem ok13_laysFrom {S : HP} {x0 : Int} {x1 : Int} {x2 : Int} {r : Int × HP} (h : s13_laysFrom S x0 x1 x2 = some r) : 0 ≤ x0 ∧ x0.toNat < e_n S ∧ e_g S x0.toNat = 13 := (gd_some h).1
set_option maxRecDepth 100000 in
set_option maxHeartbeats 4000000 in
theorem w13_laysFrom_b42 {p : Program} {l : Launch} {e : Env} {s : State} {m : MethodId} {args : Array Value} {below : List Frame} {meth : Method} {c : Code} {D : va_G} {cA : Nat → ClassId} {B : Nat} {res : Int × HP} {k6 : HP → Int → Int → Int → Int → Int → Option (Int × HP)} (hk6 : ∀ {ls : Array Slot} {H : Heap} {locs : List Loc} {S : HP} {x0 : Int} {x1 : Int} {x2 : Int} {x4 : Int} {x5 : Int} (hp : e_Pic D cA B S s H) (hS : va_S (e_A B) s.heap H locs) (hl : e_lj [2] ls 6 [(0, e_rv B (x0)), (1, .int (iI (x1))), (2, .long (iL (x2))), (4, .int (iI (x4))), (5, .int (iI (x5)))]) (hsh : k6 S x0 x1 x2 x4 x5 = some res), W p l e ({ frames := 1, cells := 0, slots := 0, locals := 22 } : Room) s m args below meth c H locs 0 0 (MQ below (e_Qi D cA B res.1 res.2) args s 0 0 (e_A B)) (F0 m 6 ls [])) (E : e_En p s m args meth c cX13_laysFrom RX13 6 (some .int)) {ls : Array Slot} {H : Heap} {locs : List Loc} {S : HP} {x0 : Int} {x1 : Int} {x2 : Int} {x4 : Int} {x5 : Int} (hp : e_Pic D cA B S s H) (hS : va_S (e_A B) s.heap H locs) (hl : e_lj [2] ls 6 [(0, e_rv B (x0)), (1, .int (iI (x1))), (2, .long (iL (x2))), (4, .int (iI (x4))), (5, .int (iI (x5)))]) (hsh : s13_laysFrom_b42 k6 S x0 x1 x2 x4 x5 = some res) : W p l e ({ frames := 1, cells := 0, slots := 0, locals := 22 } : Room) s m args below meth c H locs 0 0 (MQ below (e_Qi D cA B res.1 res.2) args s 0 0 (e_A B)) (F0 m 42 ls []) := by
  obtain ⟨hx, hb, hml, hown, hts, hlk, hrt⟩ := id E
  unfold s13_laysFrom_b42 at hsh
  refine e_iincJ (n := 1) (x := x5) (lv' := [(5, .int (iI ((x5 + 1)))), (0, e_rv B (x0)), (1, .int (iI (x1))), (2, .long (iL (x2))), (4, .int (iI (x4)))]) hx hb dX13_laysFrom_42 hl (by decide) (k := 4) rfl (by decide) rfl (fun ls hl => ?_)
  refine lv_goto (tgt := 6) hx hb dX13_laysFrom_45 (by decide) ?_
  exact hk6 hp hS (hl.sub [1, 2, 3, 4, 0] rfl) hsh
set_option maxRecDepth 100000 in
set_option maxHeartbeats 4000000 in
theorem w13_laysFrom_l6 {p : Program} {l : Launch} {e : Env} {s : State} {m : MethodId} {args : Array Value} {below : List Frame} {meth : Method} {c : Code} {D : va_G} {cA : Nat → ClassId} {B : Nat} {res : Int × HP} (E : e_En p s m args meth c cX13_laysFrom RX13 6 (some .int)) : ∀ (f : Nat) {ls : Array Slot} {H : Heap} {locs : List Loc} {S : HP} {x0 : Int} {x1 : Int} {x2 : Int} {x4 : Int} {x5 : Int} (hp : e_Pic D cA B S s H) (hS : va_S (e_A B) s.heap H locs) (hl : e_lj [2] ls 6 [(0, e_rv B (x0)), (1, .int (iI (x1))), (2, .long (iL (x2))), (4, .int (iI (x4))), (5, .int (iI (x5)))]) (hsh : s13_laysFrom_l6 f S x0 x1 x2 x4 x5 = some res), W p l e ({ frames := 1, cells := 0, slots := 0, locals := 22 } : Room) s m args below meth c H locs 0 0 (MQ below (e_Qi D cA B res.1 res.2) args s 0 0 (e_A B)) (F0 m 6 ls []) := by
  obtain ⟨hx, hb, hml, hown, hts, hlk, hrt⟩ := id E
  intro f
  induction f with
  | zero => intro ls H locs S x0 x1 x2 x4 x5 hp hS hl hsh; cases hsh
  | succ f ih =>
    intro ls H locs S x0 x1 x2 x4 x5 hp hS hl hsh
    have hk6 : ∀ {ls : Array Slot} {H : Heap} {locs : List Loc} {S : HP} {x0 : Int} {x1 : Int} {x2 : Int} {x4 : Int} {x5 : Int} (hp : e_Pic D cA B S s H) (hS : va_S (e_A B) s.heap H locs) (hl : e_lj [2] ls 6 [(0, e_rv B (x0)), (1, .int (iI (x1))), (2, .long (iL (x2))), (4, .int (iI (x4))), (5, .int (iI (x5)))]) (hsh : (s13_laysFrom_l6 f) S x0 x1 x2 x4 x5 = some res), W p l e ({ frames := 1, cells := 0, slots := 0, locals := 22 } : Room) s m args below meth c H locs 0 0 (MQ below (e_Qi D cA B res.1 res.2) args s 0 0 (e_A B)) (F0 m 6 ls []) := ih
    generalize hkk : s13_laysFrom_l6 f = k6 at hk6
    rw [s13_laysFrom_l6] at hsh
    rw [hkk] at hsh
    try dsimp only at hsh
    refine lv_iload hx hb dX13_laysFrom_6 (hl.at 4 rfl) ?_
    refine lv_bipush (v := iI (8)) hx hb dX13_laysFrom_8 (by decide +kernel) ?_
    refine e_icmp_ge (tgt := 48) hx hb dX13_laysFrom_10 (by decide) (fun c10 => ?_) (fun c10 => ?_)
    · rw [if_pos c10] at hsh
      refine e_aload_n (B := B) (x := x0) hx hb dX13_laysFrom_48 rfl (hl.at 0 rfl) ?_
      obtain ⟨v49, h49, hsh⟩ := Option.bind_eq_some_iff.mp hsh
      refine e_getR (k := 115) hx hb hts in_X13 hown hp h49 rfl (by decide) (by decide) rfl (hts _ kf13_169) rfl dX13_laysFrom_49 ?_
      refine lv_iload_n hx hb dX13_laysFrom_52 rfl (hl.at 1 rfl) ?_
      refine lv_iload hx hb dX13_laysFrom_53 (hl.at 3 rfl) ?_
      obtain ⟨S55, h55, hsh⟩ := Option.bind_eq_some_iff.mp hsh
      refine e_iast hx hb hp hS h55 dX13_laysFrom_55 (fun H locs hp hS => ?_)
      refine lv_iload_n hx hb dX13_laysFrom_56 rfl (hl.at 1 rfl) ?_
      cases hsh
      exact e_iret hx hb hrt hlk hp hS dX13_laysFrom_57
    · rw [if_neg c10] at hsh
      refine lv_lload_n hx hb dX13_laysFrom_13 rfl (hl.at 2 rfl) ?_
      refine lv_iload hx hb dX13_laysFrom_14 (hl.at 4 rfl) ?_
      obtain ⟨⟨v16, S16⟩, h16, hsh⟩ := Option.bind_eq_some_iff.mp hsh
      have hsh : _ = _ := hsh
      try dsimp only at hsh
      refine e_callS (nL := 6) (mc := 0) (ms := 0) (As := [.long (iL (x2)), .int (iI (x5))]) (rest := []) hx hb hml hown hts hp hS hl.size (c13_keyOf l D cA B S S16 (x2) (x5) v16 h16) rfl rfl kd13_keyOf (kl13_1036) ks13_keyOf ki13 kh13_keyOf ⟨Nat.le_of_ble_eq_true rfl, Nat.le_of_ble_eq_true rfl⟩ rfl (by simp [e_rv_cat, e_int_cat, e_long_cat]) ⟨Nat.le_refl _, Nat.le_refl _⟩ dX13_laysFrom_16 rfl (fun H locs hp hS => ?_)
      refine e_if_eq (tgt := 42) hx hb dX13_laysFrom_19 (by decide) (fun c19 => ?_) (fun c19 => ?_)
      · rw [if_pos c19] at hsh
        exact w13_laysFrom_b42 (hk6 := hk6) E hp hS (hl.sub [0, 1, 2, 3, 4] rfl) hsh
      · rw [if_neg c19] at hsh
        refine e_aload_n (B := B) (x := x0) hx hb dX13_laysFrom_22 rfl (hl.at 0 rfl) ?_
        obtain ⟨v23, h23, hsh⟩ := Option.bind_eq_some_iff.mp hsh
        refine e_getR (k := 116) hx hb hts in_X13 hown hp h23 rfl (by decide) (by decide) rfl (hts _ kf13_172) rfl dX13_laysFrom_23 ?_
        refine lv_iconst (v := iI (4)) hx hb dX13_laysFrom_26 rfl ?_
        refine lv_iload_n hx hb dX13_laysFrom_27 rfl (hl.at 1 rfl) ?_
        refine e_imul hx hb dX13_laysFrom_28 ?_
        refine lv_iload hx hb dX13_laysFrom_29 (hl.at 3 rfl) ?_
        refine e_iadd hx hb dX13_laysFrom_31 ?_
        refine lv_lload_n hx hb dX13_laysFrom_32 rfl (hl.at 2 rfl) ?_
        refine lv_iload hx hb dX13_laysFrom_33 (hl.at 4 rfl) ?_
        obtain ⟨⟨v35, S35⟩, h35, hsh⟩ := Option.bind_eq_some_iff.mp hsh
        have hsh : _ = _ := hsh
        try dsimp only at hsh
        refine e_callS (nL := 6) (mc := 0) (ms := 0) (As := [.long (iL (x2)), .int (iI (x5))]) (rest := [.int (iI (((4 * x1) + x4))), e_rv B (v23)]) hx hb hml hown hts hp hS hl.size (c13_keyOf l D cA B S16 S35 (x2) (x5) v35 h35) rfl rfl kd13_keyOf (kl13_1036) ks13_keyOf ki13 kh13_keyOf ⟨Nat.le_of_ble_eq_true rfl, Nat.le_of_ble_eq_true rfl⟩ rfl (by simp [e_rv_cat, e_int_cat, e_long_cat]) ⟨Nat.le_refl _, Nat.le_refl _⟩ dX13_laysFrom_35 rfl (fun H locs hp hS => ?_)
        obtain ⟨S38, h38, hsh⟩ := Option.bind_eq_some_iff.mp hsh
        refine e_iast hx hb hp hS h38 dX13_laysFrom_38 (fun H locs hp hS => ?_)
        refine e_iincJ (n := 1) (x := x4) (lv' := [(4, .int (iI ((x4 + 1)))), (0, e_rv B (x0)), (1, .int (iI (x1))), (2, .long (iL (x2))), (5, .int (iI (x5)))]) hx hb dX13_laysFrom_39 hl (by decide) (k := 3) rfl (by decide) rfl (fun ls hl => ?_)
        exact w13_laysFrom_b42 (hk6 := hk6) E hp hS (hl.sub [1, 2, 3, 0, 4] rfl) hsh
set_option maxRecDepth 100000 in
set_option maxHeartbeats 4000000 in
theorem c13_laysFrom (l : Launch) (D : va_G) (cA : Nat → ClassId) (B : Nat) (S S' : HP) (x0 : Int) (x1 : Int) (x2 : Int) (r : Int) (hsh : s13_laysFrom S x0 x1 x2 = some (r, S')) : Met l yX13_laysFrom (e_wu yX13_laysFrom cX13_laysFrom 6 (some .int)) ({ frames := 1, cells := 0, slots := 0, locals := 22 } : Room) (va_Pc [e_rv B (x0), .int (iI (x1)), .long (iL (x2))] (fun U => e_PU D cA B S U)) (e_Qi D cA B r S') 0 0 (e_A B) := by
  refine Met.ofW (cc := cX13_laysFrom) (maxL := 6) (ret := (some .int)) (by decide +kernel) rfl ?_
  intro p e s m args below meth c s₁ Bd hml hv
  obtain ⟨rfl, hp⟩ := hv
  have hp : e_Pic D cA B S s s.heap := hp
  have hx := Bd.exec
  have hb := Bd.bytes
  have hrt := Bd.returns
  have hlk := Bd.notSynchronized
  have hown : s.vm.findClass RX13 = some m.cls := findClass_of_methodNamed Bd.named
  have hts : ∀ w ∈ e_tb, w.before ([e_rv B (x0), .int (iI (x1)), .long (iL (x2))] : List Value).toArray s = true := fun w h => atoms_spec (ws := (e_wu yX13_laysFrom cX13_laysFrom 6 (some .int))) Bd.pre w (List.mem_cons_of_mem _ h)
  have E : e_En p s m ([e_rv B (x0), .int (iI (x1)), .long (iL (x2))] : List Value).toArray meth c cX13_laysFrom RX13 6 (some .int) := ⟨hx, hb, hml, hown, hts, hlk, hrt⟩
  have hS : va_S (e_A B) s.heap s.heap [] := va_S.rf
  have hl := e_entryj (K := [2]) (vs := [e_rv B (x0), .int (iI (x1)), .long (iL (x2))]) (cs := [1, 1, 2]) (n := 6) ⟨e_rv_cat _ _, rfl, rfl, trivial⟩ (Nat.le_of_ble_eq_true rfl) (by simp [e_idj, e_rv_cat, e_int_cat, e_long_cat])
  rw [lg_entry_eq]
  generalize (lg_sl [e_rv B (x0), .int (iI (x1)), .long (iL (x2))] ++ List.replicate (6 - (lg_sl [e_rv B (x0), .int (iI (x1)), .long (iL (x2))]).length) Slot.unset).toArray = ls at hl ⊢
  generalize ([e_rv B (x0), .int (iI (x1)), .long (iL (x2))] : List Value).toArray = args at hts E ⊢
  have hl : e_lj [2] ls 6 [(0, e_rv B (x0)), (1, .int (iI (x1))), (2, .long (iL (x2)))] := hl
  have hsh := (gd_some hsh).2
  refine lv_iconst (v := iI (0)) hx hb dX13_laysFrom_0 rfl ?_
  refine e_istoreJ (lv' := [(4, .int (iI (0))), (0, e_rv B (x0)), (1, .int (iI (x1))), (2, .long (iL (x2)))]) hx hb dX13_laysFrom_1 hl (by decide) (by decide) rfl (fun ls hl => ?_)
  refine lv_iconst (v := iI (0)) hx hb dX13_laysFrom_3 rfl ?_
  refine e_istoreJ (lv' := [(5, .int (iI (0))), (4, .int (iI (0))), (0, e_rv B (x0)), (1, .int (iI (x1))), (2, .long (iL (x2)))]) hx hb dX13_laysFrom_4 hl (by decide) (by decide) rfl (fun ls hl => ?_)
  exact w13_laysFrom_l6 E 1000000 hp hS (hl.sub [2, 3, 4, 1, 0] rfl) hsh
theorem ok13_mapLike {S : HP} {x0 : Int} {x1 : Int} {x2 : Int} {r : Int × HP} (h : s13_mapLike S x0 x1 x2 = some r) : 0 ≤ x0 ∧ x0.toNat < e_n S ∧ e_g S x0.toNat = 13 := (gd_some h).1
set_option maxRecDepth 100000 in
set_option maxHeartbeats 4000000 in
theorem w13_mapLike_b123 {p : Program} {l : Launch} {e : Env} {s : State} {m : MethodId} {args : Array Value} {below : List Frame} {meth : Method} {c : Code} {D : va_G} {cA : Nat → ClassId} {B : Nat} {res : Int × HP} {k6 : HP → Int → Int → Int → Int → Int → Option (Int × HP)} (hk6 : ∀ {ls : Array Slot} {H : Heap} {locs : List Loc} {S : HP} {x0 : Int} {x1 : Int} {x2 : Int} {x4 : Int} {x5 : Int} (hp : e_Pic D cA B S s H) (hS : va_S (e_A B) s.heap H locs) (hl : e_lj [2] ls 9 [(0, e_rv B (x0)), (1, .int (iI (x1))), (2, .long (iL (x2))), (4, .int (iI (x4))), (5, .int (iI (x5)))]) (hsh : k6 S x0 x1 x2 x4 x5 = some res), W p l e ({ frames := 2, cells := 0, slots := 0, locals := 45 } : Room) s m args below meth c H locs 0 0 (MQ below (e_Qi D cA B res.1 res.2) args s 0 0 (e_A B)) (F0 m 6 ls [])) (E : e_En p s m args meth c cX13_mapLike RX13 9 (some .int)) {ls : Array Slot} {H : Heap} {locs : List Loc} {S : HP} {x0 : Int} {x1 : Int} {x2 : Int} {x5 : Int} {y0 : Int} (hp : e_Pic D cA B S s H) (hS : va_S (e_A B) s.heap H locs) (hl : e_lj [2] ls 9 [(0, e_rv B (x0)), (1, .int (iI (x1))), (2, .long (iL (x2))), (5, .int (iI (x5)))]) (hsh : s13_mapLike_b123 k6 S x0 x1 x2 x5 y0 = some res) : W p l e ({ frames := 2, cells := 0, slots := 0, locals := 45 } : Room) s m args below meth c H locs 0 0 (MQ below (e_Qi D cA B res.1 res.2) args s 0 0 (e_A B)) (F0 m 123 ls [.int (iI (y0))]) := by
  obtain ⟨hx, hb, hml, hown, hts, hlk, hrt⟩ := id E
  unfold s13_mapLike_b123 at hsh
  refine e_istoreJ (lv' := [(4, .int (iI (y0))), (0, e_rv B (x0)), (1, .int (iI (x1))), (2, .long (iL (x2))), (5, .int (iI (x5)))]) hx hb dX13_mapLike_123 hl (by decide) (by decide) rfl (fun ls hl => ?_)
  refine e_iincJ (n := 1) (x := x5) (lv' := [(5, .int (iI ((x5 + 1)))), (4, .int (iI (y0))), (0, e_rv B (x0)), (1, .int (iI (x1))), (2, .long (iL (x2)))]) hx hb dX13_mapLike_125 hl (by decide) (k := 4) rfl (by decide) rfl (fun ls hl => ?_)
  refine lv_goto (tgt := 6) hx hb dX13_mapLike_128 (by decide) ?_
  exact hk6 hp hS (hl.sub [2, 3, 4, 1, 0] rfl) hsh
set_option maxRecDepth 100000 in
set_option maxHeartbeats 4000000 in
theorem w13_mapLike_b111 {p : Program} {l : Launch} {e : Env} {s : State} {m : MethodId} {args : Array Value} {below : List Frame} {meth : Method} {c : Code} {D : va_G} {cA : Nat → ClassId} {B : Nat} {res : Int × HP} {k6 : HP → Int → Int → Int → Int → Int → Option (Int × HP)} (hk6 : ∀ {ls : Array Slot} {H : Heap} {locs : List Loc} {S : HP} {x0 : Int} {x1 : Int} {x2 : Int} {x4 : Int} {x5 : Int} (hp : e_Pic D cA B S s H) (hS : va_S (e_A B) s.heap H locs) (hl : e_lj [2] ls 9 [(0, e_rv B (x0)), (1, .int (iI (x1))), (2, .long (iL (x2))), (4, .int (iI (x4))), (5, .int (iI (x5)))]) (hsh : k6 S x0 x1 x2 x4 x5 = some res), W p l e ({ frames := 2, cells := 0, slots := 0, locals := 45 } : Room) s m args below meth c H locs 0 0 (MQ below (e_Qi D cA B res.1 res.2) args s 0 0 (e_A B)) (F0 m 6 ls [])) (E : e_En p s m args meth c cX13_mapLike RX13 9 (some .int)) {ls : Array Slot} {H : Heap} {locs : List Loc} {S : HP} {x0 : Int} {x1 : Int} {x2 : Int} {x4 : Int} {x5 : Int} {x7 : Int} (hp : e_Pic D cA B S s H) (hS : va_S (e_A B) s.heap H locs) (hl : e_lj [2] ls 9 [(0, e_rv B (x0)), (1, .int (iI (x1))), (2, .long (iL (x2))), (4, .int (iI (x4))), (5, .int (iI (x5))), (7, .int (iI (x7)))]) (hsh : s13_mapLike_b111 k6 S x0 x1 x2 x4 x5 x7 = some res) : W p l e ({ frames := 2, cells := 0, slots := 0, locals := 45 } : Room) s m args below meth c H locs 0 0 (MQ below (e_Qi D cA B res.1 res.2) args s 0 0 (e_A B)) (F0 m 111 ls []) := by
  obtain ⟨hx, hb, hml, hown, hts, hlk, hrt⟩ := id E
  unfold s13_mapLike_b111 at hsh
  refine lv_iload hx hb dX13_mapLike_111 (hl.at 5 rfl) ?_
  refine e_if_eq (tgt := 121) hx hb dX13_mapLike_113 (by decide) (fun c113 => ?_) (fun c113 => ?_)
  · rw [if_pos c113] at hsh
    refine lv_iload hx hb dX13_mapLike_121 (hl.at 3 rfl) ?_
    exact w13_mapLike_b123 (hk6 := hk6) E hp hS (hl.sub [0, 1, 2, 4] rfl) hsh
  · rw [if_neg c113] at hsh
    refine lv_iload hx hb dX13_mapLike_116 (hl.at 4 rfl) ?_
    refine lv_goto (tgt := 123) hx hb dX13_mapLike_118 (by decide) ?_
    exact w13_mapLike_b123 (hk6 := hk6) E hp hS (hl.sub [0, 1, 2, 4] rfl) hsh
set_option maxRecDepth 100000 in
set_option maxHeartbeats 4000000 in
theorem w13_mapLike_b105 {p : Program} {l : Launch} {e : Env} {s : State} {m : MethodId} {args : Array Value} {below : List Frame} {meth : Method} {c : Code} {D : va_G} {cA : Nat → ClassId} {B : Nat} {res : Int × HP} {k6 : HP → Int → Int → Int → Int → Int → Option (Int × HP)} (hk6 : ∀ {ls : Array Slot} {H : Heap} {locs : List Loc} {S : HP} {x0 : Int} {x1 : Int} {x2 : Int} {x4 : Int} {x5 : Int} (hp : e_Pic D cA B S s H) (hS : va_S (e_A B) s.heap H locs) (hl : e_lj [2] ls 9 [(0, e_rv B (x0)), (1, .int (iI (x1))), (2, .long (iL (x2))), (4, .int (iI (x4))), (5, .int (iI (x5)))]) (hsh : k6 S x0 x1 x2 x4 x5 = some res), W p l e ({ frames := 2, cells := 0, slots := 0, locals := 45 } : Room) s m args below meth c H locs 0 0 (MQ below (e_Qi D cA B res.1 res.2) args s 0 0 (e_A B)) (F0 m 6 ls [])) {k53 : HP → Int → Int → Int → Int → Int → Int → Int → Int → Option (Int × HP)} (hk53 : ∀ {ls : Array Slot} {H : Heap} {locs : List Loc} {S : HP} {x0 : Int} {x1 : Int} {x2 : Int} {x4 : Int} {x5 : Int} {x6 : Int} {x7 : Int} {x8 : Int} (hp : e_Pic D cA B S s H) (hS : va_S (e_A B) s.heap H locs) (hl : e_lj [2] ls 9 [(0, e_rv B (x0)), (1, .int (iI (x1))), (2, .long (iL (x2))), (4, .int (iI (x4))), (5, .int (iI (x5))), (6, .int (iI (x6))), (7, .int (iI (x7))), (8, .int (iI (x8)))]) (hsh : k53 S x0 x1 x2 x4 x5 x6 x7 x8 = some res), W p l e ({ frames := 2, cells := 0, slots := 0, locals := 45 } : Room) s m args below meth c H locs 0 0 (MQ below (e_Qi D cA B res.1 res.2) args s 0 0 (e_A B)) (F0 m 53 ls [])) (E : e_En p s m args meth c cX13_mapLike RX13 9 (some .int)) {ls : Array Slot} {H : Heap} {locs : List Loc} {S : HP} {x0 : Int} {x1 : Int} {x2 : Int} {x4 : Int} {x5 : Int} {x6 : Int} {x7 : Int} {x8 : Int} (hp : e_Pic D cA B S s H) (hS : va_S (e_A B) s.heap H locs) (hl : e_lj [2] ls 9 [(0, e_rv B (x0)), (1, .int (iI (x1))), (2, .long (iL (x2))), (4, .int (iI (x4))), (5, .int (iI (x5))), (6, .int (iI (x6))), (7, .int (iI (x7))), (8, .int (iI (x8)))]) (hsh : s13_mapLike_b105 k6 k53 S x0 x1 x2 x4 x5 x6 x7 x8 = some res) : W p l e ({ frames := 2, cells := 0, slots := 0, locals := 45 } : Room) s m args below meth c H locs 0 0 (MQ below (e_Qi D cA B res.1 res.2) args s 0 0 (e_A B)) (F0 m 105 ls []) := by
  obtain ⟨hx, hb, hml, hown, hts, hlk, hrt⟩ := id E
  unfold s13_mapLike_b105 at hsh
  refine e_iincJ (n := 1) (x := x8) (lv' := [(8, .int (iI ((x8 + 1)))), (0, e_rv B (x0)), (1, .int (iI (x1))), (2, .long (iL (x2))), (4, .int (iI (x4))), (5, .int (iI (x5))), (6, .int (iI (x6))), (7, .int (iI (x7)))]) hx hb dX13_mapLike_105 hl (by decide) (k := 7) rfl (by decide) rfl (fun ls hl => ?_)
  refine lv_goto (tgt := 53) hx hb dX13_mapLike_108 (by decide) ?_
  exact hk53 hp hS (hl.sub [1, 2, 3, 4, 5, 6, 7, 0] rfl) hsh
set_option maxRecDepth 100000 in
set_option maxHeartbeats 4000000 in
theorem w13_mapLike_b100 {p : Program} {l : Launch} {e : Env} {s : State} {m : MethodId} {args : Array Value} {below : List Frame} {meth : Method} {c : Code} {D : va_G} {cA : Nat → ClassId} {B : Nat} {res : Int × HP} {k6 : HP → Int → Int → Int → Int → Int → Option (Int × HP)} (hk6 : ∀ {ls : Array Slot} {H : Heap} {locs : List Loc} {S : HP} {x0 : Int} {x1 : Int} {x2 : Int} {x4 : Int} {x5 : Int} (hp : e_Pic D cA B S s H) (hS : va_S (e_A B) s.heap H locs) (hl : e_lj [2] ls 9 [(0, e_rv B (x0)), (1, .int (iI (x1))), (2, .long (iL (x2))), (4, .int (iI (x4))), (5, .int (iI (x5)))]) (hsh : k6 S x0 x1 x2 x4 x5 = some res), W p l e ({ frames := 2, cells := 0, slots := 0, locals := 45 } : Room) s m args below meth c H locs 0 0 (MQ below (e_Qi D cA B res.1 res.2) args s 0 0 (e_A B)) (F0 m 6 ls [])) {k53 : HP → Int → Int → Int → Int → Int → Int → Int → Int → Option (Int × HP)} (hk53 : ∀ {ls : Array Slot} {H : Heap} {locs : List Loc} {S : HP} {x0 : Int} {x1 : Int} {x2 : Int} {x4 : Int} {x5 : Int} {x6 : Int} {x7 : Int} {x8 : Int} (hp : e_Pic D cA B S s H) (hS : va_S (e_A B) s.heap H locs) (hl : e_lj [2] ls 9 [(0, e_rv B (x0)), (1, .int (iI (x1))), (2, .long (iL (x2))), (4, .int (iI (x4))), (5, .int (iI (x5))), (6, .int (iI (x6))), (7, .int (iI (x7))), (8, .int (iI (x8)))]) (hsh : k53 S x0 x1 x2 x4 x5 x6 x7 x8 = some res), W p l e ({ frames := 2, cells := 0, slots := 0, locals := 45 } : Room) s m args below meth c H locs 0 0 (MQ below (e_Qi D cA B res.1 res.2) args s 0 0 (e_A B)) (F0 m 53 ls [])) (E : e_En p s m args meth c cX13_mapLike RX13 9 (some .int)) {ls : Array Slot} {H : Heap} {locs : List Loc} {S : HP} {x0 : Int} {x1 : Int} {x2 : Int} {x4 : Int} {x5 : Int} {x6 : Int} {x8 : Int} {y0 : Int} (hp : e_Pic D cA B S s H) (hS : va_S (e_A B) s.heap H locs) (hl : e_lj [2] ls 9 [(0, e_rv B (x0)), (1, .int (iI (x1))), (2, .long (iL (x2))), (4, .int (iI (x4))), (5, .int (iI (x5))), (6, .int (iI (x6))), (8, .int (iI (x8)))]) (hsh : s13_mapLike_b100 k6 k53 S x0 x1 x2 x4 x5 x6 x8 y0 = some res) : W p l e ({ frames := 2, cells := 0, slots := 0, locals := 45 } : Room) s m args below meth c H locs 0 0 (MQ below (e_Qi D cA B res.1 res.2) args s 0 0 (e_A B)) (F0 m 100 ls [.int (iI (y0))]) := by
  obtain ⟨hx, hb, hml, hown, hts, hlk, hrt⟩ := id E
  unfold s13_mapLike_b100 at hsh
  refine e_istoreJ (lv' := [(7, .int (iI (y0))), (0, e_rv B (x0)), (1, .int (iI (x1))), (2, .long (iL (x2))), (4, .int (iI (x4))), (5, .int (iI (x5))), (6, .int (iI (x6))), (8, .int (iI (x8)))]) hx hb dX13_mapLike_100 hl (by decide) (by decide) rfl (fun ls hl => ?_)
  refine e_iincJ (n := 1) (x := x6) (lv' := [(6, .int (iI ((x6 + 1)))), (7, .int (iI (y0))), (0, e_rv B (x0)), (1, .int (iI (x1))), (2, .long (iL (x2))), (4, .int (iI (x4))), (5, .int (iI (x5))), (8, .int (iI (x8)))]) hx hb dX13_mapLike_102 hl (by decide) (k := 6) rfl (by decide) rfl (fun ls hl => ?_)
  exact w13_mapLike_b105 (hk6 := hk6) (hk53 := hk53) E hp hS (hl.sub [2, 3, 4, 5, 6, 0, 1, 7] rfl) hsh
set_option maxRecDepth 100000 in
set_option maxHeartbeats 4000000 in
theorem w13_mapLike_l53 {p : Program} {l : Launch} {e : Env} {s : State} {m : MethodId} {args : Array Value} {below : List Frame} {meth : Method} {c : Code} {D : va_G} {cA : Nat → ClassId} {B : Nat} {res : Int × HP} {k6 : HP → Int → Int → Int → Int → Int → Option (Int × HP)} (hk6 : ∀ {ls : Array Slot} {H : Heap} {locs : List Loc} {S : HP} {x0 : Int} {x1 : Int} {x2 : Int} {x4 : Int} {x5 : Int} (hp : e_Pic D cA B S s H) (hS : va_S (e_A B) s.heap H locs) (hl : e_lj [2] ls 9 [(0, e_rv B (x0)), (1, .int (iI (x1))), (2, .long (iL (x2))), (4, .int (iI (x4))), (5, .int (iI (x5)))]) (hsh : k6 S x0 x1 x2 x4 x5 = some res), W p l e ({ frames := 2, cells := 0, slots := 0, locals := 45 } : Room) s m args below meth c H locs 0 0 (MQ below (e_Qi D cA B res.1 res.2) args s 0 0 (e_A B)) (F0 m 6 ls [])) (E : e_En p s m args meth c cX13_mapLike RX13 9 (some .int)) : ∀ (f : Nat) {ls : Array Slot} {H : Heap} {locs : List Loc} {S : HP} {x0 : Int} {x1 : Int} {x2 : Int} {x4 : Int} {x5 : Int} {x6 : Int} {x7 : Int} {x8 : Int} (hp : e_Pic D cA B S s H) (hS : va_S (e_A B) s.heap H locs) (hl : e_lj [2] ls 9 [(0, e_rv B (x0)), (1, .int (iI (x1))), (2, .long (iL (x2))), (4, .int (iI (x4))), (5, .int (iI (x5))), (6, .int (iI (x6))), (7, .int (iI (x7))), (8, .int (iI (x8)))]) (hsh : s13_mapLike_l53 k6 f S x0 x1 x2 x4 x5 x6 x7 x8 = some res), W p l e ({ frames := 2, cells := 0, slots := 0, locals := 45 } : Room) s m args below meth c H locs 0 0 (MQ below (e_Qi D cA B res.1 res.2) args s 0 0 (e_A B)) (F0 m 53 ls []) := by
  obtain ⟨hx, hb, hml, hown, hts, hlk, hrt⟩ := id E
  intro f
  induction f with
  | zero => intro ls H locs S x0 x1 x2 x4 x5 x6 x7 x8 hp hS hl hsh; cases hsh
  | succ f ih =>
    intro ls H locs S x0 x1 x2 x4 x5 x6 x7 x8 hp hS hl hsh
    have hk53 : ∀ {ls : Array Slot} {H : Heap} {locs : List Loc} {S : HP} {x0 : Int} {x1 : Int} {x2 : Int} {x4 : Int} {x5 : Int} {x6 : Int} {x7 : Int} {x8 : Int} (hp : e_Pic D cA B S s H) (hS : va_S (e_A B) s.heap H locs) (hl : e_lj [2] ls 9 [(0, e_rv B (x0)), (1, .int (iI (x1))), (2, .long (iL (x2))), (4, .int (iI (x4))), (5, .int (iI (x5))), (6, .int (iI (x6))), (7, .int (iI (x7))), (8, .int (iI (x8)))]) (hsh : (s13_mapLike_l53 k6 f) S x0 x1 x2 x4 x5 x6 x7 x8 = some res), W p l e ({ frames := 2, cells := 0, slots := 0, locals := 45 } : Room) s m args below meth c H locs 0 0 (MQ below (e_Qi D cA B res.1 res.2) args s 0 0 (e_A B)) (F0 m 53 ls []) := ih
    generalize hkk : s13_mapLike_l53 k6 f = k53 at hk53
    rw [s13_mapLike_l53] at hsh
    rw [hkk] at hsh
    try dsimp only at hsh
    refine lv_iload hx hb dX13_mapLike_53 (hl.at 7 rfl) ?_
    refine lv_bipush (v := iI (8)) hx hb dX13_mapLike_55 (by decide +kernel) ?_
    refine e_icmp_ge (tgt := 111) hx hb dX13_mapLike_57 (by decide) (fun c57 => ?_) (fun c57 => ?_)
    · rw [if_pos c57] at hsh
      exact w13_mapLike_b111 (hk6 := hk6) E hp hS (hl.sub [0, 1, 2, 3, 4, 6] rfl) hsh
    · rw [if_neg c57] at hsh
      refine lv_iload hx hb dX13_mapLike_60 (hl.at 6 rfl) ?_
      refine e_if_eq (tgt := 111) hx hb dX13_mapLike_62 (by decide) (fun c62 => ?_) (fun c62 => ?_)
      · rw [if_pos c62] at hsh
        exact w13_mapLike_b111 (hk6 := hk6) E hp hS (hl.sub [0, 1, 2, 3, 4, 6] rfl) hsh
      · rw [if_neg c62] at hsh
        refine lv_lload_n hx hb dX13_mapLike_65 rfl (hl.at 2 rfl) ?_
        refine lv_iload hx hb dX13_mapLike_66 (hl.at 7 rfl) ?_
        obtain ⟨⟨v68, S68⟩, h68, hsh⟩ := Option.bind_eq_some_iff.mp hsh
        have hsh : _ = _ := hsh
        try dsimp only at hsh
        refine e_callS (nL := 9) (mc := 0) (ms := 0) (As := [.long (iL (x2)), .int (iI (x8))]) (rest := []) hx hb hml hown hts hp hS hl.size (c13_keyOf l D cA B S S68 (x2) (x8) v68 h68) rfl rfl kd13_keyOf (kl13_1036) ks13_keyOf ki13 kh13_keyOf ⟨Nat.le_of_ble_eq_true rfl, Nat.le_of_ble_eq_true rfl⟩ rfl (by simp [e_rv_cat, e_int_cat, e_long_cat]) ⟨Nat.le_refl _, Nat.le_refl _⟩ dX13_mapLike_68 rfl (fun H locs hp hS => ?_)
        refine e_if_eq (tgt := 105) hx hb dX13_mapLike_71 (by decide) (fun c71 => ?_) (fun c71 => ?_)
        · rw [if_pos c71] at hsh
          exact w13_mapLike_b105 (hk6 := hk6) (hk53 := hk53) E hp hS (hl.sub [0, 1, 2, 3, 4, 5, 6, 7] rfl) hsh
        · rw [if_neg c71] at hsh
          refine e_aload_n (B := B) (x := x0) hx hb dX13_mapLike_74 rfl (hl.at 0 rfl) ?_
          obtain ⟨v75, h75, hsh⟩ := Option.bind_eq_some_iff.mp hsh
          refine e_getR (k := 116) hx hb hts in_X13 hown hp h75 rfl (by decide) (by decide) rfl (hts _ kf13_172) rfl dX13_mapLike_75 ?_
          refine lv_iconst (v := iI (4)) hx hb dX13_mapLike_78 rfl ?_
          refine lv_iload hx hb dX13_mapLike_79 (hl.at 4 rfl) ?_
          refine e_imul hx hb dX13_mapLike_81 ?_
          refine lv_iload hx hb dX13_mapLike_82 (hl.at 5 rfl) ?_
          refine e_iadd hx hb dX13_mapLike_84 ?_
          obtain ⟨v85, h85, hsh⟩ := Option.bind_eq_some_iff.mp hsh
          refine e_iald hx hb hp h85 dX13_mapLike_85 ?_
          refine lv_lload_n hx hb dX13_mapLike_86 rfl (hl.at 2 rfl) ?_
          refine lv_iload hx hb dX13_mapLike_87 (hl.at 7 rfl) ?_
          obtain ⟨⟨v89, S89⟩, h89, hsh⟩ := Option.bind_eq_some_iff.mp hsh
          have hsh : _ = _ := hsh
          try dsimp only at hsh
          refine e_callS (nL := 9) (mc := 0) (ms := 0) (As := [.long (iL (x2)), .int (iI (x8))]) (rest := [.int (iI (v85))]) hx hb hml hown hts hp hS hl.size (c13_keyOf l D cA B S68 S89 (x2) (x8) v89 h89) rfl rfl kd13_keyOf (kl13_1036) ks13_keyOf ki13 kh13_keyOf ⟨Nat.le_of_ble_eq_true rfl, Nat.le_of_ble_eq_true rfl⟩ rfl (by simp [e_rv_cat, e_int_cat, e_long_cat]) ⟨Nat.le_refl _, Nat.le_refl _⟩ dX13_mapLike_89 rfl (fun H locs hp hS => ?_)
          refine e_icmp_ne (tgt := 99) hx hb dX13_mapLike_92 (by decide) (fun c92 => ?_) (fun c92 => ?_)
          · rw [if_neg c92] at hsh
            refine lv_iconst (v := iI (0)) hx hb dX13_mapLike_99 rfl ?_
            exact w13_mapLike_b100 (hk6 := hk6) (hk53 := hk53) E hp hS (hl.sub [0, 1, 2, 3, 4, 5, 7] rfl) hsh
          · rw [if_pos c92] at hsh
            refine lv_iconst (v := iI (1)) hx hb dX13_mapLike_95 rfl ?_
            refine lv_goto (tgt := 100) hx hb dX13_mapLike_96 (by decide) ?_
            exact w13_mapLike_b100 (hk6 := hk6) (hk53 := hk53) E hp hS (hl.sub [0, 1, 2, 3, 4, 5, 7] rfl) hsh
set_option maxRecDepth 100000 in
set_option maxHeartbeats 4000000 in
theorem w13_mapLike_b48 {p : Program} {l : Launch} {e : Env} {s : State} {m : MethodId} {args : Array Value} {below : List Frame} {meth : Method} {c : Code} {D : va_G} {cA : Nat → ClassId} {B : Nat} {res : Int × HP} {k6 : HP → Int → Int → Int → Int → Int → Option (Int × HP)} (hk6 : ∀ {ls : Array Slot} {H : Heap} {locs : List Loc} {S : HP} {x0 : Int} {x1 : Int} {x2 : Int} {x4 : Int} {x5 : Int} (hp : e_Pic D cA B S s H) (hS : va_S (e_A B) s.heap H locs) (hl : e_lj [2] ls 9 [(0, e_rv B (x0)), (1, .int (iI (x1))), (2, .long (iL (x2))), (4, .int (iI (x4))), (5, .int (iI (x5)))]) (hsh : k6 S x0 x1 x2 x4 x5 = some res), W p l e ({ frames := 2, cells := 0, slots := 0, locals := 45 } : Room) s m args below meth c H locs 0 0 (MQ below (e_Qi D cA B res.1 res.2) args s 0 0 (e_A B)) (F0 m 6 ls [])) (E : e_En p s m args meth c cX13_mapLike RX13 9 (some .int)) {ls : Array Slot} {H : Heap} {locs : List Loc} {S : HP} {x0 : Int} {x1 : Int} {x2 : Int} {x4 : Int} {x5 : Int} {x6 : Int} {y0 : Int} (hp : e_Pic D cA B S s H) (hS : va_S (e_A B) s.heap H locs) (hl : e_lj [2] ls 9 [(0, e_rv B (x0)), (1, .int (iI (x1))), (2, .long (iL (x2))), (4, .int (iI (x4))), (5, .int (iI (x5))), (6, .int (iI (x6)))]) (hsh : s13_mapLike_b48 k6 S x0 x1 x2 x4 x5 x6 y0 = some res) : W p l e ({ frames := 2, cells := 0, slots := 0, locals := 45 } : Room) s m args below meth c H locs 0 0 (MQ below (e_Qi D cA B res.1 res.2) args s 0 0 (e_A B)) (F0 m 48 ls [.int (iI (y0))]) := by
  obtain ⟨hx, hb, hml, hown, hts, hlk, hrt⟩ := id E
  unfold s13_mapLike_b48 at hsh
  refine e_istoreJ (lv' := [(7, .int (iI (y0))), (0, e_rv B (x0)), (1, .int (iI (x1))), (2, .long (iL (x2))), (4, .int (iI (x4))), (5, .int (iI (x5))), (6, .int (iI (x6)))]) hx hb dX13_mapLike_48 hl (by decide) (by decide) rfl (fun ls hl => ?_)
  refine lv_iconst (v := iI (0)) hx hb dX13_mapLike_50 rfl ?_
  refine e_istoreJ (lv' := [(8, .int (iI (0))), (7, .int (iI (y0))), (0, e_rv B (x0)), (1, .int (iI (x1))), (2, .long (iL (x2))), (4, .int (iI (x4))), (5, .int (iI (x5))), (6, .int (iI (x6)))]) hx hb dX13_mapLike_51 hl (by decide) (by decide) rfl (fun ls hl => ?_)
  exact w13_mapLike_l53 (hk6 := hk6) E 1000000 hp hS (hl.sub [2, 3, 4, 5, 6, 7, 1, 0] rfl) hsh
set_option maxRecDepth 100000 in
set_option maxHeartbeats 4000000 in
theorem w13_mapLike_b47 {p : Program} {l : Launch} {e : Env} {s : State} {m : MethodId} {args : Array Value} {below : List Frame} {meth : Method} {c : Code} {D : va_G} {cA : Nat → ClassId} {B : Nat} {res : Int × HP} {k6 : HP → Int → Int → Int → Int → Int → Option (Int × HP)} (hk6 : ∀ {ls : Array Slot} {H : Heap} {locs : List Loc} {S : HP} {x0 : Int} {x1 : Int} {x2 : Int} {x4 : Int} {x5 : Int} (hp : e_Pic D cA B S s H) (hS : va_S (e_A B) s.heap H locs) (hl : e_lj [2] ls 9 [(0, e_rv B (x0)), (1, .int (iI (x1))), (2, .long (iL (x2))), (4, .int (iI (x4))), (5, .int (iI (x5)))]) (hsh : k6 S x0 x1 x2 x4 x5 = some res), W p l e ({ frames := 2, cells := 0, slots := 0, locals := 45 } : Room) s m args below meth c H locs 0 0 (MQ below (e_Qi D cA B res.1 res.2) args s 0 0 (e_A B)) (F0 m 6 ls [])) (E : e_En p s m args meth c cX13_mapLike RX13 9 (some .int)) {ls : Array Slot} {H : Heap} {locs : List Loc} {S : HP} {x0 : Int} {x1 : Int} {x2 : Int} {x4 : Int} {x5 : Int} {x6 : Int} (hp : e_Pic D cA B S s H) (hS : va_S (e_A B) s.heap H locs) (hl : e_lj [2] ls 9 [(0, e_rv B (x0)), (1, .int (iI (x1))), (2, .long (iL (x2))), (4, .int (iI (x4))), (5, .int (iI (x5))), (6, .int (iI (x6)))]) (hsh : s13_mapLike_b47 k6 S x0 x1 x2 x4 x5 x6 = some res) : W p l e ({ frames := 2, cells := 0, slots := 0, locals := 45 } : Room) s m args below meth c H locs 0 0 (MQ below (e_Qi D cA B res.1 res.2) args s 0 0 (e_A B)) (F0 m 47 ls []) := by
  obtain ⟨hx, hb, hml, hown, hts, hlk, hrt⟩ := id E
  unfold s13_mapLike_b47 at hsh
  refine lv_iconst (v := iI (0)) hx hb dX13_mapLike_47 rfl ?_
  exact w13_mapLike_b48 (hk6 := hk6) E hp hS (hl.sub [0, 1, 2, 3, 4, 5] rfl) hsh
set_option maxRecDepth 100000 in
set_option maxHeartbeats 4000000 in
theorem w13_mapLike_l6 {p : Program} {l : Launch} {e : Env} {s : State} {m : MethodId} {args : Array Value} {below : List Frame} {meth : Method} {c : Code} {D : va_G} {cA : Nat → ClassId} {B : Nat} {res : Int × HP} (E : e_En p s m args meth c cX13_mapLike RX13 9 (some .int)) : ∀ (f : Nat) {ls : Array Slot} {H : Heap} {locs : List Loc} {S : HP} {x0 : Int} {x1 : Int} {x2 : Int} {x4 : Int} {x5 : Int} (hp : e_Pic D cA B S s H) (hS : va_S (e_A B) s.heap H locs) (hl : e_lj [2] ls 9 [(0, e_rv B (x0)), (1, .int (iI (x1))), (2, .long (iL (x2))), (4, .int (iI (x4))), (5, .int (iI (x5)))]) (hsh : s13_mapLike_l6 f S x0 x1 x2 x4 x5 = some res), W p l e ({ frames := 2, cells := 0, slots := 0, locals := 45 } : Room) s m args below meth c H locs 0 0 (MQ below (e_Qi D cA B res.1 res.2) args s 0 0 (e_A B)) (F0 m 6 ls []) := by
  obtain ⟨hx, hb, hml, hown, hts, hlk, hrt⟩ := id E
  intro f
  induction f with
  | zero => intro ls H locs S x0 x1 x2 x4 x5 hp hS hl hsh; cases hsh
  | succ f ih =>
    intro ls H locs S x0 x1 x2 x4 x5 hp hS hl hsh
    have hk6 : ∀ {ls : Array Slot} {H : Heap} {locs : List Loc} {S : HP} {x0 : Int} {x1 : Int} {x2 : Int} {x4 : Int} {x5 : Int} (hp : e_Pic D cA B S s H) (hS : va_S (e_A B) s.heap H locs) (hl : e_lj [2] ls 9 [(0, e_rv B (x0)), (1, .int (iI (x1))), (2, .long (iL (x2))), (4, .int (iI (x4))), (5, .int (iI (x5)))]) (hsh : (s13_mapLike_l6 f) S x0 x1 x2 x4 x5 = some res), W p l e ({ frames := 2, cells := 0, slots := 0, locals := 45 } : Room) s m args below meth c H locs 0 0 (MQ below (e_Qi D cA B res.1 res.2) args s 0 0 (e_A B)) (F0 m 6 ls []) := ih
    generalize hkk : s13_mapLike_l6 f = k6 at hk6
    rw [s13_mapLike_l6] at hsh
    rw [hkk] at hsh
    try dsimp only at hsh
    refine lv_iload hx hb dX13_mapLike_6 (hl.at 4 rfl) ?_
    refine e_aload_n (B := B) (x := x0) hx hb dX13_mapLike_8 rfl (hl.at 0 rfl) ?_
    obtain ⟨v9, h9, hsh⟩ := Option.bind_eq_some_iff.mp hsh
    refine e_getI (k := 113) hx hb hts in_X13 hown hp h9 rfl (by decide) (by decide) rfl (hts _ kf13_1006) rfl dX13_mapLike_9 ?_
    refine e_icmp_ge (tgt := 131) hx hb dX13_mapLike_12 (by decide) (fun c12 => ?_) (fun c12 => ?_)
    · rw [if_pos c12] at hsh
      refine lv_iload hx hb dX13_mapLike_131 (hl.at 3 rfl) ?_
      cases hsh
      exact e_iret hx hb hrt hlk hp hS dX13_mapLike_133
    · rw [if_neg c12] at hsh
      refine lv_iconst (v := iI (0)) hx hb dX13_mapLike_15 rfl ?_
      refine e_istoreJ (lv' := [(6, .int (iI (0))), (0, e_rv B (x0)), (1, .int (iI (x1))), (2, .long (iL (x2))), (4, .int (iI (x4))), (5, .int (iI (x5)))]) hx hb dX13_mapLike_16 hl (by decide) (by decide) rfl (fun ls hl => ?_)
      refine e_aload_n (B := B) (x := x0) hx hb dX13_mapLike_18 rfl (hl.at 1 rfl) ?_
      obtain ⟨v19, h19, hsh⟩ := Option.bind_eq_some_iff.mp hsh
      refine e_getR (k := 114) hx hb hts in_X13 hown hp h19 rfl (by decide) (by decide) rfl (hts _ kf13_166) rfl dX13_mapLike_19 ?_
      refine lv_iload hx hb dX13_mapLike_22 (hl.at 5 rfl) ?_
      obtain ⟨v24, h24, hsh⟩ := Option.bind_eq_some_iff.mp hsh
      refine e_iald hx hb hp h24 dX13_mapLike_24 ?_
      refine lv_iload_n hx hb dX13_mapLike_25 rfl (hl.at 2 rfl) ?_
      refine e_icmp_ne (tgt := 47) hx hb dX13_mapLike_26 (by decide) (fun c26 => ?_) (fun c26 => ?_)
      · rw [if_neg c26] at hsh
        exact w13_mapLike_b47 (hk6 := hk6) E hp hS (hl.sub [1, 2, 3, 4, 5, 0] rfl) hsh
      · rw [if_pos c26] at hsh
        refine e_aload_n (B := B) (x := x0) hx hb dX13_mapLike_29 rfl (hl.at 1 rfl) ?_
        obtain ⟨v30, h30, hsh⟩ := Option.bind_eq_some_iff.mp hsh
        refine e_getR (k := 115) hx hb hts in_X13 hown hp h30 rfl (by decide) (by decide) rfl (hts _ kf13_169) rfl dX13_mapLike_30 ?_
        refine lv_iload hx hb dX13_mapLike_33 (hl.at 5 rfl) ?_
        obtain ⟨v35, h35, hsh⟩ := Option.bind_eq_some_iff.mp hsh
        refine e_iald hx hb hp h35 dX13_mapLike_35 ?_
        refine lv_lload_n hx hb dX13_mapLike_36 rfl (hl.at 3 rfl) ?_
        obtain ⟨⟨v37, S37⟩, h37, hsh⟩ := Option.bind_eq_some_iff.mp hsh
        have hsh : _ = _ := hsh
        try dsimp only at hsh
        refine e_callS (nL := 9) (mc := 0) (ms := 0) (As := [.long (iL (x2))]) (rest := [.int (iI (v35))]) hx hb hml hown hts hp hS hl.size (c13_keysIn l D cA B S S37 (x2) v37 h37) rfl rfl kd13_keysIn (kl13_1055) ks13_keysIn ki13 kh13_keysIn ⟨Nat.le_of_ble_eq_true rfl, Nat.le_of_ble_eq_true rfl⟩ rfl (by simp [e_rv_cat, e_int_cat, e_long_cat]) ⟨Nat.le_refl _, Nat.le_refl _⟩ dX13_mapLike_37 rfl (fun H locs hp hS => ?_)
        refine e_icmp_ne (tgt := 47) hx hb dX13_mapLike_40 (by decide) (fun c40 => ?_) (fun c40 => ?_)
        · rw [if_neg c40] at hsh
          exact w13_mapLike_b47 (hk6 := hk6) E hp hS (hl.sub [1, 2, 3, 4, 5, 0] rfl) hsh
        · rw [if_pos c40] at hsh
          refine lv_iconst (v := iI (1)) hx hb dX13_mapLike_43 rfl ?_
          refine lv_goto (tgt := 48) hx hb dX13_mapLike_44 (by decide) ?_
          exact w13_mapLike_b48 (hk6 := hk6) E hp hS (hl.sub [1, 2, 3, 4, 5, 0] rfl) hsh
set_option maxRecDepth 100000 in
set_option maxHeartbeats 4000000 in
theorem c13_mapLike (l : Launch) (D : va_G) (cA : Nat → ClassId) (B : Nat) (S S' : HP) (x0 : Int) (x1 : Int) (x2 : Int) (r : Int) (hsh : s13_mapLike S x0 x1 x2 = some (r, S')) : Met l yX13_mapLike (e_wu yX13_mapLike cX13_mapLike 9 (some .int)) ({ frames := 2, cells := 0, slots := 0, locals := 45 } : Room) (va_Pc [e_rv B (x0), .int (iI (x1)), .long (iL (x2))] (fun U => e_PU D cA B S U)) (e_Qi D cA B r S') 0 0 (e_A B) := by
  refine Met.ofW (cc := cX13_mapLike) (maxL := 9) (ret := (some .int)) (by decide +kernel) rfl ?_
  intro p e s m args below meth c s₁ Bd hml hv
  obtain ⟨rfl, hp⟩ := hv
  have hp : e_Pic D cA B S s s.heap := hp
  have hx := Bd.exec
  have hb := Bd.bytes
  have hrt := Bd.returns
  have hlk := Bd.notSynchronized
  have hown : s.vm.findClass RX13 = some m.cls := findClass_of_methodNamed Bd.named
  have hts : ∀ w ∈ e_tb, w.before ([e_rv B (x0), .int (iI (x1)), .long (iL (x2))] : List Value).toArray s = true := fun w h => atoms_spec (ws := (e_wu yX13_mapLike cX13_mapLike 9 (some .int))) Bd.pre w (List.mem_cons_of_mem _ h)
  have E : e_En p s m ([e_rv B (x0), .int (iI (x1)), .long (iL (x2))] : List Value).toArray meth c cX13_mapLike RX13 9 (some .int) := ⟨hx, hb, hml, hown, hts, hlk, hrt⟩
  have hS : va_S (e_A B) s.heap s.heap [] := va_S.rf
  have hl := e_entryj (K := [2]) (vs := [e_rv B (x0), .int (iI (x1)), .long (iL (x2))]) (cs := [1, 1, 2]) (n := 9) ⟨e_rv_cat _ _, rfl, rfl, trivial⟩ (Nat.le_of_ble_eq_true rfl) (by simp [e_idj, e_rv_cat, e_int_cat, e_long_cat])
  rw [lg_entry_eq]
  generalize (lg_sl [e_rv B (x0), .int (iI (x1)), .long (iL (x2))] ++ List.replicate (9 - (lg_sl [e_rv B (x0), .int (iI (x1)), .long (iL (x2))]).length) Slot.unset).toArray = ls at hl ⊢
  generalize ([e_rv B (x0), .int (iI (x1)), .long (iL (x2))] : List Value).toArray = args at hts E ⊢
  have hl : e_lj [2] ls 9 [(0, e_rv B (x0)), (1, .int (iI (x1))), (2, .long (iL (x2)))] := hl
  have hsh := (gd_some hsh).2
  refine lv_iconst (v := iI (-1)) hx hb dX13_mapLike_0 rfl ?_
  refine e_istoreJ (lv' := [(4, .int (iI ((-1)))), (0, e_rv B (x0)), (1, .int (iI (x1))), (2, .long (iL (x2)))]) hx hb dX13_mapLike_1 hl (by decide) (by decide) rfl (fun ls hl => ?_)
  refine lv_iconst (v := iI (0)) hx hb dX13_mapLike_3 rfl ?_
  refine e_istoreJ (lv' := [(5, .int (iI (0))), (4, .int (iI ((-1)))), (0, e_rv B (x0)), (1, .int (iI (x1))), (2, .long (iL (x2)))]) hx hb dX13_mapLike_4 hl (by decide) (by decide) rfl (fun ls hl => ?_)
  exact w13_mapLike_l6 E 1000000 hp hS (hl.sub [2, 3, 4, 1, 0] rfl) hsh
theorem ok13_unmap {S : HP} {x0 : Int} {x1 : Int} {x2 : Int} {r : Int × HP} (h : s13_unmap S x0 x1 x2 = some r) : 0 ≤ x0 ∧ x0.toNat < e_n S ∧ e_g S x0.toNat = 13 := (gd_some h).1
set_option maxRecDepth 100000 in
set_option maxHeartbeats 4000000 in
theorem w13_unmap_l188 {p : Program} {l : Launch} {e : Env} {s : State} {m : MethodId} {args : Array Value} {below : List Frame} {meth : Method} {c : Code} {D : va_G} {cA : Nat → ClassId} {B : Nat} {res : Int × HP} {k85 : HP → Int → Int → Option (Int × HP)} (hk85 : ∀ {ls : Array Slot} {H : Heap} {locs : List Loc} {S : HP} {x0 : Int} {x6 : Int} (hp : e_Pic D cA B S s H) (hS : va_S (e_A B) s.heap H locs) (hl : e_lj [2] ls 8 [(0, e_rv B (x0)), (6, .int (iI (x6)))]) (hsh : k85 S x0 x6 = some res), W p l e ({ frames := 4, cells := 0, slots := 0, locals := 85 } : Room) s m args below meth c H locs 0 0 (MQ below (e_Qi D cA B res.1 res.2) args s 0 0 (e_A B)) (F0 m 85 ls [])) (E : e_En p s m args meth c cX13_unmap RX13 8 (some .int)) : ∀ (f : Nat) {ls : Array Slot} {H : Heap} {locs : List Loc} {S : HP} {x0 : Int} {x6 : Int} {x7 : Int} (hp : e_Pic D cA B S s H) (hS : va_S (e_A B) s.heap H locs) (hl : e_lj [2] ls 8 [(0, e_rv B (x0)), (6, .int (iI (x6))), (7, .int (iI (x7)))]) (hsh : s13_unmap_l188 k85 f S x0 x6 x7 = some res), W p l e ({ frames := 4, cells := 0, slots := 0, locals := 85 } : Room) s m args below meth c H locs 0 0 (MQ below (e_Qi D cA B res.1 res.2) args s 0 0 (e_A B)) (F0 m 188 ls []) := by
  obtain ⟨hx, hb, hml, hown, hts, hlk, hrt⟩ := id E
  intro f
  induction f with
  | zero => intro ls H locs S x0 x6 x7 hp hS hl hsh; cases hsh
  | succ f ih =>
    intro ls H locs S x0 x6 x7 hp hS hl hsh
    have hk188 : ∀ {ls : Array Slot} {H : Heap} {locs : List Loc} {S : HP} {x0 : Int} {x6 : Int} {x7 : Int} (hp : e_Pic D cA B S s H) (hS : va_S (e_A B) s.heap H locs) (hl : e_lj [2] ls 8 [(0, e_rv B (x0)), (6, .int (iI (x6))), (7, .int (iI (x7)))]) (hsh : (s13_unmap_l188 k85 f) S x0 x6 x7 = some res), W p l e ({ frames := 4, cells := 0, slots := 0, locals := 85 } : Room) s m args below meth c H locs 0 0 (MQ below (e_Qi D cA B res.1 res.2) args s 0 0 (e_A B)) (F0 m 188 ls []) := ih
    generalize hkk : s13_unmap_l188 k85 f = k188 at hk188
    rw [s13_unmap_l188] at hsh
    rw [hkk] at hsh
    try dsimp only at hsh
    refine lv_iload hx hb dX13_unmap_188 (hl.at 2 rfl) ?_
    refine lv_bipush (v := iI (9)) hx hb dX13_unmap_190 (by decide +kernel) ?_
    refine e_icmp_ge (tgt := 229) hx hb dX13_unmap_192 (by decide) (fun c192 => ?_) (fun c192 => ?_)
    · rw [if_pos c192] at hsh
      refine e_iincJ (n := 1) (x := x6) (lv' := [(6, .int (iI ((x6 + 1)))), (0, e_rv B (x0)), (7, .int (iI (x7)))]) hx hb dX13_unmap_229 hl (by decide) (k := 1) rfl (by decide) rfl (fun ls hl => ?_)
      refine lv_goto (tgt := 85) hx hb dX13_unmap_232 (by decide) ?_
      exact hk85 hp hS (hl.sub [1, 0] rfl) hsh
    · rw [if_neg c192] at hsh
      refine e_aload_n (B := B) (x := x0) hx hb dX13_unmap_195 rfl (hl.at 0 rfl) ?_
      obtain ⟨v196, h196, hsh⟩ := Option.bind_eq_some_iff.mp hsh
      refine e_getR (k := 117) hx hb hts in_X13 hown hp h196 rfl (by decide) (by decide) rfl (hts _ kf13_175) rfl dX13_unmap_196 ?_
      refine lv_bipush (v := iI (9)) hx hb dX13_unmap_199 (by decide +kernel) ?_
      refine lv_iload hx hb dX13_unmap_201 (hl.at 1 rfl) ?_
      refine e_imul hx hb dX13_unmap_203 ?_
      refine lv_iload hx hb dX13_unmap_204 (hl.at 2 rfl) ?_
      refine e_iadd hx hb dX13_unmap_206 ?_
      refine e_aload_n (B := B) (x := x0) hx hb dX13_unmap_207 rfl (hl.at 0 rfl) ?_
      obtain ⟨v208, h208, hsh⟩ := Option.bind_eq_some_iff.mp hsh
      refine e_getR (k := 117) hx hb hts in_X13 hown hp h208 rfl (by decide) (by decide) rfl (hts _ kf13_175) rfl dX13_unmap_208 ?_
      refine lv_bipush (v := iI (9)) hx hb dX13_unmap_211 (by decide +kernel) ?_
      refine lv_iload hx hb dX13_unmap_213 (hl.at 1 rfl) ?_
      refine lv_iconst (v := iI (1)) hx hb dX13_unmap_215 rfl ?_
      refine e_iadd hx hb dX13_unmap_216 ?_
      refine e_imul hx hb dX13_unmap_217 ?_
      refine lv_iload hx hb dX13_unmap_218 (hl.at 2 rfl) ?_
      refine e_iadd hx hb dX13_unmap_220 ?_
      obtain ⟨v221, h221, hsh⟩ := Option.bind_eq_some_iff.mp hsh
      refine e_iald hx hb hp h221 dX13_unmap_221 ?_
      obtain ⟨S222, h222, hsh⟩ := Option.bind_eq_some_iff.mp hsh
      refine e_iast hx hb hp hS h222 dX13_unmap_222 (fun H locs hp hS => ?_)
      refine e_iincJ (n := 1) (x := x7) (lv' := [(7, .int (iI ((x7 + 1)))), (0, e_rv B (x0)), (6, .int (iI (x6)))]) hx hb dX13_unmap_223 hl (by decide) (k := 2) rfl (by decide) rfl (fun ls hl => ?_)
      refine lv_goto (tgt := 188) hx hb dX13_unmap_226 (by decide) ?_
      exact hk188 hp hS (hl.sub [1, 2, 0] rfl) hsh
set_option maxRecDepth 100000 in
set_option maxHeartbeats 4000000 in
theorem w13_unmap_l147 {p : Program} {l : Launch} {e : Env} {s : State} {m : MethodId} {args : Array Value} {below : List Frame} {meth : Method} {c : Code} {D : va_G} {cA : Nat → ClassId} {B : Nat} {res : Int × HP} {k85 : HP → Int → Int → Option (Int × HP)} (hk85 : ∀ {ls : Array Slot} {H : Heap} {locs : List Loc} {S : HP} {x0 : Int} {x6 : Int} (hp : e_Pic D cA B S s H) (hS : va_S (e_A B) s.heap H locs) (hl : e_lj [2] ls 8 [(0, e_rv B (x0)), (6, .int (iI (x6)))]) (hsh : k85 S x0 x6 = some res), W p l e ({ frames := 4, cells := 0, slots := 0, locals := 85 } : Room) s m args below meth c H locs 0 0 (MQ below (e_Qi D cA B res.1 res.2) args s 0 0 (e_A B)) (F0 m 85 ls [])) (E : e_En p s m args meth c cX13_unmap RX13 8 (some .int)) : ∀ (f : Nat) {ls : Array Slot} {H : Heap} {locs : List Loc} {S : HP} {x0 : Int} {x6 : Int} {x7 : Int} (hp : e_Pic D cA B S s H) (hS : va_S (e_A B) s.heap H locs) (hl : e_lj [2] ls 8 [(0, e_rv B (x0)), (6, .int (iI (x6))), (7, .int (iI (x7)))]) (hsh : s13_unmap_l147 k85 f S x0 x6 x7 = some res), W p l e ({ frames := 4, cells := 0, slots := 0, locals := 85 } : Room) s m args below meth c H locs 0 0 (MQ below (e_Qi D cA B res.1 res.2) args s 0 0 (e_A B)) (F0 m 147 ls []) := by
  obtain ⟨hx, hb, hml, hown, hts, hlk, hrt⟩ := id E
  intro f
  induction f with
  | zero => intro ls H locs S x0 x6 x7 hp hS hl hsh; cases hsh
  | succ f ih =>
    intro ls H locs S x0 x6 x7 hp hS hl hsh
    have hk147 : ∀ {ls : Array Slot} {H : Heap} {locs : List Loc} {S : HP} {x0 : Int} {x6 : Int} {x7 : Int} (hp : e_Pic D cA B S s H) (hS : va_S (e_A B) s.heap H locs) (hl : e_lj [2] ls 8 [(0, e_rv B (x0)), (6, .int (iI (x6))), (7, .int (iI (x7)))]) (hsh : (s13_unmap_l147 k85 f) S x0 x6 x7 = some res), W p l e ({ frames := 4, cells := 0, slots := 0, locals := 85 } : Room) s m args below meth c H locs 0 0 (MQ below (e_Qi D cA B res.1 res.2) args s 0 0 (e_A B)) (F0 m 147 ls []) := ih
    generalize hkk : s13_unmap_l147 k85 f = k147 at hk147
    rw [s13_unmap_l147] at hsh
    rw [hkk] at hsh
    try dsimp only at hsh
    refine lv_iload hx hb dX13_unmap_147 (hl.at 2 rfl) ?_
    refine lv_iconst (v := iI (4)) hx hb dX13_unmap_149 rfl ?_
    refine e_icmp_ge (tgt := 185) hx hb dX13_unmap_150 (by decide) (fun c150 => ?_) (fun c150 => ?_)
    · rw [if_pos c150] at hsh
      refine lv_iconst (v := iI (0)) hx hb dX13_unmap_185 rfl ?_
      refine e_istoreJ (lv' := [(7, .int (iI (0))), (0, e_rv B (x0)), (6, .int (iI (x6)))]) hx hb dX13_unmap_186 hl (by decide) (by decide) rfl (fun ls hl => ?_)
      exact w13_unmap_l188 (hk85 := hk85) E 1000000 hp hS (hl.sub [1, 2, 0] rfl) hsh
    · rw [if_neg c150] at hsh
      refine e_aload_n (B := B) (x := x0) hx hb dX13_unmap_153 rfl (hl.at 0 rfl) ?_
      obtain ⟨v154, h154, hsh⟩ := Option.bind_eq_some_iff.mp hsh
      refine e_getR (k := 116) hx hb hts in_X13 hown hp h154 rfl (by decide) (by decide) rfl (hts _ kf13_172) rfl dX13_unmap_154 ?_
      refine lv_iconst (v := iI (4)) hx hb dX13_unmap_157 rfl ?_
      refine lv_iload hx hb dX13_unmap_158 (hl.at 1 rfl) ?_
      refine e_imul hx hb dX13_unmap_160 ?_
      refine lv_iload hx hb dX13_unmap_161 (hl.at 2 rfl) ?_
      refine e_iadd hx hb dX13_unmap_163 ?_
      refine e_aload_n (B := B) (x := x0) hx hb dX13_unmap_164 rfl (hl.at 0 rfl) ?_
      obtain ⟨v165, h165, hsh⟩ := Option.bind_eq_some_iff.mp hsh
      refine e_getR (k := 116) hx hb hts in_X13 hown hp h165 rfl (by decide) (by decide) rfl (hts _ kf13_172) rfl dX13_unmap_165 ?_
      refine lv_iconst (v := iI (4)) hx hb dX13_unmap_168 rfl ?_
      refine lv_iload hx hb dX13_unmap_169 (hl.at 1 rfl) ?_
      refine lv_iconst (v := iI (1)) hx hb dX13_unmap_171 rfl ?_
      refine e_iadd hx hb dX13_unmap_172 ?_
      refine e_imul hx hb dX13_unmap_173 ?_
      refine lv_iload hx hb dX13_unmap_174 (hl.at 2 rfl) ?_
      refine e_iadd hx hb dX13_unmap_176 ?_
      obtain ⟨v177, h177, hsh⟩ := Option.bind_eq_some_iff.mp hsh
      refine e_iald hx hb hp h177 dX13_unmap_177 ?_
      obtain ⟨S178, h178, hsh⟩ := Option.bind_eq_some_iff.mp hsh
      refine e_iast hx hb hp hS h178 dX13_unmap_178 (fun H locs hp hS => ?_)
      refine e_iincJ (n := 1) (x := x7) (lv' := [(7, .int (iI ((x7 + 1)))), (0, e_rv B (x0)), (6, .int (iI (x6)))]) hx hb dX13_unmap_179 hl (by decide) (k := 2) rfl (by decide) rfl (fun ls hl => ?_)
      refine lv_goto (tgt := 147) hx hb dX13_unmap_182 (by decide) ?_
      exact hk147 hp hS (hl.sub [1, 2, 0] rfl) hsh
set_option maxRecDepth 100000 in
set_option maxHeartbeats 4000000 in
theorem w13_unmap_l85 {p : Program} {l : Launch} {e : Env} {s : State} {m : MethodId} {args : Array Value} {below : List Frame} {meth : Method} {c : Code} {D : va_G} {cA : Nat → ClassId} {B : Nat} {res : Int × HP} (E : e_En p s m args meth c cX13_unmap RX13 8 (some .int)) : ∀ (f : Nat) {ls : Array Slot} {H : Heap} {locs : List Loc} {S : HP} {x0 : Int} {x6 : Int} (hp : e_Pic D cA B S s H) (hS : va_S (e_A B) s.heap H locs) (hl : e_lj [2] ls 8 [(0, e_rv B (x0)), (6, .int (iI (x6)))]) (hsh : s13_unmap_l85 f S x0 x6 = some res), W p l e ({ frames := 4, cells := 0, slots := 0, locals := 85 } : Room) s m args below meth c H locs 0 0 (MQ below (e_Qi D cA B res.1 res.2) args s 0 0 (e_A B)) (F0 m 85 ls []) := by
  obtain ⟨hx, hb, hml, hown, hts, hlk, hrt⟩ := id E
  intro f
  induction f with
  | zero => intro ls H locs S x0 x6 hp hS hl hsh; cases hsh
  | succ f ih =>
    intro ls H locs S x0 x6 hp hS hl hsh
    have hk85 : ∀ {ls : Array Slot} {H : Heap} {locs : List Loc} {S : HP} {x0 : Int} {x6 : Int} (hp : e_Pic D cA B S s H) (hS : va_S (e_A B) s.heap H locs) (hl : e_lj [2] ls 8 [(0, e_rv B (x0)), (6, .int (iI (x6)))]) (hsh : (s13_unmap_l85 f) S x0 x6 = some res), W p l e ({ frames := 4, cells := 0, slots := 0, locals := 85 } : Room) s m args below meth c H locs 0 0 (MQ below (e_Qi D cA B res.1 res.2) args s 0 0 (e_A B)) (F0 m 85 ls []) := ih
    generalize hkk : s13_unmap_l85 f = k85 at hk85
    rw [s13_unmap_l85] at hsh
    rw [hkk] at hsh
    try dsimp only at hsh
    refine lv_iload hx hb dX13_unmap_85 (hl.at 1 rfl) ?_
    refine lv_iconst (v := iI (1)) hx hb dX13_unmap_87 rfl ?_
    refine e_iadd hx hb dX13_unmap_88 ?_
    refine e_aload_n (B := B) (x := x0) hx hb dX13_unmap_89 rfl (hl.at 0 rfl) ?_
    obtain ⟨v90, h90, hsh⟩ := Option.bind_eq_some_iff.mp hsh
    refine e_getI (k := 113) hx hb hts in_X13 hown hp h90 rfl (by decide) (by decide) rfl (hts _ kf13_1006) rfl dX13_unmap_90 ?_
    refine e_icmp_ge (tgt := 235) hx hb dX13_unmap_93 (by decide) (fun c93 => ?_) (fun c93 => ?_)
    · rw [if_pos c93] at hsh
      refine e_aload_n (B := B) (x := x0) hx hb dX13_unmap_235 rfl (hl.at 0 rfl) ?_
      refine lv_dup hx hb dX13_unmap_236 (e_rv_cat _ _) ?_
      obtain ⟨v237, h237, hsh⟩ := Option.bind_eq_some_iff.mp hsh
      refine e_getI (k := 113) hx hb hts in_X13 hown hp h237 rfl (by decide) (by decide) rfl (hts _ kf13_1006) rfl dX13_unmap_237 ?_
      refine lv_iconst (v := iI (1)) hx hb dX13_unmap_240 rfl ?_
      refine e_isub hx hb dX13_unmap_241 ?_
      obtain ⟨S242, h242, hsh⟩ := Option.bind_eq_some_iff.mp hsh
      refine e_putI (k := 113) hx hb hts in_X13 tyX13 tyX13_ok nmX13 hown hp hS h242 rfl (by decide) (by decide) rfl (hts _ kf13_1006) rfl rfl (by decide +kernel) dX13_unmap_242 (fun H locs hp hS => ?_)
      refine e_aload_n (B := B) (x := x0) hx hb dX13_unmap_245 rfl (hl.at 0 rfl) ?_
      obtain ⟨v246, h246, hsh⟩ := Option.bind_eq_some_iff.mp hsh
      refine e_getI (k := 113) hx hb hts in_X13 hown hp h246 rfl (by decide) (by decide) rfl (hts _ kf13_1006) rfl dX13_unmap_246 ?_
      cases hsh
      exact e_iret hx hb hrt hlk hp hS dX13_unmap_249
    · rw [if_neg c93] at hsh
      refine e_aload_n (B := B) (x := x0) hx hb dX13_unmap_96 rfl (hl.at 0 rfl) ?_
      obtain ⟨v97, h97, hsh⟩ := Option.bind_eq_some_iff.mp hsh
      refine e_getR (k := 114) hx hb hts in_X13 hown hp h97 rfl (by decide) (by decide) rfl (hts _ kf13_166) rfl dX13_unmap_97 ?_
      refine lv_iload hx hb dX13_unmap_100 (hl.at 1 rfl) ?_
      refine e_aload_n (B := B) (x := x0) hx hb dX13_unmap_102 rfl (hl.at 0 rfl) ?_
      obtain ⟨v103, h103, hsh⟩ := Option.bind_eq_some_iff.mp hsh
      refine e_getR (k := 114) hx hb hts in_X13 hown hp h103 rfl (by decide) (by decide) rfl (hts _ kf13_166) rfl dX13_unmap_103 ?_
      refine lv_iload hx hb dX13_unmap_106 (hl.at 1 rfl) ?_
      refine lv_iconst (v := iI (1)) hx hb dX13_unmap_108 rfl ?_
      refine e_iadd hx hb dX13_unmap_109 ?_
      obtain ⟨v110, h110, hsh⟩ := Option.bind_eq_some_iff.mp hsh
      refine e_iald hx hb hp h110 dX13_unmap_110 ?_
      obtain ⟨S111, h111, hsh⟩ := Option.bind_eq_some_iff.mp hsh
      refine e_iast hx hb hp hS h111 dX13_unmap_111 (fun H locs hp hS => ?_)
      refine e_aload_n (B := B) (x := x0) hx hb dX13_unmap_112 rfl (hl.at 0 rfl) ?_
      obtain ⟨v113, h113, hsh⟩ := Option.bind_eq_some_iff.mp hsh
      refine e_getR (k := 115) hx hb hts in_X13 hown hp h113 rfl (by decide) (by decide) rfl (hts _ kf13_169) rfl dX13_unmap_113 ?_
      refine lv_iload hx hb dX13_unmap_116 (hl.at 1 rfl) ?_
      refine e_aload_n (B := B) (x := x0) hx hb dX13_unmap_118 rfl (hl.at 0 rfl) ?_
      obtain ⟨v119, h119, hsh⟩ := Option.bind_eq_some_iff.mp hsh
      refine e_getR (k := 115) hx hb hts in_X13 hown hp h119 rfl (by decide) (by decide) rfl (hts _ kf13_169) rfl dX13_unmap_119 ?_
      refine lv_iload hx hb dX13_unmap_122 (hl.at 1 rfl) ?_
      refine lv_iconst (v := iI (1)) hx hb dX13_unmap_124 rfl ?_
      refine e_iadd hx hb dX13_unmap_125 ?_
      obtain ⟨v126, h126, hsh⟩ := Option.bind_eq_some_iff.mp hsh
      refine e_iald hx hb hp h126 dX13_unmap_126 ?_
      obtain ⟨S127, h127, hsh⟩ := Option.bind_eq_some_iff.mp hsh
      refine e_iast hx hb hp hS h127 dX13_unmap_127 (fun H locs hp hS => ?_)
      refine e_aload_n (B := B) (x := x0) hx hb dX13_unmap_128 rfl (hl.at 0 rfl) ?_
      obtain ⟨v129, h129, hsh⟩ := Option.bind_eq_some_iff.mp hsh
      refine e_getR (k := 118) hx hb hts in_X13 hown hp h129 rfl (by decide) (by decide) rfl (hts _ kf13_178) rfl dX13_unmap_129 ?_
      refine lv_iload hx hb dX13_unmap_132 (hl.at 1 rfl) ?_
      refine e_aload_n (B := B) (x := x0) hx hb dX13_unmap_134 rfl (hl.at 0 rfl) ?_
      obtain ⟨v135, h135, hsh⟩ := Option.bind_eq_some_iff.mp hsh
      refine e_getR (k := 118) hx hb hts in_X13 hown hp h135 rfl (by decide) (by decide) rfl (hts _ kf13_178) rfl dX13_unmap_135 ?_
      refine lv_iload hx hb dX13_unmap_138 (hl.at 1 rfl) ?_
      refine lv_iconst (v := iI (1)) hx hb dX13_unmap_140 rfl ?_
      refine e_iadd hx hb dX13_unmap_141 ?_
      obtain ⟨v142, h142, hsh⟩ := Option.bind_eq_some_iff.mp hsh
      refine e_bald hx hb hp h142 dX13_unmap_142 ?_
      obtain ⟨S143, h143, hsh⟩ := Option.bind_eq_some_iff.mp hsh
      refine e_bast hx hb hp hS h143 dX13_unmap_143 (fun H locs hp hS => ?_)
      refine lv_iconst (v := iI (0)) hx hb dX13_unmap_144 rfl ?_
      refine e_istoreJ (lv' := [(7, .int (iI (0))), (0, e_rv B (x0)), (6, .int (iI (x6)))]) hx hb dX13_unmap_145 hl (by decide) (by decide) rfl (fun ls hl => ?_)
      exact w13_unmap_l147 (hk85 := hk85) E 1000000 hp hS (hl.sub [1, 2, 0] rfl) hsh
set_option maxRecDepth 100000 in
set_option maxHeartbeats 4000000 in
theorem w13_unmap_b73 {p : Program} {l : Launch} {e : Env} {s : State} {m : MethodId} {args : Array Value} {below : List Frame} {meth : Method} {c : Code} {D : va_G} {cA : Nat → ClassId} {B : Nat} {res : Int × HP} (E : e_En p s m args meth c cX13_unmap RX13 8 (some .int)) {ls : Array Slot} {H : Heap} {locs : List Loc} {S : HP} {x0 : Int} {x5 : Int} {y0 : Int} {y1 : Int} (hp : e_Pic D cA B S s H) (hS : va_S (e_A B) s.heap H locs) (hl : e_lj [2] ls 8 [(0, e_rv B (x0)), (5, .int (iI (x5)))]) (hsh : s13_unmap_b73 S x0 x5 y0 y1 = some res) : W p l e ({ frames := 4, cells := 0, slots := 0, locals := 85 } : Room) s m args below meth c H locs 0 0 (MQ below (e_Qi D cA B res.1 res.2) args s 0 0 (e_A B)) (F0 m 73 ls [.int (iI (y1)), e_rv B (y0)]) := by
  obtain ⟨hx, hb, hml, hown, hts, hlk, hrt⟩ := id E
  unfold s13_unmap_b73 at hsh
  obtain ⟨⟨v73, S73⟩, h73, hsh⟩ := Option.bind_eq_some_iff.mp hsh
  have hsh : _ = _ := hsh
  try dsimp only at hsh
  have ok73 := ok13_can h73
  refine e_callI (nL := 8) (mc := 0) (ms := 0) (T := TX13) (N := 126) (As := [.int (iI (y1))]) (rest := []) hx hb hml hown hts hp hS hl.size ok73.1 ok73.2.1 ok73.2.2 rfl (by decide) (c13_can l D cA B S S73 (y0) (y1) v73 h73) rfl rfl kd13_can (kl13_1043) ks13_can kv13_can ki13 kh13_can ⟨Nat.le_of_ble_eq_true rfl, Nat.le_of_ble_eq_true rfl⟩ rfl (by simp [e_rv_cat, e_int_cat, e_long_cat]) ⟨Nat.le_refl _, Nat.le_refl _⟩ dX13_unmap_73 rfl (fun H locs hp hS => ?_)
  refine e_if_ne (tgt := 81) hx hb dX13_unmap_76 (by decide) (fun c76 => ?_) (fun c76 => ?_)
  · rw [if_neg c76] at hsh
    refine lv_iload hx hb dX13_unmap_81 (hl.at 1 rfl) ?_
    refine e_istoreJ (lv' := [(6, .int (iI (x5))), (0, e_rv B (x0)), (5, .int (iI (x5)))]) hx hb dX13_unmap_83 hl (by decide) (by decide) rfl (fun ls hl => ?_)
    exact w13_unmap_l85 E 1000000 hp hS (hl.sub [1, 0] rfl) hsh
  · rw [if_pos c76] at hsh
    refine lv_iconst (v := iI (0)) hx hb dX13_unmap_79 rfl ?_
    cases hsh
    exact e_iret hx hb hrt hlk hp hS dX13_unmap_80
set_option maxRecDepth 100000 in
set_option maxHeartbeats 4000000 in
theorem w13_unmap_b50 {p : Program} {l : Launch} {e : Env} {s : State} {m : MethodId} {args : Array Value} {below : List Frame} {meth : Method} {c : Code} {D : va_G} {cA : Nat → ClassId} {B : Nat} {res : Int × HP} (E : e_En p s m args meth c cX13_unmap RX13 8 (some .int)) {ls : Array Slot} {H : Heap} {locs : List Loc} {S : HP} {x0 : Int} {x4 : Int} {y0 : Int} (hp : e_Pic D cA B S s H) (hS : va_S (e_A B) s.heap H locs) (hl : e_lj [2] ls 8 [(0, e_rv B (x0)), (4, .int (iI (x4)))]) (hsh : s13_unmap_b50 S x0 x4 y0 = some res) : W p l e ({ frames := 4, cells := 0, slots := 0, locals := 85 } : Room) s m args below meth c H locs 0 0 (MQ below (e_Qi D cA B res.1 res.2) args s 0 0 (e_A B)) (F0 m 50 ls [.int (iI (y0))]) := by
  obtain ⟨hx, hb, hml, hown, hts, hlk, hrt⟩ := id E
  unfold s13_unmap_b50 at hsh
  refine e_istoreJ (lv' := [(5, .int (iI (y0))), (0, e_rv B (x0)), (4, .int (iI (x4)))]) hx hb dX13_unmap_50 hl (by decide) (by decide) rfl (fun ls hl => ?_)
  refine e_aload_n (B := B) (x := x0) hx hb dX13_unmap_52 rfl (hl.at 1 rfl) ?_
  refine lv_iload hx hb dX13_unmap_53 (hl.at 2 rfl) ?_
  refine e_if_ne (tgt := 62) hx hb dX13_unmap_55 (by decide) (fun c55 => ?_) (fun c55 => ?_)
  · rw [if_neg c55] at hsh
    refine lv_iload hx hb dX13_unmap_62 (hl.at 0 rfl) ?_
    refine lv_iconst (v := iI (-1)) hx hb dX13_unmap_64 rfl ?_
    refine e_icmp_ne (tgt := 72) hx hb dX13_unmap_65 (by decide) (fun c65 => ?_) (fun c65 => ?_)
    · rw [if_neg c65] at hsh
      refine lv_iconst (v := iI (0)) hx hb dX13_unmap_72 rfl ?_
      exact w13_unmap_b73 E hp hS (hl.sub [1, 0] rfl) hsh
    · rw [if_pos c65] at hsh
      refine lv_iconst (v := iI (2)) hx hb dX13_unmap_68 rfl ?_
      refine lv_goto (tgt := 73) hx hb dX13_unmap_69 (by decide) ?_
      exact w13_unmap_b73 E hp hS (hl.sub [1, 0] rfl) hsh
  · rw [if_pos c55] at hsh
    refine lv_iconst (v := iI (1)) hx hb dX13_unmap_58 rfl ?_
    refine lv_goto (tgt := 73) hx hb dX13_unmap_59 (by decide) ?_
    exact w13_unmap_b73 E hp hS (hl.sub [1, 0] rfl) hsh
set_option maxRecDepth 100000 in
set_option maxHeartbeats 4000000 in
theorem w13_unmap_b33 {p : Program} {l : Launch} {e : Env} {s : State} {m : MethodId} {args : Array Value} {below : List Frame} {meth : Method} {c : Code} {D : va_G} {cA : Nat → ClassId} {B : Nat} {res : Int × HP} (E : e_En p s m args meth c cX13_unmap RX13 8 (some .int)) {ls : Array Slot} {H : Heap} {locs : List Loc} {S : HP} {x0 : Int} {x1 : Int} {x2 : Int} {y0 : Int} (hp : e_Pic D cA B S s H) (hS : va_S (e_A B) s.heap H locs) (hl : e_lj [2] ls 8 [(0, e_rv B (x0)), (1, .int (iI (x1))), (2, .long (iL (x2)))]) (hsh : s13_unmap_b33 S x0 x1 x2 y0 = some res) : W p l e ({ frames := 4, cells := 0, slots := 0, locals := 85 } : Room) s m args below meth c H locs 0 0 (MQ below (e_Qi D cA B res.1 res.2) args s 0 0 (e_A B)) (F0 m 33 ls [.int (iI (y0))]) := by
  obtain ⟨hx, hb, hml, hown, hts, hlk, hrt⟩ := id E
  unfold s13_unmap_b33 at hsh
  refine e_istoreJ (lv' := [(4, .int (iI (y0))), (0, e_rv B (x0)), (1, .int (iI (x1))), (2, .long (iL (x2)))]) hx hb dX13_unmap_33 hl (by decide) (by decide) rfl (fun ls hl => ?_)
  refine lv_iload hx hb dX13_unmap_35 (hl.at 0 rfl) ?_
  refine e_if_eq (tgt := 49) hx hb dX13_unmap_37 (by decide) (fun c37 => ?_) (fun c37 => ?_)
  · rw [if_pos c37] at hsh
    refine lv_iconst (v := iI (-1)) hx hb dX13_unmap_49 rfl ?_
    exact w13_unmap_b50 E hp hS (hl.sub [1, 0] rfl) hsh
  · rw [if_neg c37] at hsh
    refine e_aload_n (B := B) (x := x0) hx hb dX13_unmap_40 rfl (hl.at 1 rfl) ?_
    refine lv_iload_n hx hb dX13_unmap_41 rfl (hl.at 2 rfl) ?_
    refine lv_lload_n hx hb dX13_unmap_42 rfl (hl.at 3 rfl) ?_
    obtain ⟨⟨v43, S43⟩, h43, hsh⟩ := Option.bind_eq_some_iff.mp hsh
    have hsh : _ = _ := hsh
    try dsimp only at hsh
    have ok43 := ok13_mapLike h43
    refine e_callI (nL := 8) (mc := 0) (ms := 0) (T := TX13) (N := 126) (As := [.int (iI (x1)), .long (iL (x2))]) (rest := []) hx hb hml hown hts hp hS hl.size ok43.1 ok43.2.1 ok43.2.2 rfl (by decide) (c13_mapLike l D cA B S S43 (x0) (x1) (x2) v43 h43) rfl rfl kd13_mapLike (kl13_1063) ks13_mapLike kv13_mapLike ki13 kh13_mapLike ⟨Nat.le_of_ble_eq_true rfl, Nat.le_of_ble_eq_true rfl⟩ rfl (by simp [e_rv_cat, e_int_cat, e_long_cat]) ⟨Nat.le_refl _, Nat.le_refl _⟩ dX13_unmap_43 rfl (fun H locs hp hS => ?_)
    refine lv_goto (tgt := 50) hx hb dX13_unmap_46 (by decide) ?_
    exact w13_unmap_b50 E hp hS (hl.sub [1, 0] rfl) hsh
set_option maxRecDepth 100000 in
set_option maxHeartbeats 4000000 in
theorem w13_unmap_b32 {p : Program} {l : Launch} {e : Env} {s : State} {m : MethodId} {args : Array Value} {below : List Frame} {meth : Method} {c : Code} {D : va_G} {cA : Nat → ClassId} {B : Nat} {res : Int × HP} (E : e_En p s m args meth c cX13_unmap RX13 8 (some .int)) {ls : Array Slot} {H : Heap} {locs : List Loc} {S : HP} {x0 : Int} {x1 : Int} {x2 : Int} (hp : e_Pic D cA B S s H) (hS : va_S (e_A B) s.heap H locs) (hl : e_lj [2] ls 8 [(0, e_rv B (x0)), (1, .int (iI (x1))), (2, .long (iL (x2)))]) (hsh : s13_unmap_b32 S x0 x1 x2 = some res) : W p l e ({ frames := 4, cells := 0, slots := 0, locals := 85 } : Room) s m args below meth c H locs 0 0 (MQ below (e_Qi D cA B res.1 res.2) args s 0 0 (e_A B)) (F0 m 32 ls []) := by
  obtain ⟨hx, hb, hml, hown, hts, hlk, hrt⟩ := id E
  unfold s13_unmap_b32 at hsh
  refine lv_iconst (v := iI (0)) hx hb dX13_unmap_32 rfl ?_
  exact w13_unmap_b33 E hp hS (hl.sub [0, 1, 2] rfl) hsh
set_option maxRecDepth 100000 in
set_option maxHeartbeats 4000000 in
theorem c13_unmap (l : Launch) (D : va_G) (cA : Nat → ClassId) (B : Nat) (S S' : HP) (x0 : Int) (x1 : Int) (x2 : Int) (r : Int) (hsh : s13_unmap S x0 x1 x2 = some (r, S')) : Met l yX13_unmap (e_wu yX13_unmap cX13_unmap 8 (some .int)) ({ frames := 4, cells := 0, slots := 0, locals := 85 } : Room) (va_Pc [e_rv B (x0), .int (iI (x1)), .long (iL (x2))] (fun U => e_PU D cA B S U)) (e_Qi D cA B r S') 0 0 (e_A B) := by
  refine Met.ofW (cc := cX13_unmap) (maxL := 8) (ret := (some .int)) (by decide +kernel) rfl ?_
  intro p e s m args below meth c s₁ Bd hml hv
  obtain ⟨rfl, hp⟩ := hv
  have hp : e_Pic D cA B S s s.heap := hp
  have hx := Bd.exec
  have hb := Bd.bytes
  have hrt := Bd.returns
  have hlk := Bd.notSynchronized
  have hown : s.vm.findClass RX13 = some m.cls := findClass_of_methodNamed Bd.named
  have hts : ∀ w ∈ e_tb, w.before ([e_rv B (x0), .int (iI (x1)), .long (iL (x2))] : List Value).toArray s = true := fun w h => atoms_spec (ws := (e_wu yX13_unmap cX13_unmap 8 (some .int))) Bd.pre w (List.mem_cons_of_mem _ h)
  have E : e_En p s m ([e_rv B (x0), .int (iI (x1)), .long (iL (x2))] : List Value).toArray meth c cX13_unmap RX13 8 (some .int) := ⟨hx, hb, hml, hown, hts, hlk, hrt⟩
  have hS : va_S (e_A B) s.heap s.heap [] := va_S.rf
  have hl := e_entryj (K := [2]) (vs := [e_rv B (x0), .int (iI (x1)), .long (iL (x2))]) (cs := [1, 1, 2]) (n := 8) ⟨e_rv_cat _ _, rfl, rfl, trivial⟩ (Nat.le_of_ble_eq_true rfl) (by simp [e_idj, e_rv_cat, e_int_cat, e_long_cat])
  rw [lg_entry_eq]
  generalize (lg_sl [e_rv B (x0), .int (iI (x1)), .long (iL (x2))] ++ List.replicate (8 - (lg_sl [e_rv B (x0), .int (iI (x1)), .long (iL (x2))]).length) Slot.unset).toArray = ls at hl ⊢
  generalize ([e_rv B (x0), .int (iI (x1)), .long (iL (x2))] : List Value).toArray = args at hts E ⊢
  have hl : e_lj [2] ls 8 [(0, e_rv B (x0)), (1, .int (iI (x1))), (2, .long (iL (x2)))] := hl
  have hsh := (gd_some hsh).2
  refine lv_iload_n hx hb dX13_unmap_0 rfl (hl.at 1 rfl) ?_
  refine lv_iconst (v := iI (0)) hx hb dX13_unmap_1 rfl ?_
  refine lv_iconst (v := iI (2)) hx hb dX13_unmap_2 rfl ?_
  obtain ⟨⟨v3, S3⟩, h3, hsh⟩ := Option.bind_eq_some_iff.mp hsh
  have hsh : _ = _ := hsh
  try dsimp only at hsh
  refine e_callS (nL := 8) (mc := 0) (ms := 0) (As := [.int (iI (x1)), .int (iI (0)), .int (iI (2))]) (rest := []) hx hb hml hown hts hp hS hl.size (c13_isIn l D cA B S S3 (x1) (0) (2) v3 h3) rfl rfl kd13_isIn (kl13_198) ks13_isIn ki13 kh13_isIn ⟨Nat.le_of_ble_eq_true rfl, Nat.le_of_ble_eq_true rfl⟩ rfl (by simp [e_rv_cat, e_int_cat, e_long_cat]) ⟨Nat.le_refl _, Nat.le_refl _⟩ dX13_unmap_3 rfl (fun H locs hp hS => ?_)
  refine e_if_eq (tgt := 32) hx hb dX13_unmap_6 (by decide) (fun c6 => ?_) (fun c6 => ?_)
  · rw [if_pos c6] at hsh
    exact w13_unmap_b32 E hp hS (hl.sub [0, 1, 2] rfl) hsh
  · rw [if_neg c6] at hsh
    refine lv_lload_n hx hb dX13_unmap_9 rfl (hl.at 2 rfl) ?_
    obtain ⟨⟨v10, S10⟩, h10, hsh⟩ := Option.bind_eq_some_iff.mp hsh
    have hsh : _ = _ := hsh
    try dsimp only at hsh
    refine e_callS (nL := 8) (mc := 0) (ms := 0) (As := [.long (iL (x2))]) (rest := []) hx hb hml hown hts hp hS hl.size (c13_areKeys l D cA B S3 S10 (x2) v10 h10) rfl rfl kd13_areKeys (kl13_1059) ks13_areKeys ki13 kh13_areKeys ⟨Nat.le_of_ble_eq_true rfl, Nat.le_of_ble_eq_true rfl⟩ rfl (by simp [e_rv_cat, e_int_cat, e_long_cat]) ⟨Nat.le_refl _, Nat.le_refl _⟩ dX13_unmap_10 rfl (fun H locs hp hS => ?_)
    refine e_if_eq (tgt := 32) hx hb dX13_unmap_13 (by decide) (fun c13 => ?_) (fun c13 => ?_)
    · rw [if_pos c13] at hsh
      exact w13_unmap_b32 E hp hS (hl.sub [0, 1, 2] rfl) hsh
    · rw [if_neg c13] at hsh
      refine lv_lload_n hx hb dX13_unmap_16 rfl (hl.at 2 rfl) ?_
      obtain ⟨⟨v17, S17⟩, h17, hsh⟩ := Option.bind_eq_some_iff.mp hsh
      have hsh : _ = _ := hsh
      try dsimp only at hsh
      refine e_callS (nL := 8) (mc := 0) (ms := 0) (As := [.long (iL (x2))]) (rest := []) hx hb hml hown hts hp hS hl.size (c13_keysIn l D cA B S10 S17 (x2) v17 h17) rfl rfl kd13_keysIn (kl13_1055) ks13_keysIn ki13 kh13_keysIn ⟨Nat.le_of_ble_eq_true rfl, Nat.le_of_ble_eq_true rfl⟩ rfl (by simp [e_rv_cat, e_int_cat, e_long_cat]) ⟨Nat.le_refl _, Nat.le_refl _⟩ dX13_unmap_17 rfl (fun H locs hp hS => ?_)
      refine lv_iconst (v := iI (1)) hx hb dX13_unmap_20 rfl ?_
      refine lv_iconst (v := iI (4)) hx hb dX13_unmap_21 rfl ?_
      obtain ⟨⟨v22, S22⟩, h22, hsh⟩ := Option.bind_eq_some_iff.mp hsh
      have hsh : _ = _ := hsh
      try dsimp only at hsh
      refine e_callS (nL := 8) (mc := 0) (ms := 0) (As := [.int (iI (v17)), .int (iI (1)), .int (iI (4))]) (rest := []) hx hb hml hown hts hp hS hl.size (c13_isIn l D cA B S17 S22 (v17) (1) (4) v22 h22) rfl rfl kd13_isIn (kl13_198) ks13_isIn ki13 kh13_isIn ⟨Nat.le_of_ble_eq_true rfl, Nat.le_of_ble_eq_true rfl⟩ rfl (by simp [e_rv_cat, e_int_cat, e_long_cat]) ⟨Nat.le_refl _, Nat.le_refl _⟩ dX13_unmap_22 rfl (fun H locs hp hS => ?_)
      refine e_if_eq (tgt := 32) hx hb dX13_unmap_25 (by decide) (fun c25 => ?_) (fun c25 => ?_)
      · rw [if_pos c25] at hsh
        exact w13_unmap_b32 E hp hS (hl.sub [0, 1, 2] rfl) hsh
      · rw [if_neg c25] at hsh
        refine lv_iconst (v := iI (1)) hx hb dX13_unmap_28 rfl ?_
        refine lv_goto (tgt := 33) hx hb dX13_unmap_29 (by decide) ?_
        exact w13_unmap_b33 E hp hS (hl.sub [0, 1, 2] rfl) hsh
theorem ok13_isLine {S : HP} {x0 : Int} {x1 : Int} {r : Int × HP} (h : s13_isLine S x0 x1 = some r) : 0 ≤ x0 ∧ x0.toNat < e_n S ∧ e_g S x0.toNat = 13 := (gd_some h).1
set_option maxRecDepth 100000 in
set_option maxHeartbeats 4000000 in
theorem c13_isLine (l : Launch) (D : va_G) (cA : Nat → ClassId) (B : Nat) (S S' : HP) (x0 : Int) (x1 : Int) (r : Int) (hsh : s13_isLine S x0 x1 = some (r, S')) : Met l yX13_isLine (e_wu yX13_isLine cX13_isLine 2 (some .boolean)) ({ frames := 1, cells := 0, slots := 0, locals := 22 } : Room) (va_Pc [e_rv B (x0), .int (iI (x1))] (fun U => e_PU D cA B S U)) (e_Qi D cA B r S') 0 0 (e_A B) := by
  refine Met.ofW (cc := cX13_isLine) (maxL := 2) (ret := (some .boolean)) (by decide +kernel) rfl ?_
  intro p e s m args below meth c s₁ Bd hml hv
  obtain ⟨rfl, hp⟩ := hv
  have hp : e_Pic D cA B S s s.heap := hp
  have hx := Bd.exec
  have hb := Bd.bytes
  have hrt := Bd.returns
  have hlk := Bd.notSynchronized
  have hown : s.vm.findClass RX13 = some m.cls := findClass_of_methodNamed Bd.named
  have hts : ∀ w ∈ e_tb, w.before ([e_rv B (x0), .int (iI (x1))] : List Value).toArray s = true := fun w h => atoms_spec (ws := (e_wu yX13_isLine cX13_isLine 2 (some .boolean))) Bd.pre w (List.mem_cons_of_mem _ h)
  have E : e_En p s m ([e_rv B (x0), .int (iI (x1))] : List Value).toArray meth c cX13_isLine RX13 2 (some .boolean) := ⟨hx, hb, hml, hown, hts, hlk, hrt⟩
  have hS : va_S (e_A B) s.heap s.heap [] := va_S.rf
  have hl := e_entry (vs := [e_rv B (x0), .int (iI (x1))]) (n := 2) (Nat.le_of_ble_eq_true rfl) (e_cc (e_rv_cat _ _) (e_cc rfl e_cn))
  rw [lg_entry_eq]
  generalize (lg_sl [e_rv B (x0), .int (iI (x1))] ++ List.replicate (2 - (lg_sl [e_rv B (x0), .int (iI (x1))]).length) Slot.unset).toArray = ls at hl ⊢
  generalize ([e_rv B (x0), .int (iI (x1))] : List Value).toArray = args at hts E ⊢
  have hl : e_lo ls 2 [(0, e_rv B (x0)), (1, .int (iI (x1)))] := hl
  have hsh := (gd_some hsh).2
  refine lv_iload_n hx hb dX13_isLine_0 rfl (hl.at 1 rfl) ?_
  refine lv_iconst (v := iI (0)) hx hb dX13_isLine_1 rfl ?_
  refine e_aload_n (B := B) (x := x0) hx hb dX13_isLine_2 rfl (hl.at 0 rfl) ?_
  obtain ⟨v3, h3, hsh⟩ := Option.bind_eq_some_iff.mp hsh
  refine e_getI (k := 2) hx hb hts in_X13 hown hp h3 rfl (by decide) (by decide) rfl (hts _ kf13_13) rfl dX13_isLine_3 ?_
  refine lv_iconst (v := iI (1)) hx hb dX13_isLine_6 rfl ?_
  refine e_isub hx hb dX13_isLine_7 ?_
  obtain ⟨⟨v8, S8⟩, h8, hsh⟩ := Option.bind_eq_some_iff.mp hsh
  have hsh : _ = _ := hsh
  try dsimp only at hsh
  refine e_callS (nL := 2) (mc := 0) (ms := 0) (As := [.int (iI (x1)), .int (iI (0)), .int (iI ((v3 - 1)))]) (rest := []) hx hb hml hown hts hp hS hl.size (c13_isIn l D cA B S S8 (x1) (0) ((v3 - 1)) v8 h8) rfl rfl kd13_isIn (kl13_198) ks13_isIn ki13 kh13_isIn ⟨Nat.le_of_ble_eq_true rfl, Nat.le_of_ble_eq_true rfl⟩ rfl (by simp [e_rv_cat, e_int_cat, e_long_cat]) ⟨Nat.le_refl _, Nat.le_refl _⟩ dX13_isLine_8 rfl (fun H locs hp hS => ?_)
  obtain ⟨hz, hz1, hz2⟩ := zR_some hsh
  rw [← hz1, ← hz2]
  exact e_zret hx hb hrt hlk hp hS hz dX13_isLine_11
theorem ok13_sign {S : HP} {x0 : Int} {x1 : Int} {x2 : Int} {r : Int × HP} (h : s13_sign S x0 x1 x2 = some r) : 0 ≤ x0 ∧ x0.toNat < e_n S ∧ e_g S x0.toNat = 13 := (gd_some h).1
set_option maxRecDepth 100000 in
set_option maxHeartbeats 4000000 in
theorem w13_sign_b48 {p : Program} {l : Launch} {e : Env} {s : State} {m : MethodId} {args : Array Value} {below : List Frame} {meth : Method} {c : Code} {D : va_G} {cA : Nat → ClassId} {B : Nat} {res : Int × HP} (E : e_En p s m args meth c cX13_sign RX13 3 (some .char)) {ls : Array Slot} {H : Heap} {locs : List Loc} {S : HP} {y0 : Int} (hp : e_Pic D cA B S s H) (hS : va_S (e_A B) s.heap H locs) (hl : e_lo ls 3 []) (hsh : s13_sign_b48 S y0 = some res) : W p l e ({ frames := 2, cells := 0, slots := 0, locals := 43 } : Room) s m args below meth c H locs 0 0 (MQ below (e_Qi D cA B res.1 res.2) args s 0 0 (e_A B)) (F0 m 48 ls [.int (iI (y0))]) := by
  obtain ⟨hx, hb, hml, hown, hts, hlk, hrt⟩ := id E
  unfold s13_sign_b48 at hsh
  obtain ⟨hz, hz1, hz2⟩ := zC_some hsh
  rw [← hz1, ← hz2]
  exact e_cret hx hb hrt hlk hp hS hz dX13_sign_48
set_option maxRecDepth 100000 in
set_option maxHeartbeats 4000000 in
theorem w13_sign_b30 {p : Program} {l : Launch} {e : Env} {s : State} {m : MethodId} {args : Array Value} {below : List Frame} {meth : Method} {c : Code} {D : va_G} {cA : Nat → ClassId} {B : Nat} {res : Int × HP} (E : e_En p s m args meth c cX13_sign RX13 3 (some .char)) {ls : Array Slot} {H : Heap} {locs : List Loc} {S : HP} {x0 : Int} {x1 : Int} {x2 : Int} {y0 : Int} {y1 : Int} (hp : e_Pic D cA B S s H) (hS : va_S (e_A B) s.heap H locs) (hl : e_lo ls 3 [(0, e_rv B (x0)), (1, .int (iI (x1))), (2, .int (iI (x2)))]) (hsh : s13_sign_b30 S x0 x1 x2 y0 y1 = some res) : W p l e ({ frames := 2, cells := 0, slots := 0, locals := 43 } : Room) s m args below meth c H locs 0 0 (MQ below (e_Qi D cA B res.1 res.2) args s 0 0 (e_A B)) (F0 m 30 ls [.int (iI (y1)), e_rv B (y0)]) := by
  obtain ⟨hx, hb, hml, hown, hts, hlk, hrt⟩ := id E
  unfold s13_sign_b30 at hsh
  obtain ⟨⟨v30, S30⟩, h30, hsh⟩ := Option.bind_eq_some_iff.mp hsh
  have hsh : _ = _ := hsh
  try dsimp only at hsh
  have ok30 := ok13_can h30
  refine e_callI (nL := 3) (mc := 0) (ms := 0) (T := TX13) (N := 126) (As := [.int (iI (y1))]) (rest := []) hx hb hml hown hts hp hS hl.size ok30.1 ok30.2.1 ok30.2.2 rfl (by decide) (c13_can l D cA B S S30 (y0) (y1) v30 h30) rfl rfl kd13_can (kl13_1043) ks13_can kv13_can ki13 kh13_can ⟨Nat.le_of_ble_eq_true rfl, Nat.le_of_ble_eq_true rfl⟩ rfl (by simp [e_rv_cat, e_int_cat, e_long_cat]) ⟨Nat.le_refl _, Nat.le_refl _⟩ dX13_sign_30 rfl (fun H locs hp hS => ?_)
  refine e_if_eq (tgt := 46) hx hb dX13_sign_33 (by decide) (fun c33 => ?_) (fun c33 => ?_)
  · rw [if_pos c33] at hsh
    refine lv_bipush (v := iI (32)) hx hb dX13_sign_46 (by decide +kernel) ?_
    exact w13_sign_b48 E hp hS (hl.sub [] rfl) hsh
  · rw [if_neg c33] at hsh
    refine e_aload_n (B := B) (x := x0) hx hb dX13_sign_36 rfl (hl.at 0 rfl) ?_
    refine lv_iload_n hx hb dX13_sign_37 rfl (hl.at 1 rfl) ?_
    refine lv_iload_n hx hb dX13_sign_38 rfl (hl.at 2 rfl) ?_
    obtain ⟨⟨v39, S39⟩, h39, hsh⟩ := Option.bind_eq_some_iff.mp hsh
    have hsh : _ = _ := hsh
    try dsimp only at hsh
    have ok39 := ok13_at h39
    refine e_callI (nL := 3) (mc := 0) (ms := 0) (T := TX13) (N := 126) (As := [.int (iI (x1)), .int (iI (x2))]) (rest := []) hx hb hml hown hts hp hS hl.size ok39.1 ok39.2.1 ok39.2.2 rfl (by decide) (c13_at l D cA B S30 S39 (x0) (x1) (x2) v39 h39) rfl rfl kd13_at (kl13_206) ks13_at kv13_at ki13 kh13_at ⟨Nat.le_of_ble_eq_true rfl, Nat.le_of_ble_eq_true rfl⟩ rfl (by simp [e_rv_cat, e_int_cat, e_long_cat]) ⟨Nat.le_refl _, Nat.le_refl _⟩ dX13_sign_39 rfl (fun H locs hp hS => ?_)
    refine e_i2c hx hb dX13_sign_42 ?_
    refine lv_goto (tgt := 48) hx hb dX13_sign_43 (by decide) ?_
    exact w13_sign_b48 E hp hS (hl.sub [] rfl) hsh
set_option maxRecDepth 100000 in
set_option maxHeartbeats 4000000 in
theorem w13_sign_b29 {p : Program} {l : Launch} {e : Env} {s : State} {m : MethodId} {args : Array Value} {below : List Frame} {meth : Method} {c : Code} {D : va_G} {cA : Nat → ClassId} {B : Nat} {res : Int × HP} (E : e_En p s m args meth c cX13_sign RX13 3 (some .char)) {ls : Array Slot} {H : Heap} {locs : List Loc} {S : HP} {x0 : Int} {x1 : Int} {x2 : Int} {y0 : Int} (hp : e_Pic D cA B S s H) (hS : va_S (e_A B) s.heap H locs) (hl : e_lo ls 3 [(0, e_rv B (x0)), (1, .int (iI (x1))), (2, .int (iI (x2)))]) (hsh : s13_sign_b29 S x0 x1 x2 y0 = some res) : W p l e ({ frames := 2, cells := 0, slots := 0, locals := 43 } : Room) s m args below meth c H locs 0 0 (MQ below (e_Qi D cA B res.1 res.2) args s 0 0 (e_A B)) (F0 m 29 ls [e_rv B (y0)]) := by
  obtain ⟨hx, hb, hml, hown, hts, hlk, hrt⟩ := id E
  unfold s13_sign_b29 at hsh
  refine lv_iconst (v := iI (1)) hx hb dX13_sign_29 rfl ?_
  exact w13_sign_b30 E hp hS (hl.sub [0, 1, 2] rfl) hsh
set_option maxRecDepth 100000 in
set_option maxHeartbeats 4000000 in
theorem c13_sign (l : Launch) (D : va_G) (cA : Nat → ClassId) (B : Nat) (S S' : HP) (x0 : Int) (x1 : Int) (x2 : Int) (r : Int) (hsh : s13_sign S x0 x1 x2 = some (r, S')) : Met l yX13_sign (e_wu yX13_sign cX13_sign 3 (some .char)) ({ frames := 2, cells := 0, slots := 0, locals := 43 } : Room) (va_Pc [e_rv B (x0), .int (iI (x1)), .int (iI (x2))] (fun U => e_PU D cA B S U)) (e_Qi D cA B r S') 0 0 (e_A B) := by
  refine Met.ofW (cc := cX13_sign) (maxL := 3) (ret := (some .char)) (by decide +kernel) rfl ?_
  intro p e s m args below meth c s₁ Bd hml hv
  obtain ⟨rfl, hp⟩ := hv
  have hp : e_Pic D cA B S s s.heap := hp
  have hx := Bd.exec
  have hb := Bd.bytes
  have hrt := Bd.returns
  have hlk := Bd.notSynchronized
  have hown : s.vm.findClass RX13 = some m.cls := findClass_of_methodNamed Bd.named
  have hts : ∀ w ∈ e_tb, w.before ([e_rv B (x0), .int (iI (x1)), .int (iI (x2))] : List Value).toArray s = true := fun w h => atoms_spec (ws := (e_wu yX13_sign cX13_sign 3 (some .char))) Bd.pre w (List.mem_cons_of_mem _ h)
  have E : e_En p s m ([e_rv B (x0), .int (iI (x1)), .int (iI (x2))] : List Value).toArray meth c cX13_sign RX13 3 (some .char) := ⟨hx, hb, hml, hown, hts, hlk, hrt⟩
  have hS : va_S (e_A B) s.heap s.heap [] := va_S.rf
  have hl := e_entry (vs := [e_rv B (x0), .int (iI (x1)), .int (iI (x2))]) (n := 3) (Nat.le_of_ble_eq_true rfl) (e_cc (e_rv_cat _ _) (e_cc rfl (e_cc rfl e_cn)))
  rw [lg_entry_eq]
  generalize (lg_sl [e_rv B (x0), .int (iI (x1)), .int (iI (x2))] ++ List.replicate (3 - (lg_sl [e_rv B (x0), .int (iI (x1)), .int (iI (x2))]).length) Slot.unset).toArray = ls at hl ⊢
  generalize ([e_rv B (x0), .int (iI (x1)), .int (iI (x2))] : List Value).toArray = args at hts E ⊢
  have hl : e_lo ls 3 [(0, e_rv B (x0)), (1, .int (iI (x1))), (2, .int (iI (x2)))] := hl
  have hsh := (gd_some hsh).2
  refine e_aload_n (B := B) (x := x0) hx hb dX13_sign_0 rfl (hl.at 0 rfl) ?_
  refine e_aload_n (B := B) (x := x0) hx hb dX13_sign_1 rfl (hl.at 0 rfl) ?_
  refine lv_iload_n hx hb dX13_sign_2 rfl (hl.at 1 rfl) ?_
  obtain ⟨⟨v3, S3⟩, h3, hsh⟩ := Option.bind_eq_some_iff.mp hsh
  have hsh : _ = _ := hsh
  try dsimp only at hsh
  have ok3 := ok13_isLine h3
  refine e_callI (nL := 3) (mc := 0) (ms := 0) (T := TX13) (N := 126) (As := [.int (iI (x1))]) (rest := [e_rv B (x0)]) hx hb hml hown hts hp hS hl.size ok3.1 ok3.2.1 ok3.2.2 rfl (by decide) (c13_isLine l D cA B S S3 (x0) (x1) v3 h3) rfl rfl kd13_isLine (kl13_1070) ks13_isLine kv13_isLine ki13 kh13_isLine ⟨Nat.le_of_ble_eq_true rfl, Nat.le_of_ble_eq_true rfl⟩ rfl (by simp [e_rv_cat, e_int_cat, e_long_cat]) ⟨Nat.le_refl _, Nat.le_refl _⟩ dX13_sign_3 rfl (fun H locs hp hS => ?_)
  refine e_if_eq (tgt := 29) hx hb dX13_sign_6 (by decide) (fun c6 => ?_) (fun c6 => ?_)
  · rw [if_pos c6] at hsh
    exact w13_sign_b29 E hp hS (hl.sub [0, 1, 2] rfl) hsh
  · rw [if_neg c6] at hsh
    refine lv_iload_n hx hb dX13_sign_9 rfl (hl.at 2 rfl) ?_
    refine lv_iconst (v := iI (0)) hx hb dX13_sign_10 rfl ?_
    refine e_aload_n (B := B) (x := x0) hx hb dX13_sign_11 rfl (hl.at 0 rfl) ?_
    obtain ⟨v12, h12, hsh⟩ := Option.bind_eq_some_iff.mp hsh
    refine e_getR (k := 3) hx hb hts in_X13 hown hp h12 rfl (by decide) (by decide) rfl (hts _ kf13_17) rfl dX13_sign_12 ?_
    refine lv_iload_n hx hb dX13_sign_15 rfl (hl.at 1 rfl) ?_
    obtain ⟨v16, h16, hsh⟩ := Option.bind_eq_some_iff.mp hsh
    refine e_iald hx hb hp h16 dX13_sign_16 ?_
    refine lv_iconst (v := iI (1)) hx hb dX13_sign_17 rfl ?_
    refine e_isub hx hb dX13_sign_18 ?_
    obtain ⟨⟨v19, S19⟩, h19, hsh⟩ := Option.bind_eq_some_iff.mp hsh
    have hsh : _ = _ := hsh
    try dsimp only at hsh
    refine e_callS (nL := 3) (mc := 0) (ms := 0) (As := [.int (iI (x2)), .int (iI (0)), .int (iI ((v16 - 1)))]) (rest := [e_rv B (x0)]) hx hb hml hown hts hp hS hl.size (c13_isIn l D cA B S3 S19 (x2) (0) ((v16 - 1)) v19 h19) rfl rfl kd13_isIn (kl13_198) ks13_isIn ki13 kh13_isIn ⟨Nat.le_of_ble_eq_true rfl, Nat.le_of_ble_eq_true rfl⟩ rfl (by simp [e_rv_cat, e_int_cat, e_long_cat]) ⟨Nat.le_refl _, Nat.le_refl _⟩ dX13_sign_19 rfl (fun H locs hp hS => ?_)
    refine e_if_eq (tgt := 29) hx hb dX13_sign_22 (by decide) (fun c22 => ?_) (fun c22 => ?_)
    · rw [if_pos c22] at hsh
      exact w13_sign_b29 E hp hS (hl.sub [0, 1, 2] rfl) hsh
    · rw [if_neg c22] at hsh
      refine lv_iconst (v := iI (0)) hx hb dX13_sign_25 rfl ?_
      refine lv_goto (tgt := 30) hx hb dX13_sign_26 (by decide) ?_
      exact w13_sign_b30 E hp hS (hl.sub [0, 1, 2] rfl) hsh
set_option maxRecDepth 100000 in
set_option maxHeartbeats 4000000 in
theorem w13_isRegister_b39 {p : Program} {l : Launch} {e : Env} {s : State} {m : MethodId} {args : Array Value} {below : List Frame} {meth : Method} {c : Code} {D : va_G} {cA : Nat → ClassId} {B : Nat} {res : Int × HP} (E : e_En p s m args meth c cX13_isRegister RX13 1 (some .boolean)) {ls : Array Slot} {H : Heap} {locs : List Loc} {S : HP} {y0 : Int} (hp : e_Pic D cA B S s H) (hS : va_S (e_A B) s.heap H locs) (hl : e_lo ls 1 []) (hsh : s13_isRegister_b39 S y0 = some res) : W p l e ({ frames := 1, cells := 0, slots := 0, locals := 22 } : Room) s m args below meth c H locs 0 0 (MQ below (e_Qi D cA B res.1 res.2) args s 0 0 (e_A B)) (F0 m 39 ls [.int (iI (y0))]) := by
  obtain ⟨hx, hb, hml, hown, hts, hlk, hrt⟩ := id E
  unfold s13_isRegister_b39 at hsh
  obtain ⟨hz, hz1, hz2⟩ := zR_some hsh
  rw [← hz1, ← hz2]
  exact e_zret hx hb hrt hlk hp hS hz dX13_isRegister_39
set_option maxRecDepth 100000 in
set_option maxHeartbeats 4000000 in
theorem w13_isRegister_b34 {p : Program} {l : Launch} {e : Env} {s : State} {m : MethodId} {args : Array Value} {below : List Frame} {meth : Method} {c : Code} {D : va_G} {cA : Nat → ClassId} {B : Nat} {res : Int × HP} (E : e_En p s m args meth c cX13_isRegister RX13 1 (some .boolean)) {ls : Array Slot} {H : Heap} {locs : List Loc} {S : HP} (hp : e_Pic D cA B S s H) (hS : va_S (e_A B) s.heap H locs) (hl : e_lo ls 1 []) (hsh : s13_isRegister_b34 S  = some res) : W p l e ({ frames := 1, cells := 0, slots := 0, locals := 22 } : Room) s m args below meth c H locs 0 0 (MQ below (e_Qi D cA B res.1 res.2) args s 0 0 (e_A B)) (F0 m 34 ls []) := by
  obtain ⟨hx, hb, hml, hown, hts, hlk, hrt⟩ := id E
  unfold s13_isRegister_b34 at hsh
  refine lv_iconst (v := iI (1)) hx hb dX13_isRegister_34 rfl ?_
  refine lv_goto (tgt := 39) hx hb dX13_isRegister_35 (by decide) ?_
  exact w13_isRegister_b39 E hp hS (hl.sub [] rfl) hsh
set_option maxRecDepth 100000 in
set_option maxHeartbeats 4000000 in
theorem c13_isRegister (l : Launch) (D : va_G) (cA : Nat → ClassId) (B : Nat) (S S' : HP) (x0 : Int) (r : Int) (hsh : s13_isRegister S x0 = some (r, S')) : Met l yX13_isRegister (e_wu yX13_isRegister cX13_isRegister 1 (some .boolean)) ({ frames := 1, cells := 0, slots := 0, locals := 22 } : Room) (va_Pc [.int (iI (x0))] (fun U => e_PU D cA B S U)) (e_Qi D cA B r S') 0 0 (e_A B) := by
  refine Met.ofW (cc := cX13_isRegister) (maxL := 1) (ret := (some .boolean)) (by decide +kernel) rfl ?_
  intro p e s m args below meth c s₁ Bd hml hv
  obtain ⟨rfl, hp⟩ := hv
  have hp : e_Pic D cA B S s s.heap := hp
  have hx := Bd.exec
  have hb := Bd.bytes
  have hrt := Bd.returns
  have hlk := Bd.notSynchronized
  have hown : s.vm.findClass RX13 = some m.cls := findClass_of_methodNamed Bd.named
  have hts : ∀ w ∈ e_tb, w.before ([.int (iI (x0))] : List Value).toArray s = true := fun w h => atoms_spec (ws := (e_wu yX13_isRegister cX13_isRegister 1 (some .boolean))) Bd.pre w (List.mem_cons_of_mem _ h)
  have E : e_En p s m ([.int (iI (x0))] : List Value).toArray meth c cX13_isRegister RX13 1 (some .boolean) := ⟨hx, hb, hml, hown, hts, hlk, hrt⟩
  have hS : va_S (e_A B) s.heap s.heap [] := va_S.rf
  have hl := e_entry (vs := [.int (iI (x0))]) (n := 1) (Nat.le_of_ble_eq_true rfl) (e_cc rfl e_cn)
  rw [lg_entry_eq]
  generalize (lg_sl [.int (iI (x0))] ++ List.replicate (1 - (lg_sl [.int (iI (x0))]).length) Slot.unset).toArray = ls at hl ⊢
  generalize ([.int (iI (x0))] : List Value).toArray = args at hts E ⊢
  have hl : e_lo ls 1 [(0, .int (iI (x0)))] := hl
  unfold s13_isRegister at hsh
  refine lv_iload_n hx hb dX13_isRegister_0 rfl (hl.at 0 rfl) ?_
  refine lv_bipush (v := iI (97)) hx hb dX13_isRegister_1 (by decide +kernel) ?_
  refine lv_bipush (v := iI (122)) hx hb dX13_isRegister_3 (by decide +kernel) ?_
  obtain ⟨⟨v5, S5⟩, h5, hsh⟩ := Option.bind_eq_some_iff.mp hsh
  have hsh : _ = _ := hsh
  try dsimp only at hsh
  refine e_callS (nL := 1) (mc := 0) (ms := 0) (As := [.int (iI (x0)), .int (iI (97)), .int (iI (122))]) (rest := []) hx hb hml hown hts hp hS hl.size (c13_isIn l D cA B S S5 (x0) (97) (122) v5 h5) rfl rfl kd13_isIn (kl13_198) ks13_isIn ki13 kh13_isIn ⟨Nat.le_of_ble_eq_true rfl, Nat.le_of_ble_eq_true rfl⟩ rfl (by simp [e_rv_cat, e_int_cat, e_long_cat]) ⟨Nat.le_refl _, Nat.le_refl _⟩ dX13_isRegister_5 rfl (fun H locs hp hS => ?_)
  refine e_if_ne (tgt := 34) hx hb dX13_isRegister_8 (by decide) (fun c8 => ?_) (fun c8 => ?_)
  · rw [if_neg c8] at hsh
    exact w13_isRegister_b34 E hp hS (hl.sub [] rfl) hsh
  · rw [if_pos c8] at hsh
    refine lv_iload_n hx hb dX13_isRegister_11 rfl (hl.at 0 rfl) ?_
    refine lv_bipush (v := iI (48)) hx hb dX13_isRegister_12 (by decide +kernel) ?_
    refine lv_bipush (v := iI (57)) hx hb dX13_isRegister_14 (by decide +kernel) ?_
    obtain ⟨⟨v16, S16⟩, h16, hsh⟩ := Option.bind_eq_some_iff.mp hsh
    have hsh : _ = _ := hsh
    try dsimp only at hsh
    refine e_callS (nL := 1) (mc := 0) (ms := 0) (As := [.int (iI (x0)), .int (iI (48)), .int (iI (57))]) (rest := []) hx hb hml hown hts hp hS hl.size (c13_isIn l D cA B S5 S16 (x0) (48) (57) v16 h16) rfl rfl kd13_isIn (kl13_198) ks13_isIn ki13 kh13_isIn ⟨Nat.le_of_ble_eq_true rfl, Nat.le_of_ble_eq_true rfl⟩ rfl (by simp [e_rv_cat, e_int_cat, e_long_cat]) ⟨Nat.le_refl _, Nat.le_refl _⟩ dX13_isRegister_16 rfl (fun H locs hp hS => ?_)
    refine e_if_ne (tgt := 34) hx hb dX13_isRegister_19 (by decide) (fun c19 => ?_) (fun c19 => ?_)
    · rw [if_neg c19] at hsh
      exact w13_isRegister_b34 E hp hS (hl.sub [] rfl) hsh
    · rw [if_pos c19] at hsh
      refine lv_iload_n hx hb dX13_isRegister_22 rfl (hl.at 0 rfl) ?_
      refine lv_bipush (v := iI (45)) hx hb dX13_isRegister_23 (by decide +kernel) ?_
      refine e_icmp_eq (tgt := 34) hx hb dX13_isRegister_25 (by decide) (fun c25 => ?_) (fun c25 => ?_)
      · rw [if_pos c25] at hsh
        exact w13_isRegister_b34 E hp hS (hl.sub [] rfl) hsh
      · rw [if_neg c25] at hsh
        refine lv_iload_n hx hb dX13_isRegister_28 rfl (hl.at 0 rfl) ?_
        refine lv_bipush (v := iI (34)) hx hb dX13_isRegister_29 (by decide +kernel) ?_
        refine e_icmp_ne (tgt := 38) hx hb dX13_isRegister_31 (by decide) (fun c31 => ?_) (fun c31 => ?_)
        · rw [if_neg c31] at hsh
          refine lv_iconst (v := iI (0)) hx hb dX13_isRegister_38 rfl ?_
          exact w13_isRegister_b39 E hp hS (hl.sub [] rfl) hsh
        · rw [if_pos c31] at hsh
          exact w13_isRegister_b34 E hp hS (hl.sub [] rfl) hsh
theorem ok13_registerAt {S : HP} {x0 : Int} {x1 : Int} {x2 : Int} {r : Int × HP} (h : s13_registerAt S x0 x1 x2 = some r) : 0 ≤ x0 ∧ x0.toNat < e_n S ∧ e_g S x0.toNat = 13 := (gd_some h).1
set_option maxRecDepth 100000 in
set_option maxHeartbeats 4000000 in
theorem w13_registerAt_b81 {p : Program} {l : Launch} {e : Env} {s : State} {m : MethodId} {args : Array Value} {below : List Frame} {meth : Method} {c : Code} {D : va_G} {cA : Nat → ClassId} {B : Nat} {res : Int × HP} (E : e_En p s m args meth c cX13_registerAt RX13 5 (some .char)) {ls : Array Slot} {H : Heap} {locs : List Loc} {S : HP} {y0 : Int} (hp : e_Pic D cA B S s H) (hS : va_S (e_A B) s.heap H locs) (hl : e_lo ls 5 []) (hsh : s13_registerAt_b81 S y0 = some res) : W p l e ({ frames := 2, cells := 0, slots := 0, locals := 42 } : Room) s m args below meth c H locs 0 0 (MQ below (e_Qi D cA B res.1 res.2) args s 0 0 (e_A B)) (F0 m 81 ls [.int (iI (y0))]) := by
  obtain ⟨hx, hb, hml, hown, hts, hlk, hrt⟩ := id E
  unfold s13_registerAt_b81 at hsh
  obtain ⟨hz, hz1, hz2⟩ := zC_some hsh
  rw [← hz1, ← hz2]
  exact e_cret hx hb hrt hlk hp hS hz dX13_registerAt_81
set_option maxRecDepth 100000 in
set_option maxHeartbeats 4000000 in
theorem w13_registerAt_b54 {p : Program} {l : Launch} {e : Env} {s : State} {m : MethodId} {args : Array Value} {below : List Frame} {meth : Method} {c : Code} {D : va_G} {cA : Nat → ClassId} {B : Nat} {res : Int × HP} (E : e_En p s m args meth c cX13_registerAt RX13 5 (some .char)) {ls : Array Slot} {H : Heap} {locs : List Loc} {S : HP} {x0 : Int} {x1 : Int} {x2 : Int} {y0 : Int} {y1 : Int} (hp : e_Pic D cA B S s H) (hS : va_S (e_A B) s.heap H locs) (hl : e_lo ls 5 [(0, e_rv B (x0)), (1, .int (iI (x1))), (2, .int (iI (x2)))]) (hsh : s13_registerAt_b54 S x0 x1 x2 y0 y1 = some res) : W p l e ({ frames := 2, cells := 0, slots := 0, locals := 42 } : Room) s m args below meth c H locs 0 0 (MQ below (e_Qi D cA B res.1 res.2) args s 0 0 (e_A B)) (F0 m 54 ls [.int (iI (y1)), e_rv B (y0)]) := by
  obtain ⟨hx, hb, hml, hown, hts, hlk, hrt⟩ := id E
  unfold s13_registerAt_b54 at hsh
  obtain ⟨⟨v54, S54⟩, h54, hsh⟩ := Option.bind_eq_some_iff.mp hsh
  have hsh : _ = _ := hsh
  try dsimp only at hsh
  have ok54 := ok13_can h54
  refine e_callI (nL := 5) (mc := 0) (ms := 0) (T := TX13) (N := 126) (As := [.int (iI (y1))]) (rest := []) hx hb hml hown hts hp hS hl.size ok54.1 ok54.2.1 ok54.2.2 rfl (by decide) (c13_can l D cA B S S54 (y0) (y1) v54 h54) rfl rfl kd13_can (kl13_1043) ks13_can kv13_can ki13 kh13_can ⟨Nat.le_of_ble_eq_true rfl, Nat.le_of_ble_eq_true rfl⟩ rfl (by simp [e_rv_cat, e_int_cat, e_long_cat]) ⟨Nat.le_refl _, Nat.le_refl _⟩ dX13_registerAt_54 rfl (fun H locs hp hS => ?_)
  refine e_if_eq (tgt := 79) hx hb dX13_registerAt_57 (by decide) (fun c57 => ?_) (fun c57 => ?_)
  · rw [if_pos c57] at hsh
    refine lv_bipush (v := iI (32)) hx hb dX13_registerAt_79 (by decide +kernel) ?_
    exact w13_registerAt_b81 E hp hS (hl.sub [] rfl) hsh
  · rw [if_neg c57] at hsh
    refine e_aload_n (B := B) (x := x0) hx hb dX13_registerAt_60 rfl (hl.at 0 rfl) ?_
    obtain ⟨v61, h61, hsh⟩ := Option.bind_eq_some_iff.mp hsh
    refine e_getR (k := 13) hx hb hts in_X13 hown hp h61 rfl (by decide) (by decide) rfl (hts _ kf13_30) rfl dX13_registerAt_61 ?_
    refine lv_sipush (v := iI (3000)) hx hb dX13_registerAt_64 (by decide +kernel) ?_
    refine lv_iload_n hx hb dX13_registerAt_67 rfl (hl.at 1 rfl) ?_
    obtain ⟨⟨v68, S68⟩, h68, hsh⟩ := Option.bind_eq_some_iff.mp hsh
    have hsh : _ = _ := hsh
    try dsimp only at hsh
    refine e_callS (nL := 5) (mc := 0) (ms := 0) (As := [.int (iI (x1))]) (rest := [.int (iI (3000)), e_rv B (v61)]) hx hb hml hown hts hp hS hl.size (c13_registerOf l D cA B S54 S68 (x1) v68 h68) rfl rfl kd13_registerOf (kl13_457) ks13_registerOf ki13 kh13_registerOf ⟨Nat.le_of_ble_eq_true rfl, Nat.le_of_ble_eq_true rfl⟩ rfl (by simp [e_rv_cat, e_int_cat, e_long_cat]) ⟨Nat.le_refl _, Nat.le_refl _⟩ dX13_registerAt_68 rfl (fun H locs hp hS => ?_)
    refine e_imul hx hb dX13_registerAt_71 ?_
    refine lv_iload_n hx hb dX13_registerAt_72 rfl (hl.at 2 rfl) ?_
    refine e_iadd hx hb dX13_registerAt_73 ?_
    obtain ⟨v74, h74, hsh⟩ := Option.bind_eq_some_iff.mp hsh
    refine e_iald hx hb hp h74 dX13_registerAt_74 ?_
    refine e_i2c hx hb dX13_registerAt_75 ?_
    refine lv_goto (tgt := 81) hx hb dX13_registerAt_76 (by decide) ?_
    exact w13_registerAt_b81 E hp hS (hl.sub [] rfl) hsh
set_option maxRecDepth 100000 in
set_option maxHeartbeats 4000000 in
theorem w13_registerAt_b33 {p : Program} {l : Launch} {e : Env} {s : State} {m : MethodId} {args : Array Value} {below : List Frame} {meth : Method} {c : Code} {D : va_G} {cA : Nat → ClassId} {B : Nat} {res : Int × HP} (E : e_En p s m args meth c cX13_registerAt RX13 5 (some .char)) {ls : Array Slot} {H : Heap} {locs : List Loc} {S : HP} {x0 : Int} {x1 : Int} {x2 : Int} {x3 : Int} {y0 : Int} (hp : e_Pic D cA B S s H) (hS : va_S (e_A B) s.heap H locs) (hl : e_lo ls 5 [(0, e_rv B (x0)), (1, .int (iI (x1))), (2, .int (iI (x2))), (3, .int (iI (x3)))]) (hsh : s13_registerAt_b33 S x0 x1 x2 x3 y0 = some res) : W p l e ({ frames := 2, cells := 0, slots := 0, locals := 42 } : Room) s m args below meth c H locs 0 0 (MQ below (e_Qi D cA B res.1 res.2) args s 0 0 (e_A B)) (F0 m 33 ls [.int (iI (y0))]) := by
  obtain ⟨hx, hb, hml, hown, hts, hlk, hrt⟩ := id E
  unfold s13_registerAt_b33 at hsh
  refine e_istore (lv' := [(4, .int (iI (y0))), (0, e_rv B (x0)), (1, .int (iI (x1))), (2, .int (iI (x2))), (3, .int (iI (x3)))]) hx hb dX13_registerAt_33 hl (by decide) rfl (fun ls hl => ?_)
  refine e_aload_n (B := B) (x := x0) hx hb dX13_registerAt_35 rfl (hl.at 1 rfl) ?_
  refine lv_iload_n hx hb dX13_registerAt_36 rfl (hl.at 4 rfl) ?_
  refine e_if_ne (tgt := 44) hx hb dX13_registerAt_37 (by decide) (fun c37 => ?_) (fun c37 => ?_)
  · rw [if_neg c37] at hsh
    refine lv_iload hx hb dX13_registerAt_44 (hl.at 0 rfl) ?_
    refine e_if_eq (tgt := 53) hx hb dX13_registerAt_46 (by decide) (fun c46 => ?_) (fun c46 => ?_)
    · rw [if_pos c46] at hsh
      refine lv_iconst (v := iI (2)) hx hb dX13_registerAt_53 rfl ?_
      exact w13_registerAt_b54 E hp hS (hl.sub [1, 2, 3] rfl) hsh
    · rw [if_neg c46] at hsh
      refine lv_iconst (v := iI (0)) hx hb dX13_registerAt_49 rfl ?_
      refine lv_goto (tgt := 54) hx hb dX13_registerAt_50 (by decide) ?_
      exact w13_registerAt_b54 E hp hS (hl.sub [1, 2, 3] rfl) hsh
  · rw [if_pos c37] at hsh
    refine lv_iconst (v := iI (1)) hx hb dX13_registerAt_40 rfl ?_
    refine lv_goto (tgt := 54) hx hb dX13_registerAt_41 (by decide) ?_
    exact w13_registerAt_b54 E hp hS (hl.sub [1, 2, 3] rfl) hsh
set_option maxRecDepth 100000 in
set_option maxHeartbeats 4000000 in
theorem w13_registerAt_b32 {p : Program} {l : Launch} {e : Env} {s : State} {m : MethodId} {args : Array Value} {below : List Frame} {meth : Method} {c : Code} {D : va_G} {cA : Nat → ClassId} {B : Nat} {res : Int × HP} (E : e_En p s m args meth c cX13_registerAt RX13 5 (some .char)) {ls : Array Slot} {H : Heap} {locs : List Loc} {S : HP} {x0 : Int} {x1 : Int} {x2 : Int} {x3 : Int} (hp : e_Pic D cA B S s H) (hS : va_S (e_A B) s.heap H locs) (hl : e_lo ls 5 [(0, e_rv B (x0)), (1, .int (iI (x1))), (2, .int (iI (x2))), (3, .int (iI (x3)))]) (hsh : s13_registerAt_b32 S x0 x1 x2 x3 = some res) : W p l e ({ frames := 2, cells := 0, slots := 0, locals := 42 } : Room) s m args below meth c H locs 0 0 (MQ below (e_Qi D cA B res.1 res.2) args s 0 0 (e_A B)) (F0 m 32 ls []) := by
  obtain ⟨hx, hb, hml, hown, hts, hlk, hrt⟩ := id E
  unfold s13_registerAt_b32 at hsh
  refine lv_iconst (v := iI (0)) hx hb dX13_registerAt_32 rfl ?_
  exact w13_registerAt_b33 E hp hS (hl.sub [0, 1, 2, 3] rfl) hsh
set_option maxRecDepth 100000 in
set_option maxHeartbeats 4000000 in
theorem c13_registerAt (l : Launch) (D : va_G) (cA : Nat → ClassId) (B : Nat) (S S' : HP) (x0 : Int) (x1 : Int) (x2 : Int) (r : Int) (hsh : s13_registerAt S x0 x1 x2 = some (r, S')) : Met l yX13_registerAt (e_wu yX13_registerAt cX13_registerAt 5 (some .char)) ({ frames := 2, cells := 0, slots := 0, locals := 42 } : Room) (va_Pc [e_rv B (x0), .int (iI (x1)), .int (iI (x2))] (fun U => e_PU D cA B S U)) (e_Qi D cA B r S') 0 0 (e_A B) := by
  refine Met.ofW (cc := cX13_registerAt) (maxL := 5) (ret := (some .char)) (by decide +kernel) rfl ?_
  intro p e s m args below meth c s₁ Bd hml hv
  obtain ⟨rfl, hp⟩ := hv
  have hp : e_Pic D cA B S s s.heap := hp
  have hx := Bd.exec
  have hb := Bd.bytes
  have hrt := Bd.returns
  have hlk := Bd.notSynchronized
  have hown : s.vm.findClass RX13 = some m.cls := findClass_of_methodNamed Bd.named
  have hts : ∀ w ∈ e_tb, w.before ([e_rv B (x0), .int (iI (x1)), .int (iI (x2))] : List Value).toArray s = true := fun w h => atoms_spec (ws := (e_wu yX13_registerAt cX13_registerAt 5 (some .char))) Bd.pre w (List.mem_cons_of_mem _ h)
  have E : e_En p s m ([e_rv B (x0), .int (iI (x1)), .int (iI (x2))] : List Value).toArray meth c cX13_registerAt RX13 5 (some .char) := ⟨hx, hb, hml, hown, hts, hlk, hrt⟩
  have hS : va_S (e_A B) s.heap s.heap [] := va_S.rf
  have hl := e_entry (vs := [e_rv B (x0), .int (iI (x1)), .int (iI (x2))]) (n := 5) (Nat.le_of_ble_eq_true rfl) (e_cc (e_rv_cat _ _) (e_cc rfl (e_cc rfl e_cn)))
  rw [lg_entry_eq]
  generalize (lg_sl [e_rv B (x0), .int (iI (x1)), .int (iI (x2))] ++ List.replicate (5 - (lg_sl [e_rv B (x0), .int (iI (x1)), .int (iI (x2))]).length) Slot.unset).toArray = ls at hl ⊢
  generalize ([e_rv B (x0), .int (iI (x1)), .int (iI (x2))] : List Value).toArray = args at hts E ⊢
  have hl : e_lo ls 5 [(0, e_rv B (x0)), (1, .int (iI (x1))), (2, .int (iI (x2)))] := hl
  have hsh := (gd_some hsh).2
  refine lv_iload_n hx hb dX13_registerAt_0 rfl (hl.at 1 rfl) ?_
  obtain ⟨⟨v1, S1⟩, h1, hsh⟩ := Option.bind_eq_some_iff.mp hsh
  have hsh : _ = _ := hsh
  try dsimp only at hsh
  refine e_callS (nL := 5) (mc := 0) (ms := 0) (As := [.int (iI (x1))]) (rest := []) hx hb hml hown hts hp hS hl.size (c13_isRegister l D cA B S S1 (x1) v1 h1) rfl rfl kd13_isRegister (kl13_1073) ks13_isRegister ki13 kh13_isRegister ⟨Nat.le_of_ble_eq_true rfl, Nat.le_of_ble_eq_true rfl⟩ rfl (by simp [e_rv_cat, e_int_cat, e_long_cat]) ⟨Nat.le_refl _, Nat.le_refl _⟩ dX13_registerAt_1 rfl (fun H locs hp hS => ?_)
  refine e_istore_n (lv' := [(3, .int (iI (v1))), (0, e_rv B (x0)), (1, .int (iI (x1))), (2, .int (iI (x2)))]) hx hb dX13_registerAt_4 rfl hl (by decide) rfl (fun ls hl => ?_)
  refine lv_iload_n hx hb dX13_registerAt_5 rfl (hl.at 0 rfl) ?_
  refine e_if_eq (tgt := 32) hx hb dX13_registerAt_6 (by decide) (fun c6 => ?_) (fun c6 => ?_)
  · rw [if_pos c6] at hsh
    exact w13_registerAt_b32 E hp hS (hl.sub [1, 2, 3, 0] rfl) hsh
  · rw [if_neg c6] at hsh
    refine lv_iload_n hx hb dX13_registerAt_9 rfl (hl.at 3 rfl) ?_
    refine lv_iconst (v := iI (0)) hx hb dX13_registerAt_10 rfl ?_
    refine e_aload_n (B := B) (x := x0) hx hb dX13_registerAt_11 rfl (hl.at 1 rfl) ?_
    obtain ⟨v12, h12, hsh⟩ := Option.bind_eq_some_iff.mp hsh
    refine e_getR (k := 12) hx hb hts in_X13 hown hp h12 rfl (by decide) (by decide) rfl (hts _ kf13_26) rfl dX13_registerAt_12 ?_
    refine lv_iload_n hx hb dX13_registerAt_15 rfl (hl.at 2 rfl) ?_
    obtain ⟨⟨v16, S16⟩, h16, hsh⟩ := Option.bind_eq_some_iff.mp hsh
    have hsh : _ = _ := hsh
    try dsimp only at hsh
    refine e_callS (nL := 5) (mc := 0) (ms := 0) (As := [.int (iI (x1))]) (rest := [e_rv B (v12), .int (iI (0)), .int (iI (x2))]) hx hb hml hown hts hp hS hl.size (c13_registerOf l D cA B S1 S16 (x1) v16 h16) rfl rfl kd13_registerOf (kl13_457) ks13_registerOf ki13 kh13_registerOf ⟨Nat.le_of_ble_eq_true rfl, Nat.le_of_ble_eq_true rfl⟩ rfl (by simp [e_rv_cat, e_int_cat, e_long_cat]) ⟨Nat.le_refl _, Nat.le_refl _⟩ dX13_registerAt_16 rfl (fun H locs hp hS => ?_)
    obtain ⟨v19, h19, hsh⟩ := Option.bind_eq_some_iff.mp hsh
    refine e_iald hx hb hp h19 dX13_registerAt_19 ?_
    refine lv_iconst (v := iI (1)) hx hb dX13_registerAt_20 rfl ?_
    refine e_isub hx hb dX13_registerAt_21 ?_
    obtain ⟨⟨v22, S22⟩, h22, hsh⟩ := Option.bind_eq_some_iff.mp hsh
    have hsh : _ = _ := hsh
    try dsimp only at hsh
    refine e_callS (nL := 5) (mc := 0) (ms := 0) (As := [.int (iI (x2)), .int (iI (0)), .int (iI ((v19 - 1)))]) (rest := []) hx hb hml hown hts hp hS hl.size (c13_isIn l D cA B S16 S22 (x2) (0) ((v19 - 1)) v22 h22) rfl rfl kd13_isIn (kl13_198) ks13_isIn ki13 kh13_isIn ⟨Nat.le_of_ble_eq_true rfl, Nat.le_of_ble_eq_true rfl⟩ rfl (by simp [e_rv_cat, e_int_cat, e_long_cat]) ⟨Nat.le_refl _, Nat.le_refl _⟩ dX13_registerAt_22 rfl (fun H locs hp hS => ?_)
    refine e_if_eq (tgt := 32) hx hb dX13_registerAt_25 (by decide) (fun c25 => ?_) (fun c25 => ?_)
    · rw [if_pos c25] at hsh
      exact w13_registerAt_b32 E hp hS (hl.sub [1, 2, 3, 0] rfl) hsh
    · rw [if_neg c25] at hsh
      refine lv_iconst (v := iI (1)) hx hb dX13_registerAt_28 rfl ?_
      refine lv_goto (tgt := 33) hx hb dX13_registerAt_29 (by decide) ?_
      exact w13_registerAt_b33 E hp hS (hl.sub [1, 2, 3, 0] rfl) hsh
theorem ok3_indexOf {S : HP} {x0 : Int} {x1 : Int} {x2 : Int} {r : Int × HP} (h : s3_indexOf S x0 x1 x2 = some r) : 0 ≤ x0 ∧ x0.toNat < e_n S ∧ e_g S x0.toNat = 3 := (gd_some h).1
set_option maxRecDepth 100000 in
set_option maxHeartbeats 4000000 in
theorem w3_indexOf_b38 {p : Program} {l : Launch} {e : Env} {s : State} {m : MethodId} {args : Array Value} {below : List Frame} {meth : Method} {c : Code} {D : va_G} {cA : Nat → ClassId} {B : Nat} {res : Int × HP} {k3 : HP → Int → Int → Int → Int → Option (Int × HP)} (hk3 : ∀ {ls : Array Slot} {H : Heap} {locs : List Loc} {S : HP} {x0 : Int} {x1 : Int} {x2 : Int} {x4 : Int} (hp : e_Pic D cA B S s H) (hS : va_S (e_A B) s.heap H locs) (hl : e_lj [2] ls 5 [(0, e_rv B (x0)), (1, .int (iI (x1))), (2, .long (iL (x2))), (4, .int (iI (x4)))]) (hsh : k3 S x0 x1 x2 x4 = some res), W p l e ({ frames := 0, cells := 0, slots := 0, locals := 0 } : Room) s m args below meth c H locs 0 0 (MQ below (e_Qi D cA B res.1 res.2) args s 0 0 (e_A B)) (F0 m 3 ls [])) (E : e_En p s m args meth c cX3_indexOf RX3 5 (some .int)) {ls : Array Slot} {H : Heap} {locs : List Loc} {S : HP} {x0 : Int} {x1 : Int} {x2 : Int} {x4 : Int} (hp : e_Pic D cA B S s H) (hS : va_S (e_A B) s.heap H locs) (hl : e_lj [2] ls 5 [(0, e_rv B (x0)), (1, .int (iI (x1))), (2, .long (iL (x2))), (4, .int (iI (x4)))]) (hsh : s3_indexOf_b38 k3 S x0 x1 x2 x4 = some res) : W p l e ({ frames := 0, cells := 0, slots := 0, locals := 0 } : Room) s m args below meth c H locs 0 0 (MQ below (e_Qi D cA B res.1 res.2) args s 0 0 (e_A B)) (F0 m 38 ls []) := by
  obtain ⟨hx, hb, hml, hown, hts, hlk, hrt⟩ := id E
  unfold s3_indexOf_b38 at hsh
  refine e_iincJ (n := 1) (x := x4) (lv' := [(4, .int (iI ((x4 + 1)))), (0, e_rv B (x0)), (1, .int (iI (x1))), (2, .long (iL (x2)))]) hx hb dX3_indexOf_38 hl (by decide) (k := 3) rfl (by decide) rfl (fun ls hl => ?_)
  refine lv_goto (tgt := 3) hx hb dX3_indexOf_41 (by decide) ?_
  exact hk3 hp hS (hl.sub [1, 2, 3, 0] rfl) hsh
set_option maxRecDepth 100000 in
set_option maxHeartbeats 4000000 in
theorem w3_indexOf_l3 {p : Program} {l : Launch} {e : Env} {s : State} {m : MethodId} {args : Array Value} {below : List Frame} {meth : Method} {c : Code} {D : va_G} {cA : Nat → ClassId} {B : Nat} {res : Int × HP} (E : e_En p s m args meth c cX3_indexOf RX3 5 (some .int)) : ∀ (f : Nat) {ls : Array Slot} {H : Heap} {locs : List Loc} {S : HP} {x0 : Int} {x1 : Int} {x2 : Int} {x4 : Int} (hp : e_Pic D cA B S s H) (hS : va_S (e_A B) s.heap H locs) (hl : e_lj [2] ls 5 [(0, e_rv B (x0)), (1, .int (iI (x1))), (2, .long (iL (x2))), (4, .int (iI (x4)))]) (hsh : s3_indexOf_l3 f S x0 x1 x2 x4 = some res), W p l e ({ frames := 0, cells := 0, slots := 0, locals := 0 } : Room) s m args below meth c H locs 0 0 (MQ below (e_Qi D cA B res.1 res.2) args s 0 0 (e_A B)) (F0 m 3 ls []) := by
  obtain ⟨hx, hb, hml, hown, hts, hlk, hrt⟩ := id E
  intro f
  induction f with
  | zero => intro ls H locs S x0 x1 x2 x4 hp hS hl hsh; cases hsh
  | succ f ih =>
    intro ls H locs S x0 x1 x2 x4 hp hS hl hsh
    have hk3 : ∀ {ls : Array Slot} {H : Heap} {locs : List Loc} {S : HP} {x0 : Int} {x1 : Int} {x2 : Int} {x4 : Int} (hp : e_Pic D cA B S s H) (hS : va_S (e_A B) s.heap H locs) (hl : e_lj [2] ls 5 [(0, e_rv B (x0)), (1, .int (iI (x1))), (2, .long (iL (x2))), (4, .int (iI (x4)))]) (hsh : (s3_indexOf_l3 f) S x0 x1 x2 x4 = some res), W p l e ({ frames := 0, cells := 0, slots := 0, locals := 0 } : Room) s m args below meth c H locs 0 0 (MQ below (e_Qi D cA B res.1 res.2) args s 0 0 (e_A B)) (F0 m 3 ls []) := ih
    generalize hkk : s3_indexOf_l3 f = k3 at hk3
    rw [s3_indexOf_l3] at hsh
    rw [hkk] at hsh
    try dsimp only at hsh
    refine lv_iload hx hb dX3_indexOf_3 (hl.at 3 rfl) ?_
    refine e_aload_n (B := B) (x := x0) hx hb dX3_indexOf_5 rfl (hl.at 0 rfl) ?_
    obtain ⟨v6, h6, hsh⟩ := Option.bind_eq_some_iff.mp hsh
    refine e_getI (k := 4) hx hb hts in_X3 hown hp h6 rfl (by decide) (by decide) rfl (hts _ kf3_26) rfl dX3_indexOf_6 ?_
    refine e_icmp_ge (tgt := 44) hx hb dX3_indexOf_9 (by decide) (fun c9 => ?_) (fun c9 => ?_)
    · rw [if_pos c9] at hsh
      refine lv_iconst (v := iI (-1)) hx hb dX3_indexOf_44 rfl ?_
      cases hsh
      exact e_iret hx hb hrt hlk hp hS dX3_indexOf_45
    · rw [if_neg c9] at hsh
      refine e_aload_n (B := B) (x := x0) hx hb dX3_indexOf_12 rfl (hl.at 0 rfl) ?_
      obtain ⟨v13, h13, hsh⟩ := Option.bind_eq_some_iff.mp hsh
      refine e_getR (k := 0) hx hb hts in_X3 hown hp h13 rfl (by decide) (by decide) rfl (hts _ kf3_11) rfl dX3_indexOf_13 ?_
      refine lv_iload hx hb dX3_indexOf_16 (hl.at 3 rfl) ?_
      obtain ⟨v18, h18, hsh⟩ := Option.bind_eq_some_iff.mp hsh
      refine e_iald hx hb hp h18 dX3_indexOf_18 ?_
      refine lv_iload_n hx hb dX3_indexOf_19 rfl (hl.at 1 rfl) ?_
      refine e_icmp_ne (tgt := 38) hx hb dX3_indexOf_20 (by decide) (fun c20 => ?_) (fun c20 => ?_)
      · rw [if_neg c20] at hsh
        exact w3_indexOf_b38 (hk3 := hk3) E hp hS (hl.sub [0, 1, 2, 3] rfl) hsh
      · rw [if_pos c20] at hsh
        refine e_aload_n (B := B) (x := x0) hx hb dX3_indexOf_23 rfl (hl.at 0 rfl) ?_
        obtain ⟨v24, h24, hsh⟩ := Option.bind_eq_some_iff.mp hsh
        refine e_getR (k := 1) hx hb hts in_X3 hown hp h24 rfl (by decide) (by decide) rfl (hts _ kf3_15) rfl dX3_indexOf_24 ?_
        refine lv_iload hx hb dX3_indexOf_27 (hl.at 3 rfl) ?_
        obtain ⟨v29, h29, hsh⟩ := Option.bind_eq_some_iff.mp hsh
        refine e_lald hx hb hp h29 dX3_indexOf_29 ?_
        refine lv_lload_n hx hb dX3_indexOf_30 rfl (hl.at 2 rfl) ?_
        refine e_lcmp hx hb dX3_indexOf_31 ?_
        refine e_if_ne (tgt := 38) hx hb dX3_indexOf_32 (by decide) (fun c32 => ?_) (fun c32 => ?_)
        · rw [if_neg c32] at hsh
          exact w3_indexOf_b38 (hk3 := hk3) E hp hS (hl.sub [0, 1, 2, 3] rfl) hsh
        · rw [if_pos c32] at hsh
          refine lv_iload hx hb dX3_indexOf_35 (hl.at 3 rfl) ?_
          cases hsh
          exact e_iret hx hb hrt hlk hp hS dX3_indexOf_37
set_option maxRecDepth 100000 in
set_option maxHeartbeats 4000000 in
theorem c3_indexOf (l : Launch) (D : va_G) (cA : Nat → ClassId) (B : Nat) (S S' : HP) (x0 : Int) (x1 : Int) (x2 : Int) (r : Int) (hsh : s3_indexOf S x0 x1 x2 = some (r, S')) : Met l yX3_indexOf (e_wu yX3_indexOf cX3_indexOf 5 (some .int)) ({ frames := 0, cells := 0, slots := 0, locals := 0 } : Room) (va_Pc [e_rv B (x0), .int (iI (x1)), .long (iL (x2))] (fun U => e_PU D cA B S U)) (e_Qi D cA B r S') 0 0 (e_A B) := by
  refine Met.ofW (cc := cX3_indexOf) (maxL := 5) (ret := (some .int)) (by decide +kernel) rfl ?_
  intro p e s m args below meth c s₁ Bd hml hv
  obtain ⟨rfl, hp⟩ := hv
  have hp : e_Pic D cA B S s s.heap := hp
  have hx := Bd.exec
  have hb := Bd.bytes
  have hrt := Bd.returns
  have hlk := Bd.notSynchronized
  have hown : s.vm.findClass RX3 = some m.cls := findClass_of_methodNamed Bd.named
  have hts : ∀ w ∈ e_tb, w.before ([e_rv B (x0), .int (iI (x1)), .long (iL (x2))] : List Value).toArray s = true := fun w h => atoms_spec (ws := (e_wu yX3_indexOf cX3_indexOf 5 (some .int))) Bd.pre w (List.mem_cons_of_mem _ h)
  have E : e_En p s m ([e_rv B (x0), .int (iI (x1)), .long (iL (x2))] : List Value).toArray meth c cX3_indexOf RX3 5 (some .int) := ⟨hx, hb, hml, hown, hts, hlk, hrt⟩
  have hS : va_S (e_A B) s.heap s.heap [] := va_S.rf
  have hl := e_entryj (K := [2]) (vs := [e_rv B (x0), .int (iI (x1)), .long (iL (x2))]) (cs := [1, 1, 2]) (n := 5) ⟨e_rv_cat _ _, rfl, rfl, trivial⟩ (Nat.le_of_ble_eq_true rfl) (by simp [e_idj, e_rv_cat, e_int_cat, e_long_cat])
  rw [lg_entry_eq]
  generalize (lg_sl [e_rv B (x0), .int (iI (x1)), .long (iL (x2))] ++ List.replicate (5 - (lg_sl [e_rv B (x0), .int (iI (x1)), .long (iL (x2))]).length) Slot.unset).toArray = ls at hl ⊢
  generalize ([e_rv B (x0), .int (iI (x1)), .long (iL (x2))] : List Value).toArray = args at hts E ⊢
  have hl : e_lj [2] ls 5 [(0, e_rv B (x0)), (1, .int (iI (x1))), (2, .long (iL (x2)))] := hl
  have hsh := (gd_some hsh).2
  refine lv_iconst (v := iI (0)) hx hb dX3_indexOf_0 rfl ?_
  refine e_istoreJ (lv' := [(4, .int (iI (0))), (0, e_rv B (x0)), (1, .int (iI (x1))), (2, .long (iL (x2)))]) hx hb dX3_indexOf_1 hl (by decide) (by decide) rfl (fun ls hl => ?_)
  exact w3_indexOf_l3 E 1000000 hp hS (hl.sub [1, 2, 3, 0] rfl) hsh
theorem ok3_begins {S : HP} {x0 : Int} {x1 : Int} {x3 : Int} {r : Int × HP} (h : s3_begins S x0 x1 x3 = some r) : 0 ≤ x0 ∧ x0.toNat < e_n S ∧ e_g S x0.toNat = 3 := (gd_some h).1
set_option maxRecDepth 100000 in
set_option maxHeartbeats 4000000 in
theorem w3_begins_b34 {p : Program} {l : Launch} {e : Env} {s : State} {m : MethodId} {args : Array Value} {below : List Frame} {meth : Method} {c : Code} {D : va_G} {cA : Nat → ClassId} {B : Nat} {res : Int × HP} (E : e_En p s m args meth c cX3_begins RX3 5 (some .boolean)) {ls : Array Slot} {H : Heap} {locs : List Loc} {S : HP} (hp : e_Pic D cA B S s H) (hS : va_S (e_A B) s.heap H locs) (hl : e_lj [1] ls 5 []) (hsh : s3_begins_b34 S  = some res) : W p l e ({ frames := 1, cells := 0, slots := 0, locals := 22 } : Room) s m args below meth c H locs 0 0 (MQ below (e_Qi D cA B res.1 res.2) args s 0 0 (e_A B)) (F0 m 34 ls []) := by
  obtain ⟨hx, hb, hml, hown, hts, hlk, hrt⟩ := id E
  unfold s3_begins_b34 at hsh
  refine lv_iconst (v := iI (0)) hx hb dX3_begins_34 rfl ?_
  obtain ⟨hz, hz1, hz2⟩ := zR_some hsh
  rw [← hz1, ← hz2]
  exact e_zret hx hb hrt hlk hp hS hz dX3_begins_35
set_option maxRecDepth 100000 in
set_option maxHeartbeats 4000000 in
theorem w3_begins_l3 {p : Program} {l : Launch} {e : Env} {s : State} {m : MethodId} {args : Array Value} {below : List Frame} {meth : Method} {c : Code} {D : va_G} {cA : Nat → ClassId} {B : Nat} {res : Int × HP} (E : e_En p s m args meth c cX3_begins RX3 5 (some .boolean)) : ∀ (f : Nat) {ls : Array Slot} {H : Heap} {locs : List Loc} {S : HP} {x0 : Int} {x1 : Int} {x3 : Int} {x4 : Int} (hp : e_Pic D cA B S s H) (hS : va_S (e_A B) s.heap H locs) (hl : e_lj [1] ls 5 [(0, e_rv B (x0)), (1, .long (iL (x1))), (3, .int (iI (x3))), (4, .int (iI (x4)))]) (hsh : s3_begins_l3 f S x0 x1 x3 x4 = some res), W p l e ({ frames := 1, cells := 0, slots := 0, locals := 22 } : Room) s m args below meth c H locs 0 0 (MQ below (e_Qi D cA B res.1 res.2) args s 0 0 (e_A B)) (F0 m 3 ls []) := by
  obtain ⟨hx, hb, hml, hown, hts, hlk, hrt⟩ := id E
  intro f
  induction f with
  | zero => intro ls H locs S x0 x1 x3 x4 hp hS hl hsh; cases hsh
  | succ f ih =>
    intro ls H locs S x0 x1 x3 x4 hp hS hl hsh
    have hk3 : ∀ {ls : Array Slot} {H : Heap} {locs : List Loc} {S : HP} {x0 : Int} {x1 : Int} {x3 : Int} {x4 : Int} (hp : e_Pic D cA B S s H) (hS : va_S (e_A B) s.heap H locs) (hl : e_lj [1] ls 5 [(0, e_rv B (x0)), (1, .long (iL (x1))), (3, .int (iI (x3))), (4, .int (iI (x4)))]) (hsh : (s3_begins_l3 f) S x0 x1 x3 x4 = some res), W p l e ({ frames := 1, cells := 0, slots := 0, locals := 22 } : Room) s m args below meth c H locs 0 0 (MQ below (e_Qi D cA B res.1 res.2) args s 0 0 (e_A B)) (F0 m 3 ls []) := ih
    generalize hkk : s3_begins_l3 f = k3 at hk3
    rw [s3_begins_l3] at hsh
    rw [hkk] at hsh
    try dsimp only at hsh
    refine lv_iload hx hb dX3_begins_3 (hl.at 3 rfl) ?_
    refine lv_iload_n hx hb dX3_begins_5 rfl (hl.at 2 rfl) ?_
    refine e_icmp_ge (tgt := 42) hx hb dX3_begins_6 (by decide) (fun c6 => ?_) (fun c6 => ?_)
    · rw [if_pos c6] at hsh
      refine lv_iconst (v := iI (1)) hx hb dX3_begins_42 rfl ?_
      obtain ⟨hz, hz1, hz2⟩ := zR_some hsh
      rw [← hz1, ← hz2]
      exact e_zret hx hb hrt hlk hp hS hz dX3_begins_43
    · rw [if_neg c6] at hsh
      refine lv_iload hx hb dX3_begins_9 (hl.at 3 rfl) ?_
      refine e_aload_n (B := B) (x := x0) hx hb dX3_begins_11 rfl (hl.at 0 rfl) ?_
      obtain ⟨v12, h12, hsh⟩ := Option.bind_eq_some_iff.mp hsh
      refine e_getI (k := 7) hx hb hts in_X3 hown hp h12 rfl (by decide) (by decide) rfl (hts _ kf3_36) rfl dX3_begins_12 ?_
      refine e_icmp_ge (tgt := 34) hx hb dX3_begins_15 (by decide) (fun c15 => ?_) (fun c15 => ?_)
      · rw [if_pos c15] at hsh
        exact w3_begins_b34 E hp hS (hl.sub [] rfl) hsh
      · rw [if_neg c15] at hsh
        refine e_aload_n (B := B) (x := x0) hx hb dX3_begins_18 rfl (hl.at 0 rfl) ?_
        obtain ⟨v19, h19, hsh⟩ := Option.bind_eq_some_iff.mp hsh
        refine e_getR (k := 5) hx hb hts in_X3 hown hp h19 rfl (by decide) (by decide) rfl (hts _ kf3_30) rfl dX3_begins_19 ?_
        refine lv_iload hx hb dX3_begins_22 (hl.at 3 rfl) ?_
        obtain ⟨v24, h24, hsh⟩ := Option.bind_eq_some_iff.mp hsh
        refine e_iald hx hb hp h24 dX3_begins_24 ?_
        refine lv_lload_n hx hb dX3_begins_25 rfl (hl.at 1 rfl) ?_
        refine lv_iload hx hb dX3_begins_26 (hl.at 3 rfl) ?_
        obtain ⟨⟨v28, S28⟩, h28, hsh⟩ := Option.bind_eq_some_iff.mp hsh
        have hsh : _ = _ := hsh
        try dsimp only at hsh
        refine e_callSIN (nL := 5) (mc := 0) (ms := 0) (As := [.long (iL (x1)), .int (iI (x4))]) (rest := [.int (iI (v24))]) hx hb hml hown hts hp hS hl.size (c12_byteOf l D cA B S S28 (x1) (x4) v28 h28) rfl rfl kd12_byteOf (kl3_98) ks12_byteOf ki12 kh12_byteOf ⟨Nat.le_of_ble_eq_true rfl, Nat.le_of_ble_eq_true rfl⟩ rfl (by simp [e_rv_cat, e_int_cat, e_long_cat]) ⟨Nat.le_refl _, Nat.le_refl _⟩ dX3_begins_28 rfl (fun H locs hp hS => ?_)
        refine e_icmp_eq (tgt := 36) hx hb dX3_begins_31 (by decide) (fun c31 => ?_) (fun c31 => ?_)
        · rw [if_pos c31] at hsh
          refine e_iincJ (n := 1) (x := x4) (lv' := [(4, .int (iI ((x4 + 1)))), (0, e_rv B (x0)), (1, .long (iL (x1))), (3, .int (iI (x3)))]) hx hb dX3_begins_36 hl (by decide) (k := 3) rfl (by decide) rfl (fun ls hl => ?_)
          refine lv_goto (tgt := 3) hx hb dX3_begins_39 (by decide) ?_
          exact hk3 hp hS (hl.sub [1, 2, 3, 0] rfl) hsh
        · rw [if_neg c31] at hsh
          exact w3_begins_b34 E hp hS (hl.sub [] rfl) hsh
set_option maxRecDepth 100000 in
set_option maxHeartbeats 4000000 in
theorem c3_begins (l : Launch) (D : va_G) (cA : Nat → ClassId) (B : Nat) (S S' : HP) (x0 : Int) (x1 : Int) (x3 : Int) (r : Int) (hsh : s3_begins S x0 x1 x3 = some (r, S')) : Met l yX3_begins (e_wu yX3_begins cX3_begins 5 (some .boolean)) ({ frames := 1, cells := 0, slots := 0, locals := 22 } : Room) (va_Pc [e_rv B (x0), .long (iL (x1)), .int (iI (x3))] (fun U => e_PU D cA B S U)) (e_Qi D cA B r S') 0 0 (e_A B) := by
  refine Met.ofW (cc := cX3_begins) (maxL := 5) (ret := (some .boolean)) (by decide +kernel) rfl ?_
  intro p e s m args below meth c s₁ Bd hml hv
  obtain ⟨rfl, hp⟩ := hv
  have hp : e_Pic D cA B S s s.heap := hp
  have hx := Bd.exec
  have hb := Bd.bytes
  have hrt := Bd.returns
  have hlk := Bd.notSynchronized
  have hown : s.vm.findClass RX3 = some m.cls := findClass_of_methodNamed Bd.named
  have hts : ∀ w ∈ e_tb, w.before ([e_rv B (x0), .long (iL (x1)), .int (iI (x3))] : List Value).toArray s = true := fun w h => atoms_spec (ws := (e_wu yX3_begins cX3_begins 5 (some .boolean))) Bd.pre w (List.mem_cons_of_mem _ h)
  have E : e_En p s m ([e_rv B (x0), .long (iL (x1)), .int (iI (x3))] : List Value).toArray meth c cX3_begins RX3 5 (some .boolean) := ⟨hx, hb, hml, hown, hts, hlk, hrt⟩
  have hS : va_S (e_A B) s.heap s.heap [] := va_S.rf
  have hl := e_entryj (K := [1]) (vs := [e_rv B (x0), .long (iL (x1)), .int (iI (x3))]) (cs := [1, 2, 1]) (n := 5) ⟨e_rv_cat _ _, rfl, rfl, trivial⟩ (Nat.le_of_ble_eq_true rfl) (by simp [e_idj, e_rv_cat, e_int_cat, e_long_cat])
  rw [lg_entry_eq]
  generalize (lg_sl [e_rv B (x0), .long (iL (x1)), .int (iI (x3))] ++ List.replicate (5 - (lg_sl [e_rv B (x0), .long (iL (x1)), .int (iI (x3))]).length) Slot.unset).toArray = ls at hl ⊢
  generalize ([e_rv B (x0), .long (iL (x1)), .int (iI (x3))] : List Value).toArray = args at hts E ⊢
  have hl : e_lj [1] ls 5 [(0, e_rv B (x0)), (1, .long (iL (x1))), (3, .int (iI (x3)))] := hl
  have hsh := (gd_some hsh).2
  refine lv_iconst (v := iI (0)) hx hb dX3_begins_0 rfl ?_
  refine e_istoreJ (lv' := [(4, .int (iI (0))), (0, e_rv B (x0)), (1, .long (iL (x1))), (3, .int (iI (x3)))]) hx hb dX3_begins_1 hl (by decide) (by decide) rfl (fun ls hl => ?_)
  exact w3_begins_l3 E 1000000 hp hS (hl.sub [1, 2, 3, 0] rfl) hsh
set_option maxRecDepth 100000 in
set_option maxHeartbeats 4000000 in
theorem w3_width_b22 {p : Program} {l : Launch} {e : Env} {s : State} {m : MethodId} {args : Array Value} {below : List Frame} {meth : Method} {c : Code} {D : va_G} {cA : Nat → ClassId} {B : Nat} {res : Int × HP} (E : e_En p s m args meth c cX3_width RX3 3 (some .int)) {ls : Array Slot} {H : Heap} {locs : List Loc} {S : HP} {x2 : Int} (hp : e_Pic D cA B S s H) (hS : va_S (e_A B) s.heap H locs) (hl : e_lj [0] ls 3 [(2, .int (iI (x2)))]) (hsh : s3_width_b22 S x2 = some res) : W p l e ({ frames := 1, cells := 0, slots := 0, locals := 22 } : Room) s m args below meth c H locs 0 0 (MQ below (e_Qi D cA B res.1 res.2) args s 0 0 (e_A B)) (F0 m 22 ls []) := by
  obtain ⟨hx, hb, hml, hown, hts, hlk, hrt⟩ := id E
  unfold s3_width_b22 at hsh
  refine lv_iload_n hx hb dX3_width_22 rfl (hl.at 0 rfl) ?_
  cases hsh
  exact e_iret hx hb hrt hlk hp hS dX3_width_23
set_option maxRecDepth 100000 in
set_option maxHeartbeats 4000000 in
theorem w3_width_l2 {p : Program} {l : Launch} {e : Env} {s : State} {m : MethodId} {args : Array Value} {below : List Frame} {meth : Method} {c : Code} {D : va_G} {cA : Nat → ClassId} {B : Nat} {res : Int × HP} (E : e_En p s m args meth c cX3_width RX3 3 (some .int)) : ∀ (f : Nat) {ls : Array Slot} {H : Heap} {locs : List Loc} {S : HP} {x0 : Int} {x2 : Int} (hp : e_Pic D cA B S s H) (hS : va_S (e_A B) s.heap H locs) (hl : e_lj [0] ls 3 [(0, .long (iL (x0))), (2, .int (iI (x2)))]) (hsh : s3_width_l2 f S x0 x2 = some res), W p l e ({ frames := 1, cells := 0, slots := 0, locals := 22 } : Room) s m args below meth c H locs 0 0 (MQ below (e_Qi D cA B res.1 res.2) args s 0 0 (e_A B)) (F0 m 2 ls []) := by
  obtain ⟨hx, hb, hml, hown, hts, hlk, hrt⟩ := id E
  intro f
  induction f with
  | zero => intro ls H locs S x0 x2 hp hS hl hsh; cases hsh
  | succ f ih =>
    intro ls H locs S x0 x2 hp hS hl hsh
    have hk2 : ∀ {ls : Array Slot} {H : Heap} {locs : List Loc} {S : HP} {x0 : Int} {x2 : Int} (hp : e_Pic D cA B S s H) (hS : va_S (e_A B) s.heap H locs) (hl : e_lj [0] ls 3 [(0, .long (iL (x0))), (2, .int (iI (x2)))]) (hsh : (s3_width_l2 f) S x0 x2 = some res), W p l e ({ frames := 1, cells := 0, slots := 0, locals := 22 } : Room) s m args below meth c H locs 0 0 (MQ below (e_Qi D cA B res.1 res.2) args s 0 0 (e_A B)) (F0 m 2 ls []) := ih
    generalize hkk : s3_width_l2 f = k2 at hk2
    rw [s3_width_l2] at hsh
    rw [hkk] at hsh
    try dsimp only at hsh
    refine lv_iload_n hx hb dX3_width_2 rfl (hl.at 1 rfl) ?_
    refine lv_bipush (v := iI (8)) hx hb dX3_width_3 (by decide +kernel) ?_
    refine e_icmp_ge (tgt := 22) hx hb dX3_width_5 (by decide) (fun c5 => ?_) (fun c5 => ?_)
    · rw [if_pos c5] at hsh
      exact w3_width_b22 E hp hS (hl.sub [1] rfl) hsh
    · rw [if_neg c5] at hsh
      refine lv_lload_n hx hb dX3_width_8 rfl (hl.at 0 rfl) ?_
      refine lv_iload_n hx hb dX3_width_9 rfl (hl.at 1 rfl) ?_
      obtain ⟨⟨v10, S10⟩, h10, hsh⟩ := Option.bind_eq_some_iff.mp hsh
      have hsh : _ = _ := hsh
      try dsimp only at hsh
      refine e_callSIN (nL := 3) (mc := 0) (ms := 0) (As := [.long (iL (x0)), .int (iI (x2))]) (rest := []) hx hb hml hown hts hp hS hl.size (c12_byteOf l D cA B S S10 (x0) (x2) v10 h10) rfl rfl kd12_byteOf (kl3_98) ks12_byteOf ki12 kh12_byteOf ⟨Nat.le_of_ble_eq_true rfl, Nat.le_of_ble_eq_true rfl⟩ rfl (by simp [e_rv_cat, e_int_cat, e_long_cat]) ⟨Nat.le_refl _, Nat.le_refl _⟩ dX3_width_10 rfl (fun H locs hp hS => ?_)
      refine e_if_eq (tgt := 22) hx hb dX3_width_13 (by decide) (fun c13 => ?_) (fun c13 => ?_)
      · rw [if_pos c13] at hsh
        exact w3_width_b22 E hp hS (hl.sub [1] rfl) hsh
      · rw [if_neg c13] at hsh
        refine e_iincJ (n := 1) (x := x2) (lv' := [(2, .int (iI ((x2 + 1)))), (0, .long (iL (x0)))]) hx hb dX3_width_16 hl (by decide) (k := 1) rfl (by decide) rfl (fun ls hl => ?_)
        refine lv_goto (tgt := 2) hx hb dX3_width_19 (by decide) ?_
        exact hk2 hp hS (hl.sub [1, 0] rfl) hsh
set_option maxRecDepth 100000 in
set_option maxHeartbeats 4000000 in
theorem c3_width (l : Launch) (D : va_G) (cA : Nat → ClassId) (B : Nat) (S S' : HP) (x0 : Int) (r : Int) (hsh : s3_width S x0 = some (r, S')) : Met l yX3_width (e_wu yX3_width cX3_width 3 (some .int)) ({ frames := 1, cells := 0, slots := 0, locals := 22 } : Room) (va_Pc [.long (iL (x0))] (fun U => e_PU D cA B S U)) (e_Qi D cA B r S') 0 0 (e_A B) := by
  refine Met.ofW (cc := cX3_width) (maxL := 3) (ret := (some .int)) (by decide +kernel) rfl ?_
  intro p e s m args below meth c s₁ Bd hml hv
  obtain ⟨rfl, hp⟩ := hv
  have hp : e_Pic D cA B S s s.heap := hp
  have hx := Bd.exec
  have hb := Bd.bytes
  have hrt := Bd.returns
  have hlk := Bd.notSynchronized
  have hown : s.vm.findClass RX3 = some m.cls := findClass_of_methodNamed Bd.named
  have hts : ∀ w ∈ e_tb, w.before ([.long (iL (x0))] : List Value).toArray s = true := fun w h => atoms_spec (ws := (e_wu yX3_width cX3_width 3 (some .int))) Bd.pre w (List.mem_cons_of_mem _ h)
  have E : e_En p s m ([.long (iL (x0))] : List Value).toArray meth c cX3_width RX3 3 (some .int) := ⟨hx, hb, hml, hown, hts, hlk, hrt⟩
  have hS : va_S (e_A B) s.heap s.heap [] := va_S.rf
  have hl := e_entryj (K := [0]) (vs := [.long (iL (x0))]) (cs := [2]) (n := 3) ⟨rfl, trivial⟩ (Nat.le_of_ble_eq_true rfl) (by simp [e_idj, e_rv_cat, e_int_cat, e_long_cat])
  rw [lg_entry_eq]
  generalize (lg_sl [.long (iL (x0))] ++ List.replicate (3 - (lg_sl [.long (iL (x0))]).length) Slot.unset).toArray = ls at hl ⊢
  generalize ([.long (iL (x0))] : List Value).toArray = args at hts E ⊢
  have hl : e_lj [0] ls 3 [(0, .long (iL (x0)))] := hl
  unfold s3_width at hsh
  refine lv_iconst (v := iI (0)) hx hb dX3_width_0 rfl ?_
  refine e_istoreJ_n (lv' := [(2, .int (iI (0))), (0, .long (iL (x0)))]) hx hb dX3_width_1 rfl hl (by decide) (by decide) rfl (fun ls hl => ?_)
  exact w3_width_l2 E 1000000 hp hS (hl.sub [1, 0] rfl) hsh
