set_option maxRecDepth 100000 in
set_option maxHeartbeats 4000000 in
theorem w13_isIn_b15 {p : Program} {l : Launch} {e : Env} {s : State} {m : MethodId} {args : Array Value} {below : List Frame} {meth : Method} {c : Code} {D : va_G} {cA : Nat → ClassId} {B : Nat} {res : Int × HP} (E : e_En p s m args meth c cX13_isIn RX13 3 (some .boolean)) {ls : Array Slot} {H : Heap} {locs : List Loc} {S : HP} {y0 : Int} (hp : e_Pic D cA B S s H) (hS : va_S (e_A B) s.heap H locs) (hl : e_lo ls 3 []) (hsh : s13_isIn_b15 S y0 = some res) : W p l e ({ frames := 0, cells := 0, slots := 0, locals := 0 } : Room) s m args below meth c H locs 0 0 (MQ below (e_Qi D cA B res.1 res.2) args s 0 0 (e_A B)) (F0 m 15 ls [.int (iI (y0))]) := by
  obtain ⟨hx, hb, hml, hown, hts, hlk, hrt⟩ := id E
  unfold s13_isIn_b15 at hsh
  obtain ⟨hz, hz1, hz2⟩ := zR_some hsh
  rw [← hz1, ← hz2]
  exact e_zret hx hb hrt hlk hp hS hz dX13_isIn_15
set_option maxRecDepth 100000 in
set_option maxHeartbeats 4000000 in
theorem w13_isIn_b14 {p : Program} {l : Launch} {e : Env} {s : State} {m : MethodId} {args : Array Value} {below : List Frame} {meth : Method} {c : Code} {D : va_G} {cA : Nat → ClassId} {B : Nat} {res : Int × HP} (E : e_En p s m args meth c cX13_isIn RX13 3 (some .boolean)) {ls : Array Slot} {H : Heap} {locs : List Loc} {S : HP} (hp : e_Pic D cA B S s H) (hS : va_S (e_A B) s.heap H locs) (hl : e_lo ls 3 []) (hsh : s13_isIn_b14 S  = some res) : W p l e ({ frames := 0, cells := 0, slots := 0, locals := 0 } : Room) s m args below meth c H locs 0 0 (MQ below (e_Qi D cA B res.1 res.2) args s 0 0 (e_A B)) (F0 m 14 ls []) := by
  obtain ⟨hx, hb, hml, hown, hts, hlk, hrt⟩ := id E
  unfold s13_isIn_b14 at hsh
  refine lv_iconst (v := iI (0)) hx hb dX13_isIn_14 rfl ?_
  exact w13_isIn_b15 E hp hS (hl.sub [] rfl) hsh
set_option maxRecDepth 100000 in
set_option maxHeartbeats 4000000 in
theorem c13_isIn (l : Launch) (D : va_G) (cA : Nat → ClassId) (B : Nat) (S S' : HP) (x0 : Int) (x1 : Int) (x2 : Int) (r : Int) (hsh : s13_isIn S x0 x1 x2 = some (r, S')) : Met l yX13_isIn (e_wu yX13_isIn cX13_isIn 3 (some .boolean)) ({ frames := 0, cells := 0, slots := 0, locals := 0 } : Room) (va_Pc [.int (iI (x0)), .int (iI (x1)), .int (iI (x2))] (fun U => e_PU D cA B S U)) (e_Qi D cA B r S') 0 0 (e_A B) := by
  refine Met.ofW (cc := cX13_isIn) (maxL := 3) (ret := (some .boolean)) (by decide +kernel) rfl ?_
  intro p e s m args below meth c s₁ Bd hml hv
  obtain ⟨rfl, hp⟩ := hv
  have hp : e_Pic D cA B S s s.heap := hp
  have hx := Bd.exec
  have hb := Bd.bytes
  have hrt := Bd.returns
  have hlk := Bd.notSynchronized
  have hown : s.vm.findClass RX13 = some m.cls := findClass_of_methodNamed Bd.named
  have hts : ∀ w ∈ e_tb, w.before ([.int (iI (x0)), .int (iI (x1)), .int (iI (x2))] : List Value).toArray s = true := fun w h => atoms_spec (ws := (e_wu yX13_isIn cX13_isIn 3 (some .boolean))) Bd.pre w (List.mem_cons_of_mem _ h)
  have E : e_En p s m ([.int (iI (x0)), .int (iI (x1)), .int (iI (x2))] : List Value).toArray meth c cX13_isIn RX13 3 (some .boolean) := ⟨hx, hb, hml, hown, hts, hlk, hrt⟩
  have hS : va_S (e_A B) s.heap s.heap [] := va_S.rf
  have hl := e_entry (vs := [.int (iI (x0)), .int (iI (x1)), .int (iI (x2))]) (n := 3) (Nat.le_of_ble_eq_true rfl) (e_cc rfl (e_cc rfl (e_cc rfl e_cn)))
  rw [lg_entry_eq]
  generalize (lg_sl [.int (iI (x0)), .int (iI (x1)), .int (iI (x2))] ++ List.replicate (3 - (lg_sl [.int (iI (x0)), .int (iI (x1)), .int (iI (x2))]).length) Slot.unset).toArray = ls at hl ⊢
  generalize ([.int (iI (x0)), .int (iI (x1)), .int (iI (x2))] : List Value).toArray = args at hts E ⊢
  have hl : e_lo ls 3 [(0, .int (iI (x0))), (1, .int (iI (x1))), (2, .int (iI (x2)))] := hl
  unfold s13_isIn at hsh
  refine lv_iload_n hx hb dX13_isIn_0 rfl (hl.at 0 rfl) ?_
  refine lv_iload_n hx hb dX13_isIn_1 rfl (hl.at 1 rfl) ?_
  refine e_icmp_lt (tgt := 14) hx hb dX13_isIn_2 (by decide) (fun c2 => ?_) (fun c2 => ?_)
  · rw [if_pos c2] at hsh
    exact w13_isIn_b14 E hp hS (hl.sub [] rfl) hsh
  · rw [if_neg c2] at hsh
    refine lv_iload_n hx hb dX13_isIn_5 rfl (hl.at 0 rfl) ?_
    refine lv_iload_n hx hb dX13_isIn_6 rfl (hl.at 2 rfl) ?_
    refine e_icmp_gt (tgt := 14) hx hb dX13_isIn_7 (by decide) (fun c7 => ?_) (fun c7 => ?_)
    · rw [if_pos c7] at hsh
      exact w13_isIn_b14 E hp hS (hl.sub [] rfl) hsh
    · rw [if_neg c7] at hsh
      refine lv_iconst (v := iI (1)) hx hb dX13_isIn_10 rfl ?_
      refine lv_goto (tgt := 15) hx hb dX13_isIn_11 (by decide) ?_
      exact w13_isIn_b15 E hp hS (hl.sub [] rfl) hsh
set_option maxRecDepth 100000 in
set_option maxHeartbeats 4000000 in
theorem w13_lesser_b10 {p : Program} {l : Launch} {e : Env} {s : State} {m : MethodId} {args : Array Value} {below : List Frame} {meth : Method} {c : Code} {D : va_G} {cA : Nat → ClassId} {B : Nat} {res : Int × HP} (E : e_En p s m args meth c cX13_lesser RX13 2 (some .int)) {ls : Array Slot} {H : Heap} {locs : List Loc} {S : HP} {y0 : Int} (hp : e_Pic D cA B S s H) (hS : va_S (e_A B) s.heap H locs) (hl : e_lo ls 2 []) (hsh : s13_lesser_b10 S y0 = some res) : W p l e ({ frames := 0, cells := 0, slots := 0, locals := 0 } : Room) s m args below meth c H locs 0 0 (MQ below (e_Qi D cA B res.1 res.2) args s 0 0 (e_A B)) (F0 m 10 ls [.int (iI (y0))]) := by
  obtain ⟨hx, hb, hml, hown, hts, hlk, hrt⟩ := id E
  unfold s13_lesser_b10 at hsh
  cases hsh
  exact e_iret hx hb hrt hlk hp hS dX13_lesser_10
set_option maxRecDepth 100000 in
set_option maxHeartbeats 4000000 in
theorem c13_lesser (l : Launch) (D : va_G) (cA : Nat → ClassId) (B : Nat) (S S' : HP) (x0 : Int) (x1 : Int) (r : Int) (hsh : s13_lesser S x0 x1 = some (r, S')) : Met l yX13_lesser (e_wu yX13_lesser cX13_lesser 2 (some .int)) ({ frames := 0, cells := 0, slots := 0, locals := 0 } : Room) (va_Pc [.int (iI (x0)), .int (iI (x1))] (fun U => e_PU D cA B S U)) (e_Qi D cA B r S') 0 0 (e_A B) := by
  refine Met.ofW (cc := cX13_lesser) (maxL := 2) (ret := (some .int)) (by decide +kernel) rfl ?_
  intro p e s m args below meth c s₁ Bd hml hv
  obtain ⟨rfl, hp⟩ := hv
  have hp : e_Pic D cA B S s s.heap := hp
  have hx := Bd.exec
  have hb := Bd.bytes
  have hrt := Bd.returns
  have hlk := Bd.notSynchronized
  have hown : s.vm.findClass RX13 = some m.cls := findClass_of_methodNamed Bd.named
  have hts : ∀ w ∈ e_tb, w.before ([.int (iI (x0)), .int (iI (x1))] : List Value).toArray s = true := fun w h => atoms_spec (ws := (e_wu yX13_lesser cX13_lesser 2 (some .int))) Bd.pre w (List.mem_cons_of_mem _ h)
  have E : e_En p s m ([.int (iI (x0)), .int (iI (x1))] : List Value).toArray meth c cX13_lesser RX13 2 (some .int) := ⟨hx, hb, hml, hown, hts, hlk, hrt⟩
  have hS : va_S (e_A B) s.heap s.heap [] := va_S.rf
  have hl := e_entry (vs := [.int (iI (x0)), .int (iI (x1))]) (n := 2) (Nat.le_of_ble_eq_true rfl) (e_cc rfl (e_cc rfl e_cn))
  rw [lg_entry_eq]
  generalize (lg_sl [.int (iI (x0)), .int (iI (x1))] ++ List.replicate (2 - (lg_sl [.int (iI (x0)), .int (iI (x1))]).length) Slot.unset).toArray = ls at hl ⊢
  generalize ([.int (iI (x0)), .int (iI (x1))] : List Value).toArray = args at hts E ⊢
  have hl : e_lo ls 2 [(0, .int (iI (x0))), (1, .int (iI (x1)))] := hl
  unfold s13_lesser at hsh
  refine lv_iload_n hx hb dX13_lesser_0 rfl (hl.at 0 rfl) ?_
  refine lv_iload_n hx hb dX13_lesser_1 rfl (hl.at 1 rfl) ?_
  refine e_icmp_ge (tgt := 9) hx hb dX13_lesser_2 (by decide) (fun c2 => ?_) (fun c2 => ?_)
  · rw [if_pos c2] at hsh
    refine lv_iload_n hx hb dX13_lesser_9 rfl (hl.at 1 rfl) ?_
    exact w13_lesser_b10 E hp hS (hl.sub [] rfl) hsh
  · rw [if_neg c2] at hsh
    refine lv_iload_n hx hb dX13_lesser_5 rfl (hl.at 0 rfl) ?_
    refine lv_goto (tgt := 10) hx hb dX13_lesser_6 (by decide) ?_
    exact w13_lesser_b10 E hp hS (hl.sub [] rfl) hsh
set_option maxRecDepth 100000 in
set_option maxHeartbeats 4000000 in
theorem w13_greater_b10 {p : Program} {l : Launch} {e : Env} {s : State} {m : MethodId} {args : Array Value} {below : List Frame} {meth : Method} {c : Code} {D : va_G} {cA : Nat → ClassId} {B : Nat} {res : Int × HP} (E : e_En p s m args meth c cX13_greater RX13 2 (some .int)) {ls : Array Slot} {H : Heap} {locs : List Loc} {S : HP} {y0 : Int} (hp : e_Pic D cA B S s H) (hS : va_S (e_A B) s.heap H locs) (hl : e_lo ls 2 []) (hsh : s13_greater_b10 S y0 = some res) : W p l e ({ frames := 0, cells := 0, slots := 0, locals := 0 } : Room) s m args below meth c H locs 0 0 (MQ below (e_Qi D cA B res.1 res.2) args s 0 0 (e_A B)) (F0 m 10 ls [.int (iI (y0))]) := by
  obtain ⟨hx, hb, hml, hown, hts, hlk, hrt⟩ := id E
  unfold s13_greater_b10 at hsh
  cases hsh
  exact e_iret hx hb hrt hlk hp hS dX13_greater_10
set_option maxRecDepth 100000 in
set_option maxHeartbeats 4000000 in
theorem c13_greater (l : Launch) (D : va_G) (cA : Nat → ClassId) (B : Nat) (S S' : HP) (x0 : Int) (x1 : Int) (r : Int) (hsh : s13_greater S x0 x1 = some (r, S')) : Met l yX13_greater (e_wu yX13_greater cX13_greater 2 (some .int)) ({ frames := 0, cells := 0, slots := 0, locals := 0 } : Room) (va_Pc [.int (iI (x0)), .int (iI (x1))] (fun U => e_PU D cA B S U)) (e_Qi D cA B r S') 0 0 (e_A B) := by
  refine Met.ofW (cc := cX13_greater) (maxL := 2) (ret := (some .int)) (by decide +kernel) rfl ?_
  intro p e s m args below meth c s₁ Bd hml hv
  obtain ⟨rfl, hp⟩ := hv
  have hp : e_Pic D cA B S s s.heap := hp
  have hx := Bd.exec
  have hb := Bd.bytes
  have hrt := Bd.returns
  have hlk := Bd.notSynchronized
  have hown : s.vm.findClass RX13 = some m.cls := findClass_of_methodNamed Bd.named
  have hts : ∀ w ∈ e_tb, w.before ([.int (iI (x0)), .int (iI (x1))] : List Value).toArray s = true := fun w h => atoms_spec (ws := (e_wu yX13_greater cX13_greater 2 (some .int))) Bd.pre w (List.mem_cons_of_mem _ h)
  have E : e_En p s m ([.int (iI (x0)), .int (iI (x1))] : List Value).toArray meth c cX13_greater RX13 2 (some .int) := ⟨hx, hb, hml, hown, hts, hlk, hrt⟩
  have hS : va_S (e_A B) s.heap s.heap [] := va_S.rf
  have hl := e_entry (vs := [.int (iI (x0)), .int (iI (x1))]) (n := 2) (Nat.le_of_ble_eq_true rfl) (e_cc rfl (e_cc rfl e_cn))
  rw [lg_entry_eq]
  generalize (lg_sl [.int (iI (x0)), .int (iI (x1))] ++ List.replicate (2 - (lg_sl [.int (iI (x0)), .int (iI (x1))]).length) Slot.unset).toArray = ls at hl ⊢
  generalize ([.int (iI (x0)), .int (iI (x1))] : List Value).toArray = args at hts E ⊢
  have hl : e_lo ls 2 [(0, .int (iI (x0))), (1, .int (iI (x1)))] := hl
  unfold s13_greater at hsh
  refine lv_iload_n hx hb dX13_greater_0 rfl (hl.at 0 rfl) ?_
  refine lv_iload_n hx hb dX13_greater_1 rfl (hl.at 1 rfl) ?_
  refine e_icmp_le (tgt := 9) hx hb dX13_greater_2 (by decide) (fun c2 => ?_) (fun c2 => ?_)
  · rw [if_pos c2] at hsh
    refine lv_iload_n hx hb dX13_greater_9 rfl (hl.at 1 rfl) ?_
    exact w13_greater_b10 E hp hS (hl.sub [] rfl) hsh
  · rw [if_neg c2] at hsh
    refine lv_iload_n hx hb dX13_greater_5 rfl (hl.at 0 rfl) ?_
    refine lv_goto (tgt := 10) hx hb dX13_greater_6 (by decide) ?_
    exact w13_greater_b10 E hp hS (hl.sub [] rfl) hsh
set_option maxRecDepth 100000 in
set_option maxHeartbeats 4000000 in
theorem c13_isSign (l : Launch) (D : va_G) (cA : Nat → ClassId) (B : Nat) (S S' : HP) (x0 : Int) (r : Int) (hsh : s13_isSign S x0 = some (r, S')) : Met l yX13_isSign (e_wu yX13_isSign cX13_isSign 1 (some .boolean)) ({ frames := 1, cells := 0, slots := 0, locals := 22 } : Room) (va_Pc [.int (iI (x0))] (fun U => e_PU D cA B S U)) (e_Qi D cA B r S') 0 0 (e_A B) := by
  refine Met.ofW (cc := cX13_isSign) (maxL := 1) (ret := (some .boolean)) (by decide +kernel) rfl ?_
  intro p e s m args below meth c s₁ Bd hml hv
  obtain ⟨rfl, hp⟩ := hv
  have hp : e_Pic D cA B S s s.heap := hp
  have hx := Bd.exec
  have hb := Bd.bytes
  have hrt := Bd.returns
  have hlk := Bd.notSynchronized
  have hown : s.vm.findClass RX13 = some m.cls := findClass_of_methodNamed Bd.named
  have hts : ∀ w ∈ e_tb, w.before ([.int (iI (x0))] : List Value).toArray s = true := fun w h => atoms_spec (ws := (e_wu yX13_isSign cX13_isSign 1 (some .boolean))) Bd.pre w (List.mem_cons_of_mem _ h)
  have E : e_En p s m ([.int (iI (x0))] : List Value).toArray meth c cX13_isSign RX13 1 (some .boolean) := ⟨hx, hb, hml, hown, hts, hlk, hrt⟩
  have hS : va_S (e_A B) s.heap s.heap [] := va_S.rf
  have hl := e_entry (vs := [.int (iI (x0))]) (n := 1) (Nat.le_of_ble_eq_true rfl) (e_cc rfl e_cn)
  rw [lg_entry_eq]
  generalize (lg_sl [.int (iI (x0))] ++ List.replicate (1 - (lg_sl [.int (iI (x0))]).length) Slot.unset).toArray = ls at hl ⊢
  generalize ([.int (iI (x0))] : List Value).toArray = args at hts E ⊢
  have hl : e_lo ls 1 [(0, .int (iI (x0)))] := hl
  unfold s13_isSign at hsh
  refine lv_iload_n hx hb dX13_isSign_0 rfl (hl.at 0 rfl) ?_
  refine lv_bipush (v := iI (32)) hx hb dX13_isSign_1 (by decide +kernel) ?_
  refine lv_bipush (v := iI (126)) hx hb dX13_isSign_3 (by decide +kernel) ?_
  obtain ⟨⟨v5, S5⟩, h5, hsh⟩ := Option.bind_eq_some_iff.mp hsh
  have hsh : _ = _ := hsh
  try dsimp only at hsh
  refine e_callS (nL := 1) (mc := 0) (ms := 0) (As := [.int (iI (x0)), .int (iI (32)), .int (iI (126))]) (rest := []) hx hb hml hown hts hp hS hl.size (c13_isIn l D cA B S S5 (x0) (32) (126) v5 h5) rfl rfl kd13_isIn (kl13_198) ks13_isIn ki13 kh13_isIn ⟨Nat.le_of_ble_eq_true rfl, Nat.le_of_ble_eq_true rfl⟩ rfl (by simp [e_rv_cat, e_int_cat]) ⟨Nat.le_refl _, Nat.le_refl _⟩ dX13_isSign_5 rfl (fun H locs hp hS => ?_)
  obtain ⟨hz, hz1, hz2⟩ := zR_some hsh
  rw [← hz1, ← hz2]
  exact e_zret hx hb hrt hlk hp hS hz dX13_isSign_8
set_option maxRecDepth 100000 in
set_option maxHeartbeats 4000000 in
theorem w13_isKey_b54 {p : Program} {l : Launch} {e : Env} {s : State} {m : MethodId} {args : Array Value} {below : List Frame} {meth : Method} {c : Code} {D : va_G} {cA : Nat → ClassId} {B : Nat} {res : Int × HP} (E : e_En p s m args meth c cX13_isKey RX13 1 (some .boolean)) {ls : Array Slot} {H : Heap} {locs : List Loc} {S : HP} {y0 : Int} (hp : e_Pic D cA B S s H) (hS : va_S (e_A B) s.heap H locs) (hl : e_lo ls 1 []) (hsh : s13_isKey_b54 S y0 = some res) : W p l e ({ frames := 2, cells := 0, slots := 0, locals := 42 } : Room) s m args below meth c H locs 0 0 (MQ below (e_Qi D cA B res.1 res.2) args s 0 0 (e_A B)) (F0 m 54 ls [.int (iI (y0))]) := by
  obtain ⟨hx, hb, hml, hown, hts, hlk, hrt⟩ := id E
  unfold s13_isKey_b54 at hsh
  obtain ⟨hz, hz1, hz2⟩ := zR_some hsh
  rw [← hz1, ← hz2]
  exact e_zret hx hb hrt hlk hp hS hz dX13_isKey_54
set_option maxRecDepth 100000 in
set_option maxHeartbeats 4000000 in
theorem w13_isKey_b49 {p : Program} {l : Launch} {e : Env} {s : State} {m : MethodId} {args : Array Value} {below : List Frame} {meth : Method} {c : Code} {D : va_G} {cA : Nat → ClassId} {B : Nat} {res : Int × HP} (E : e_En p s m args meth c cX13_isKey RX13 1 (some .boolean)) {ls : Array Slot} {H : Heap} {locs : List Loc} {S : HP} (hp : e_Pic D cA B S s H) (hS : va_S (e_A B) s.heap H locs) (hl : e_lo ls 1 []) (hsh : s13_isKey_b49 S  = some res) : W p l e ({ frames := 2, cells := 0, slots := 0, locals := 42 } : Room) s m args below meth c H locs 0 0 (MQ below (e_Qi D cA B res.1 res.2) args s 0 0 (e_A B)) (F0 m 49 ls []) := by
  obtain ⟨hx, hb, hml, hown, hts, hlk, hrt⟩ := id E
  unfold s13_isKey_b49 at hsh
  refine lv_iconst (v := iI (1)) hx hb dX13_isKey_49 rfl ?_
  refine lv_goto (tgt := 54) hx hb dX13_isKey_50 (by decide) ?_
  exact w13_isKey_b54 E hp hS (hl.sub [] rfl) hsh
set_option maxRecDepth 100000 in
set_option maxHeartbeats 4000000 in
theorem c13_isKey (l : Launch) (D : va_G) (cA : Nat → ClassId) (B : Nat) (S S' : HP) (x0 : Int) (r : Int) (hsh : s13_isKey S x0 = some (r, S')) : Met l yX13_isKey (e_wu yX13_isKey cX13_isKey 1 (some .boolean)) ({ frames := 2, cells := 0, slots := 0, locals := 42 } : Room) (va_Pc [.int (iI (x0))] (fun U => e_PU D cA B S U)) (e_Qi D cA B r S') 0 0 (e_A B) := by
  refine Met.ofW (cc := cX13_isKey) (maxL := 1) (ret := (some .boolean)) (by decide +kernel) rfl ?_
  intro p e s m args below meth c s₁ Bd hml hv
  obtain ⟨rfl, hp⟩ := hv
  have hp : e_Pic D cA B S s s.heap := hp
  have hx := Bd.exec
  have hb := Bd.bytes
  have hrt := Bd.returns
  have hlk := Bd.notSynchronized
  have hown : s.vm.findClass RX13 = some m.cls := findClass_of_methodNamed Bd.named
  have hts : ∀ w ∈ e_tb, w.before ([.int (iI (x0))] : List Value).toArray s = true := fun w h => atoms_spec (ws := (e_wu yX13_isKey cX13_isKey 1 (some .boolean))) Bd.pre w (List.mem_cons_of_mem _ h)
  have E : e_En p s m ([.int (iI (x0))] : List Value).toArray meth c cX13_isKey RX13 1 (some .boolean) := ⟨hx, hb, hml, hown, hts, hlk, hrt⟩
  have hS : va_S (e_A B) s.heap s.heap [] := va_S.rf
  have hl := e_entry (vs := [.int (iI (x0))]) (n := 1) (Nat.le_of_ble_eq_true rfl) (e_cc rfl e_cn)
  rw [lg_entry_eq]
  generalize (lg_sl [.int (iI (x0))] ++ List.replicate (1 - (lg_sl [.int (iI (x0))]).length) Slot.unset).toArray = ls at hl ⊢
  generalize ([.int (iI (x0))] : List Value).toArray = args at hts E ⊢
  have hl : e_lo ls 1 [(0, .int (iI (x0)))] := hl
  unfold s13_isKey at hsh
  refine lv_iload_n hx hb dX13_isKey_0 rfl (hl.at 0 rfl) ?_
  obtain ⟨⟨v1, S1⟩, h1, hsh⟩ := Option.bind_eq_some_iff.mp hsh
  have hsh : _ = _ := hsh
  try dsimp only at hsh
  refine e_callS (nL := 1) (mc := 0) (ms := 0) (As := [.int (iI (x0))]) (rest := []) hx hb hml hown hts hp hS hl.size (c13_isSign l D cA B S S1 (x0) v1 h1) rfl rfl kd13_isSign (kl13_202) ks13_isSign ki13 kh13_isSign ⟨Nat.le_of_ble_eq_true rfl, Nat.le_of_ble_eq_true rfl⟩ rfl (by simp [e_rv_cat, e_int_cat]) ⟨Nat.le_refl _, Nat.le_refl _⟩ dX13_isKey_1 rfl (fun H locs hp hS => ?_)
  refine e_if_ne (tgt := 49) hx hb dX13_isKey_4 (by decide) (fun c4 => ?_) (fun c4 => ?_)
  · rw [if_neg c4] at hsh
    exact w13_isKey_b49 E hp hS (hl.sub [] rfl) hsh
  · rw [if_pos c4] at hsh
    refine lv_iload_n hx hb dX13_isKey_7 rfl (hl.at 0 rfl) ?_
    refine lv_bipush (v := iI (8)) hx hb dX13_isKey_8 (by decide +kernel) ?_
    refine e_icmp_eq (tgt := 49) hx hb dX13_isKey_10 (by decide) (fun c10 => ?_) (fun c10 => ?_)
    · rw [if_pos c10] at hsh
      exact w13_isKey_b49 E hp hS (hl.sub [] rfl) hsh
    · rw [if_neg c10] at hsh
      refine lv_iload_n hx hb dX13_isKey_13 rfl (hl.at 0 rfl) ?_
      refine lv_bipush (v := iI (9)) hx hb dX13_isKey_14 (by decide +kernel) ?_
      refine e_icmp_eq (tgt := 49) hx hb dX13_isKey_16 (by decide) (fun c16 => ?_) (fun c16 => ?_)
      · rw [if_pos c16] at hsh
        exact w13_isKey_b49 E hp hS (hl.sub [] rfl) hsh
      · rw [if_neg c16] at hsh
        refine lv_iload_n hx hb dX13_isKey_19 rfl (hl.at 0 rfl) ?_
        refine lv_bipush (v := iI (13)) hx hb dX13_isKey_20 (by decide +kernel) ?_
        refine e_icmp_eq (tgt := 49) hx hb dX13_isKey_22 (by decide) (fun c22 => ?_) (fun c22 => ?_)
        · rw [if_pos c22] at hsh
          exact w13_isKey_b49 E hp hS (hl.sub [] rfl) hsh
        · rw [if_neg c22] at hsh
          refine lv_iload_n hx hb dX13_isKey_25 rfl (hl.at 0 rfl) ?_
          refine lv_bipush (v := iI (15)) hx hb dX13_isKey_26 (by decide +kernel) ?_
          refine e_icmp_eq (tgt := 49) hx hb dX13_isKey_28 (by decide) (fun c28 => ?_) (fun c28 => ?_)
          · rw [if_pos c28] at hsh
            exact w13_isKey_b49 E hp hS (hl.sub [] rfl) hsh
          · rw [if_neg c28] at hsh
            refine lv_iload_n hx hb dX13_isKey_31 rfl (hl.at 0 rfl) ?_
            refine lv_bipush (v := iI (18)) hx hb dX13_isKey_32 (by decide +kernel) ?_
            refine e_icmp_eq (tgt := 49) hx hb dX13_isKey_34 (by decide) (fun c34 => ?_) (fun c34 => ?_)
            · rw [if_pos c34] at hsh
              exact w13_isKey_b49 E hp hS (hl.sub [] rfl) hsh
            · rw [if_neg c34] at hsh
              refine lv_iload_n hx hb dX13_isKey_37 rfl (hl.at 0 rfl) ?_
              refine lv_bipush (v := iI (22)) hx hb dX13_isKey_38 (by decide +kernel) ?_
              refine e_icmp_eq (tgt := 49) hx hb dX13_isKey_40 (by decide) (fun c40 => ?_) (fun c40 => ?_)
              · rw [if_pos c40] at hsh
                exact w13_isKey_b49 E hp hS (hl.sub [] rfl) hsh
              · rw [if_neg c40] at hsh
                refine lv_iload_n hx hb dX13_isKey_43 rfl (hl.at 0 rfl) ?_
                refine lv_bipush (v := iI (27)) hx hb dX13_isKey_44 (by decide +kernel) ?_
                refine e_icmp_ne (tgt := 53) hx hb dX13_isKey_46 (by decide) (fun c46 => ?_) (fun c46 => ?_)
                · rw [if_neg c46] at hsh
                  refine lv_iconst (v := iI (0)) hx hb dX13_isKey_53 rfl ?_
                  exact w13_isKey_b54 E hp hS (hl.sub [] rfl) hsh
                · rw [if_pos c46] at hsh
                  exact w13_isKey_b49 E hp hS (hl.sub [] rfl) hsh
theorem ok13_at {S : HP} {x0 : Int} {x1 : Int} {x2 : Int} {r : Int × HP} (h : s13_at S x0 x1 x2 = some r) : 0 ≤ x0 ∧ x0.toNat < e_n S ∧ e_g S x0.toNat = 13 := (gd_some h).1
set_option maxRecDepth 100000 in
set_option maxHeartbeats 4000000 in
theorem c13_at (l : Launch) (D : va_G) (cA : Nat → ClassId) (B : Nat) (S S' : HP) (x0 : Int) (x1 : Int) (x2 : Int) (r : Int) (hsh : s13_at S x0 x1 x2 = some (r, S')) : Met l yX13_at (e_wu yX13_at cX13_at 3 (some .int)) ({ frames := 0, cells := 0, slots := 0, locals := 0 } : Room) (va_Pc [e_rv B (x0), .int (iI (x1)), .int (iI (x2))] (fun U => e_PU D cA B S U)) (e_Qi D cA B r S') 0 0 (e_A B) := by
  refine Met.ofW (cc := cX13_at) (maxL := 3) (ret := (some .int)) (by decide +kernel) rfl ?_
  intro p e s m args below meth c s₁ Bd hml hv
  obtain ⟨rfl, hp⟩ := hv
  have hp : e_Pic D cA B S s s.heap := hp
  have hx := Bd.exec
  have hb := Bd.bytes
  have hrt := Bd.returns
  have hlk := Bd.notSynchronized
  have hown : s.vm.findClass RX13 = some m.cls := findClass_of_methodNamed Bd.named
  have hts : ∀ w ∈ e_tb, w.before ([e_rv B (x0), .int (iI (x1)), .int (iI (x2))] : List Value).toArray s = true := fun w h => atoms_spec (ws := (e_wu yX13_at cX13_at 3 (some .int))) Bd.pre w (List.mem_cons_of_mem _ h)
  have E : e_En p s m ([e_rv B (x0), .int (iI (x1)), .int (iI (x2))] : List Value).toArray meth c cX13_at RX13 3 (some .int) := ⟨hx, hb, hml, hown, hts, hlk, hrt⟩
  have hS : va_S (e_A B) s.heap s.heap [] := va_S.rf
  have hl := e_entry (vs := [e_rv B (x0), .int (iI (x1)), .int (iI (x2))]) (n := 3) (Nat.le_of_ble_eq_true rfl) (e_cc (e_rv_cat _ _) (e_cc rfl (e_cc rfl e_cn)))
  rw [lg_entry_eq]
  generalize (lg_sl [e_rv B (x0), .int (iI (x1)), .int (iI (x2))] ++ List.replicate (3 - (lg_sl [e_rv B (x0), .int (iI (x1)), .int (iI (x2))]).length) Slot.unset).toArray = ls at hl ⊢
  generalize ([e_rv B (x0), .int (iI (x1)), .int (iI (x2))] : List Value).toArray = args at hts E ⊢
  have hl : e_lo ls 3 [(0, e_rv B (x0)), (1, .int (iI (x1))), (2, .int (iI (x2)))] := hl
  have hsh := (gd_some hsh).2
  refine e_aload_n (B := B) (x := x0) hx hb dX13_at_0 rfl (hl.at 0 rfl) ?_
  obtain ⟨v1, h1, hsh⟩ := Option.bind_eq_some_iff.mp hsh
  refine e_getR (k := 4) hx hb hts in_X13 hown hp h1 rfl (by decide) (by decide) rfl (hts _ kf13_20) rfl dX13_at_1 ?_
  refine lv_bipush (v := iI (60)) hx hb dX13_at_4 (by decide +kernel) ?_
  refine lv_iload_n hx hb dX13_at_6 rfl (hl.at 1 rfl) ?_
  refine e_imul hx hb dX13_at_7 ?_
  refine lv_iload_n hx hb dX13_at_8 rfl (hl.at 2 rfl) ?_
  refine e_iadd hx hb dX13_at_9 ?_
  obtain ⟨v10, h10, hsh⟩ := Option.bind_eq_some_iff.mp hsh
  refine e_iald hx hb hp h10 dX13_at_10 ?_
  cases hsh
  exact e_iret hx hb hrt hlk hp hS dX13_at_11
theorem ok13_indent {S : HP} {x0 : Int} {x1 : Int} {r : Int × HP} (h : s13_indent S x0 x1 = some r) : 0 ≤ x0 ∧ x0.toNat < e_n S ∧ e_g S x0.toNat = 13 := (gd_some h).1
set_option maxRecDepth 100000 in
set_option maxHeartbeats 4000000 in
theorem w13_indent_b50 {p : Program} {l : Launch} {e : Env} {s : State} {m : MethodId} {args : Array Value} {below : List Frame} {meth : Method} {c : Code} {D : va_G} {cA : Nat → ClassId} {B : Nat} {res : Int × HP} (E : e_En p s m args meth c cX13_indent RX13 3 (some .int)) {ls : Array Slot} {H : Heap} {locs : List Loc} {S : HP} {y0 : Int} (hp : e_Pic D cA B S s H) (hS : va_S (e_A B) s.heap H locs) (hl : e_lo ls 3 []) (hsh : s13_indent_b50 S y0 = some res) : W p l e ({ frames := 1, cells := 0, slots := 0, locals := 22 } : Room) s m args below meth c H locs 0 0 (MQ below (e_Qi D cA B res.1 res.2) args s 0 0 (e_A B)) (F0 m 50 ls [.int (iI (y0))]) := by
  obtain ⟨hx, hb, hml, hown, hts, hlk, hrt⟩ := id E
  unfold s13_indent_b50 at hsh
  cases hsh
  exact e_iret hx hb hrt hlk hp hS dX13_indent_50
set_option maxRecDepth 100000 in
set_option maxHeartbeats 4000000 in
theorem w13_indent_b29 {p : Program} {l : Launch} {e : Env} {s : State} {m : MethodId} {args : Array Value} {below : List Frame} {meth : Method} {c : Code} {D : va_G} {cA : Nat → ClassId} {B : Nat} {res : Int × HP} (E : e_En p s m args meth c cX13_indent RX13 3 (some .int)) {ls : Array Slot} {H : Heap} {locs : List Loc} {S : HP} {x0 : Int} {x1 : Int} {x2 : Int} (hp : e_Pic D cA B S s H) (hS : va_S (e_A B) s.heap H locs) (hl : e_lo ls 3 [(0, e_rv B (x0)), (1, .int (iI (x1))), (2, .int (iI (x2)))]) (hsh : s13_indent_b29 S x0 x1 x2 = some res) : W p l e ({ frames := 1, cells := 0, slots := 0, locals := 22 } : Room) s m args below meth c H locs 0 0 (MQ below (e_Qi D cA B res.1 res.2) args s 0 0 (e_A B)) (F0 m 29 ls []) := by
  obtain ⟨hx, hb, hml, hown, hts, hlk, hrt⟩ := id E
  unfold s13_indent_b29 at hsh
  refine lv_iload_n hx hb dX13_indent_29 rfl (hl.at 2 rfl) ?_
  refine e_aload_n (B := B) (x := x0) hx hb dX13_indent_30 rfl (hl.at 0 rfl) ?_
  obtain ⟨v31, h31, hsh⟩ := Option.bind_eq_some_iff.mp hsh
  refine e_getR (k := 3) hx hb hts in_X13 hown hp h31 rfl (by decide) (by decide) rfl (hts _ kf13_17) rfl dX13_indent_31 ?_
  refine lv_iload_n hx hb dX13_indent_34 rfl (hl.at 1 rfl) ?_
  obtain ⟨v35, h35, hsh⟩ := Option.bind_eq_some_iff.mp hsh
  refine e_iald hx hb hp h35 dX13_indent_35 ?_
  refine e_icmp_ne (tgt := 49) hx hb dX13_indent_36 (by decide) (fun c36 => ?_) (fun c36 => ?_)
  · rw [if_neg c36] at hsh
    refine lv_iload_n hx hb dX13_indent_49 rfl (hl.at 2 rfl) ?_
    exact w13_indent_b50 E hp hS (hl.sub [] rfl) hsh
  · rw [if_pos c36] at hsh
    refine lv_iconst (v := iI (0)) hx hb dX13_indent_39 rfl ?_
    refine lv_iload_n hx hb dX13_indent_40 rfl (hl.at 2 rfl) ?_
    refine lv_iconst (v := iI (1)) hx hb dX13_indent_41 rfl ?_
    refine e_isub hx hb dX13_indent_42 ?_
    obtain ⟨⟨v43, S43⟩, h43, hsh⟩ := Option.bind_eq_some_iff.mp hsh
    have hsh : _ = _ := hsh
    try dsimp only at hsh
    refine e_callS (nL := 3) (mc := 0) (ms := 0) (As := [.int (iI (0)), .int (iI ((x2 - 1)))]) (rest := []) hx hb hml hown hts hp hS hl.size (c13_greater l D cA B S S43 (0) ((x2 - 1)) v43 h43) rfl rfl kd13_greater (kl13_210) ks13_greater ki13 kh13_greater ⟨Nat.le_of_ble_eq_true rfl, Nat.le_of_ble_eq_true rfl⟩ rfl (by simp [e_rv_cat, e_int_cat]) ⟨Nat.le_refl _, Nat.le_refl _⟩ dX13_indent_43 rfl (fun H locs hp hS => ?_)
    refine lv_goto (tgt := 50) hx hb dX13_indent_46 (by decide) ?_
    exact w13_indent_b50 E hp hS (hl.sub [] rfl) hsh
set_option maxRecDepth 100000 in
set_option maxHeartbeats 4000000 in
theorem w13_indent_l2 {p : Program} {l : Launch} {e : Env} {s : State} {m : MethodId} {args : Array Value} {below : List Frame} {meth : Method} {c : Code} {D : va_G} {cA : Nat → ClassId} {B : Nat} {res : Int × HP} (E : e_En p s m args meth c cX13_indent RX13 3 (some .int)) : ∀ (f : Nat) {ls : Array Slot} {H : Heap} {locs : List Loc} {S : HP} {x0 : Int} {x1 : Int} {x2 : Int} (hp : e_Pic D cA B S s H) (hS : va_S (e_A B) s.heap H locs) (hl : e_lo ls 3 [(0, e_rv B (x0)), (1, .int (iI (x1))), (2, .int (iI (x2)))]) (hsh : s13_indent_l2 f S x0 x1 x2 = some res), W p l e ({ frames := 1, cells := 0, slots := 0, locals := 22 } : Room) s m args below meth c H locs 0 0 (MQ below (e_Qi D cA B res.1 res.2) args s 0 0 (e_A B)) (F0 m 2 ls []) := by
  obtain ⟨hx, hb, hml, hown, hts, hlk, hrt⟩ := id E
  intro f
  induction f with
  | zero => intro ls H locs S x0 x1 x2 hp hS hl hsh; cases hsh
  | succ f ih =>
    intro ls H locs S x0 x1 x2 hp hS hl hsh
    have hk2 : ∀ {ls : Array Slot} {H : Heap} {locs : List Loc} {S : HP} {x0 : Int} {x1 : Int} {x2 : Int} (hp : e_Pic D cA B S s H) (hS : va_S (e_A B) s.heap H locs) (hl : e_lo ls 3 [(0, e_rv B (x0)), (1, .int (iI (x1))), (2, .int (iI (x2)))]) (hsh : (s13_indent_l2 f) S x0 x1 x2 = some res), W p l e ({ frames := 1, cells := 0, slots := 0, locals := 22 } : Room) s m args below meth c H locs 0 0 (MQ below (e_Qi D cA B res.1 res.2) args s 0 0 (e_A B)) (F0 m 2 ls []) := ih
    generalize hkk : s13_indent_l2 f = k2 at hk2
    rw [s13_indent_l2] at hsh
    rw [hkk] at hsh
    try dsimp only at hsh
    refine lv_iload_n hx hb dX13_indent_2 rfl (hl.at 2 rfl) ?_
    refine e_aload_n (B := B) (x := x0) hx hb dX13_indent_3 rfl (hl.at 0 rfl) ?_
    obtain ⟨v4, h4, hsh⟩ := Option.bind_eq_some_iff.mp hsh
    refine e_getR (k := 3) hx hb hts in_X13 hown hp h4 rfl (by decide) (by decide) rfl (hts _ kf13_17) rfl dX13_indent_4 ?_
    refine lv_iload_n hx hb dX13_indent_7 rfl (hl.at 1 rfl) ?_
    obtain ⟨v8, h8, hsh⟩ := Option.bind_eq_some_iff.mp hsh
    refine e_iald hx hb hp h8 dX13_indent_8 ?_
    refine e_icmp_ge (tgt := 29) hx hb dX13_indent_9 (by decide) (fun c9 => ?_) (fun c9 => ?_)
    · rw [if_pos c9] at hsh
      exact w13_indent_b29 E hp hS (hl.sub [0, 1, 2] rfl) hsh
    · rw [if_neg c9] at hsh
      refine e_aload_n (B := B) (x := x0) hx hb dX13_indent_12 rfl (hl.at 0 rfl) ?_
      refine lv_iload_n hx hb dX13_indent_13 rfl (hl.at 1 rfl) ?_
      refine lv_iload_n hx hb dX13_indent_14 rfl (hl.at 2 rfl) ?_
      obtain ⟨⟨v15, S15⟩, h15, hsh⟩ := Option.bind_eq_some_iff.mp hsh
      have hsh : _ = _ := hsh
      try dsimp only at hsh
      have ok15 := ok13_at h15
      refine e_callI (nL := 3) (mc := 0) (ms := 0) (T := TX13) (N := 126) (As := [.int (iI (x1)), .int (iI (x2))]) (rest := []) hx hb hml hown hts hp hS hl.size ok15.1 ok15.2.1 ok15.2.2 rfl (by decide) (c13_at l D cA B S S15 (x0) (x1) (x2) v15 h15) rfl rfl kd13_at (kl13_206) ks13_at kv13_at ki13 kh13_at ⟨Nat.le_of_ble_eq_true rfl, Nat.le_of_ble_eq_true rfl⟩ rfl (by simp [e_rv_cat, e_int_cat]) ⟨Nat.le_refl _, Nat.le_refl _⟩ dX13_indent_15 rfl (fun H locs hp hS => ?_)
      refine lv_bipush (v := iI (32)) hx hb dX13_indent_18 (by decide +kernel) ?_
      refine e_icmp_ne (tgt := 29) hx hb dX13_indent_20 (by decide) (fun c20 => ?_) (fun c20 => ?_)
      · rw [if_neg c20] at hsh
        exact w13_indent_b29 E hp hS (hl.sub [0, 1, 2] rfl) hsh
      · rw [if_pos c20] at hsh
        refine e_iinc (n := 1) (x := x2) (lv' := [(2, .int (iI ((x2 + 1)))), (0, e_rv B (x0)), (1, .int (iI (x1)))]) hx hb dX13_indent_23 hl (k := 2) rfl (by decide) rfl (fun ls hl => ?_)
        refine lv_goto (tgt := 2) hx hb dX13_indent_26 (by decide) ?_
        exact hk2 hp hS (hl.sub [1, 2, 0] rfl) hsh
set_option maxRecDepth 100000 in
set_option maxHeartbeats 4000000 in
theorem c13_indent (l : Launch) (D : va_G) (cA : Nat → ClassId) (B : Nat) (S S' : HP) (x0 : Int) (x1 : Int) (r : Int) (hsh : s13_indent S x0 x1 = some (r, S')) : Met l yX13_indent (e_wu yX13_indent cX13_indent 3 (some .int)) ({ frames := 1, cells := 0, slots := 0, locals := 22 } : Room) (va_Pc [e_rv B (x0), .int (iI (x1))] (fun U => e_PU D cA B S U)) (e_Qi D cA B r S') 0 0 (e_A B) := by
  refine Met.ofW (cc := cX13_indent) (maxL := 3) (ret := (some .int)) (by decide +kernel) rfl ?_
  intro p e s m args below meth c s₁ Bd hml hv
  obtain ⟨rfl, hp⟩ := hv
  have hp : e_Pic D cA B S s s.heap := hp
  have hx := Bd.exec
  have hb := Bd.bytes
  have hrt := Bd.returns
  have hlk := Bd.notSynchronized
  have hown : s.vm.findClass RX13 = some m.cls := findClass_of_methodNamed Bd.named
  have hts : ∀ w ∈ e_tb, w.before ([e_rv B (x0), .int (iI (x1))] : List Value).toArray s = true := fun w h => atoms_spec (ws := (e_wu yX13_indent cX13_indent 3 (some .int))) Bd.pre w (List.mem_cons_of_mem _ h)
  have E : e_En p s m ([e_rv B (x0), .int (iI (x1))] : List Value).toArray meth c cX13_indent RX13 3 (some .int) := ⟨hx, hb, hml, hown, hts, hlk, hrt⟩
  have hS : va_S (e_A B) s.heap s.heap [] := va_S.rf
  have hl := e_entry (vs := [e_rv B (x0), .int (iI (x1))]) (n := 3) (Nat.le_of_ble_eq_true rfl) (e_cc (e_rv_cat _ _) (e_cc rfl e_cn))
  rw [lg_entry_eq]
  generalize (lg_sl [e_rv B (x0), .int (iI (x1))] ++ List.replicate (3 - (lg_sl [e_rv B (x0), .int (iI (x1))]).length) Slot.unset).toArray = ls at hl ⊢
  generalize ([e_rv B (x0), .int (iI (x1))] : List Value).toArray = args at hts E ⊢
  have hl : e_lo ls 3 [(0, e_rv B (x0)), (1, .int (iI (x1)))] := hl
  have hsh := (gd_some hsh).2
  refine lv_iconst (v := iI (0)) hx hb dX13_indent_0 rfl ?_
  refine e_istore_n (lv' := [(2, .int (iI (0))), (0, e_rv B (x0)), (1, .int (iI (x1)))]) hx hb dX13_indent_1 rfl hl (by decide) rfl (fun ls hl => ?_)
  exact w13_indent_l2 E 1000000 hp hS (hl.sub [1, 2, 0] rfl) hsh
theorem ok13_lastOf {S : HP} {x0 : Int} {x1 : Int} {r : Int × HP} (h : s13_lastOf S x0 x1 = some r) : 0 ≤ x0 ∧ x0.toNat < e_n S ∧ e_g S x0.toNat = 13 := (gd_some h).1
set_option maxRecDepth 100000 in
set_option maxHeartbeats 4000000 in
theorem c13_lastOf (l : Launch) (D : va_G) (cA : Nat → ClassId) (B : Nat) (S S' : HP) (x0 : Int) (x1 : Int) (r : Int) (hsh : s13_lastOf S x0 x1 = some (r, S')) : Met l yX13_lastOf (e_wu yX13_lastOf cX13_lastOf 2 (some .int)) ({ frames := 1, cells := 0, slots := 0, locals := 21 } : Room) (va_Pc [e_rv B (x0), .int (iI (x1))] (fun U => e_PU D cA B S U)) (e_Qi D cA B r S') 0 0 (e_A B) := by
  refine Met.ofW (cc := cX13_lastOf) (maxL := 2) (ret := (some .int)) (by decide +kernel) rfl ?_
  intro p e s m args below meth c s₁ Bd hml hv
  obtain ⟨rfl, hp⟩ := hv
  have hp : e_Pic D cA B S s s.heap := hp
  have hx := Bd.exec
  have hb := Bd.bytes
  have hrt := Bd.returns
  have hlk := Bd.notSynchronized
  have hown : s.vm.findClass RX13 = some m.cls := findClass_of_methodNamed Bd.named
  have hts : ∀ w ∈ e_tb, w.before ([e_rv B (x0), .int (iI (x1))] : List Value).toArray s = true := fun w h => atoms_spec (ws := (e_wu yX13_lastOf cX13_lastOf 2 (some .int))) Bd.pre w (List.mem_cons_of_mem _ h)
  have E : e_En p s m ([e_rv B (x0), .int (iI (x1))] : List Value).toArray meth c cX13_lastOf RX13 2 (some .int) := ⟨hx, hb, hml, hown, hts, hlk, hrt⟩
  have hS : va_S (e_A B) s.heap s.heap [] := va_S.rf
  have hl := e_entry (vs := [e_rv B (x0), .int (iI (x1))]) (n := 2) (Nat.le_of_ble_eq_true rfl) (e_cc (e_rv_cat _ _) (e_cc rfl e_cn))
  rw [lg_entry_eq]
  generalize (lg_sl [e_rv B (x0), .int (iI (x1))] ++ List.replicate (2 - (lg_sl [e_rv B (x0), .int (iI (x1))]).length) Slot.unset).toArray = ls at hl ⊢
  generalize ([e_rv B (x0), .int (iI (x1))] : List Value).toArray = args at hts E ⊢
  have hl : e_lo ls 2 [(0, e_rv B (x0)), (1, .int (iI (x1)))] := hl
  have hsh := (gd_some hsh).2
  refine lv_iconst (v := iI (0)) hx hb dX13_lastOf_0 rfl ?_
  refine e_aload_n (B := B) (x := x0) hx hb dX13_lastOf_1 rfl (hl.at 0 rfl) ?_
  obtain ⟨v2, h2, hsh⟩ := Option.bind_eq_some_iff.mp hsh
  refine e_getR (k := 3) hx hb hts in_X13 hown hp h2 rfl (by decide) (by decide) rfl (hts _ kf13_17) rfl dX13_lastOf_2 ?_
  refine lv_iload_n hx hb dX13_lastOf_5 rfl (hl.at 1 rfl) ?_
  obtain ⟨v6, h6, hsh⟩ := Option.bind_eq_some_iff.mp hsh
  refine e_iald hx hb hp h6 dX13_lastOf_6 ?_
  refine lv_iconst (v := iI (1)) hx hb dX13_lastOf_7 rfl ?_
  refine e_isub hx hb dX13_lastOf_8 ?_
  obtain ⟨⟨v9, S9⟩, h9, hsh⟩ := Option.bind_eq_some_iff.mp hsh
  have hsh : _ = _ := hsh
  try dsimp only at hsh
  refine e_callS (nL := 2) (mc := 0) (ms := 0) (As := [.int (iI (0)), .int (iI ((v6 - 1)))]) (rest := []) hx hb hml hown hts hp hS hl.size (c13_greater l D cA B S S9 (0) ((v6 - 1)) v9 h9) rfl rfl kd13_greater (kl13_210) ks13_greater ki13 kh13_greater ⟨Nat.le_of_ble_eq_true rfl, Nat.le_of_ble_eq_true rfl⟩ rfl (by simp [e_rv_cat, e_int_cat]) ⟨Nat.le_refl _, Nat.le_refl _⟩ dX13_lastOf_9 rfl (fun H locs hp hS => ?_)
  cases hsh
  exact e_iret hx hb hrt hlk hp hS dX13_lastOf_12
theorem ok13_goes {S : HP} {x0 : Int} {x1 : Int} {x2 : Int} {r : HP} (h : s13_goes S x0 x1 x2 = some r) : 0 ≤ x0 ∧ x0.toNat < e_n S ∧ e_g S x0.toNat = 13 := (gd_some h).1
set_option maxRecDepth 100000 in
set_option maxHeartbeats 4000000 in
theorem c13_goes (l : Launch) (D : va_G) (cA : Nat → ClassId) (B : Nat) (S S' : HP) (x0 : Int) (x1 : Int) (x2 : Int) (hsh : s13_goes S x0 x1 x2 = some S') : Met l yX13_goes (e_wu yX13_goes cX13_goes 3 none) ({ frames := 0, cells := 0, slots := 0, locals := 0 } : Room) (va_Pc [e_rv B (x0), .int (iI (x1)), .int (iI (x2))] (fun U => e_PU D cA B S U)) (e_Qv D cA B S') 0 0 (e_A B) := by
  refine Met.ofW (cc := cX13_goes) (maxL := 3) (ret := none) (by decide +kernel) rfl ?_
  intro p e s m args below meth c s₁ Bd hml hv
  obtain ⟨rfl, hp⟩ := hv
  have hp : e_Pic D cA B S s s.heap := hp
  have hx := Bd.exec
  have hb := Bd.bytes
  have hrt := Bd.returns
  have hlk := Bd.notSynchronized
  have hown : s.vm.findClass RX13 = some m.cls := findClass_of_methodNamed Bd.named
  have hts : ∀ w ∈ e_tb, w.before ([e_rv B (x0), .int (iI (x1)), .int (iI (x2))] : List Value).toArray s = true := fun w h => atoms_spec (ws := (e_wu yX13_goes cX13_goes 3 none)) Bd.pre w (List.mem_cons_of_mem _ h)
  have E : e_En p s m ([e_rv B (x0), .int (iI (x1)), .int (iI (x2))] : List Value).toArray meth c cX13_goes RX13 3 none := ⟨hx, hb, hml, hown, hts, hlk, hrt⟩
  have hS : va_S (e_A B) s.heap s.heap [] := va_S.rf
  have hl := e_entry (vs := [e_rv B (x0), .int (iI (x1)), .int (iI (x2))]) (n := 3) (Nat.le_of_ble_eq_true rfl) (e_cc (e_rv_cat _ _) (e_cc rfl (e_cc rfl e_cn)))
  rw [lg_entry_eq]
  generalize (lg_sl [e_rv B (x0), .int (iI (x1)), .int (iI (x2))] ++ List.replicate (3 - (lg_sl [e_rv B (x0), .int (iI (x1)), .int (iI (x2))]).length) Slot.unset).toArray = ls at hl ⊢
  generalize ([e_rv B (x0), .int (iI (x1)), .int (iI (x2))] : List Value).toArray = args at hts E ⊢
  have hl : e_lo ls 3 [(0, e_rv B (x0)), (1, .int (iI (x1))), (2, .int (iI (x2)))] := hl
  have hsh := (gd_some hsh).2
  refine e_aload_n (B := B) (x := x0) hx hb dX13_goes_0 rfl (hl.at 0 rfl) ?_
  refine lv_iload_n hx hb dX13_goes_1 rfl (hl.at 1 rfl) ?_
  obtain ⟨S2, h2, hsh⟩ := Option.bind_eq_some_iff.mp hsh
  refine e_putI (k := 5) hx hb hts in_X13 tyX13 tyX13_ok nmX13 hown hp hS h2 rfl (by decide) (by decide) rfl (hts _ kf13_213) rfl rfl (by decide +kernel) dX13_goes_2 (fun H locs hp hS => ?_)
  refine e_aload_n (B := B) (x := x0) hx hb dX13_goes_5 rfl (hl.at 0 rfl) ?_
  refine lv_iload_n hx hb dX13_goes_6 rfl (hl.at 2 rfl) ?_
  obtain ⟨S7, h7, hsh⟩ := Option.bind_eq_some_iff.mp hsh
  refine e_putI (k := 6) hx hb hts in_X13 tyX13 tyX13_ok nmX13 hown hp hS h7 rfl (by decide) (by decide) rfl (hts _ kf13_216) rfl rfl (by decide +kernel) dX13_goes_7 (fun H locs hp hS => ?_)
  refine e_aload_n (B := B) (x := x0) hx hb dX13_goes_10 rfl (hl.at 0 rfl) ?_
  refine lv_iload_n hx hb dX13_goes_11 rfl (hl.at 2 rfl) ?_
  obtain ⟨S12, h12, hsh⟩ := Option.bind_eq_some_iff.mp hsh
  refine e_putI (k := 7) hx hb hts in_X13 tyX13 tyX13_ok nmX13 hown hp hS h12 rfl (by decide) (by decide) rfl (hts _ kf13_219) rfl rfl (by decide +kernel) dX13_goes_12 (fun H locs hp hS => ?_)
  cases hsh
  exact e_vret hx hb hrt hlk hp hS dX13_goes_15
theorem ok13_goesTo {S : HP} {x0 : Int} {x1 : Int} {r : HP} (h : s13_goesTo S x0 x1 = some r) : 0 ≤ x0 ∧ x0.toNat < e_n S ∧ e_g S x0.toNat = 13 := (gd_some h).1
set_option maxRecDepth 100000 in
set_option maxHeartbeats 4000000 in
theorem c13_goesTo (l : Launch) (D : va_G) (cA : Nat → ClassId) (B : Nat) (S S' : HP) (x0 : Int) (x1 : Int) (hsh : s13_goesTo S x0 x1 = some S') : Met l yX13_goesTo (e_wu yX13_goesTo cX13_goesTo 2 none) ({ frames := 2, cells := 0, slots := 0, locals := 44 } : Room) (va_Pc [e_rv B (x0), .int (iI (x1))] (fun U => e_PU D cA B S U)) (e_Qv D cA B S') 0 0 (e_A B) := by
  refine Met.ofW (cc := cX13_goesTo) (maxL := 2) (ret := none) (by decide +kernel) rfl ?_
  intro p e s m args below meth c s₁ Bd hml hv
  obtain ⟨rfl, hp⟩ := hv
  have hp : e_Pic D cA B S s s.heap := hp
  have hx := Bd.exec
  have hb := Bd.bytes
  have hrt := Bd.returns
  have hlk := Bd.notSynchronized
  have hown : s.vm.findClass RX13 = some m.cls := findClass_of_methodNamed Bd.named
  have hts : ∀ w ∈ e_tb, w.before ([e_rv B (x0), .int (iI (x1))] : List Value).toArray s = true := fun w h => atoms_spec (ws := (e_wu yX13_goesTo cX13_goesTo 2 none)) Bd.pre w (List.mem_cons_of_mem _ h)
  have E : e_En p s m ([e_rv B (x0), .int (iI (x1))] : List Value).toArray meth c cX13_goesTo RX13 2 none := ⟨hx, hb, hml, hown, hts, hlk, hrt⟩
  have hS : va_S (e_A B) s.heap s.heap [] := va_S.rf
  have hl := e_entry (vs := [e_rv B (x0), .int (iI (x1))]) (n := 2) (Nat.le_of_ble_eq_true rfl) (e_cc (e_rv_cat _ _) (e_cc rfl e_cn))
  rw [lg_entry_eq]
  generalize (lg_sl [e_rv B (x0), .int (iI (x1))] ++ List.replicate (2 - (lg_sl [e_rv B (x0), .int (iI (x1))]).length) Slot.unset).toArray = ls at hl ⊢
  generalize ([e_rv B (x0), .int (iI (x1))] : List Value).toArray = args at hts E ⊢
  have hl : e_lo ls 2 [(0, e_rv B (x0)), (1, .int (iI (x1)))] := hl
  have hsh := (gd_some hsh).2
  refine e_aload_n (B := B) (x := x0) hx hb dX13_goesTo_0 rfl (hl.at 0 rfl) ?_
  refine lv_iload_n hx hb dX13_goesTo_1 rfl (hl.at 1 rfl) ?_
  refine e_aload_n (B := B) (x := x0) hx hb dX13_goesTo_2 rfl (hl.at 0 rfl) ?_
  refine lv_iload_n hx hb dX13_goesTo_3 rfl (hl.at 1 rfl) ?_
  obtain ⟨⟨v4, S4⟩, h4, hsh⟩ := Option.bind_eq_some_iff.mp hsh
  have hsh : _ = _ := hsh
  try dsimp only at hsh
  have ok4 := ok13_indent h4
  refine e_callI (nL := 2) (mc := 0) (ms := 0) (T := TX13) (N := 126) (As := [.int (iI (x1))]) (rest := [.int (iI (x1)), e_rv B (x0)]) hx hb hml hown hts hp hS hl.size ok4.1 ok4.2.1 ok4.2.2 rfl (by decide) (c13_indent l D cA B S S4 (x0) (x1) v4 h4) rfl rfl kd13_indent (kl13_222) ks13_indent kv13_indent ki13 kh13_indent ⟨Nat.le_of_ble_eq_true rfl, Nat.le_of_ble_eq_true rfl⟩ rfl (by simp [e_rv_cat, e_int_cat]) ⟨Nat.le_refl _, Nat.le_refl _⟩ dX13_goesTo_4 rfl (fun H locs hp hS => ?_)
  obtain ⟨S7, h7, hsh⟩ := Option.bind_eq_some_iff.mp hsh
  have ok7 := ok13_goes h7
  refine e_callV (nL := 2) (mc := 0) (ms := 0) (T := TX13) (N := 126) (As := [.int (iI (x1)), .int (iI (v4))]) (rest := []) hx hb hml hown hts hp hS hl.size ok7.1 ok7.2.1 ok7.2.2 rfl (by decide) (c13_goes l D cA B S4 S7 (x0) (x1) (v4) h7) rfl rfl kd13_goes (kl13_226) ks13_goes kv13_goes ki13 kh13_goes ⟨Nat.le_of_ble_eq_true rfl, Nat.le_of_ble_eq_true rfl⟩ rfl (by simp [e_rv_cat, e_int_cat]) ⟨Nat.le_refl _, Nat.le_refl _⟩ dX13_goesTo_7 rfl (fun H locs hp hS => ?_)
  cases hsh
  exact e_vret hx hb hrt hlk hp hS dX13_goesTo_10
set_option maxRecDepth 100000 in
set_option maxHeartbeats 4000000 in
theorem w13_behind_b12 {p : Program} {l : Launch} {e : Env} {s : State} {m : MethodId} {args : Array Value} {below : List Frame} {meth : Method} {c : Code} {D : va_G} {cA : Nat → ClassId} {B : Nat} {res : Int × HP} (E : e_En p s m args meth c cX13_behind RX13 3 (some .int)) {ls : Array Slot} {H : Heap} {locs : List Loc} {S : HP} {y0 : Int} (hp : e_Pic D cA B S s H) (hS : va_S (e_A B) s.heap H locs) (hl : e_lo ls 3 []) (hsh : s13_behind_b12 S y0 = some res) : W p l e ({ frames := 0, cells := 0, slots := 0, locals := 0 } : Room) s m args below meth c H locs 0 0 (MQ below (e_Qi D cA B res.1 res.2) args s 0 0 (e_A B)) (F0 m 12 ls [.int (iI (y0))]) := by
  obtain ⟨hx, hb, hml, hown, hts, hlk, hrt⟩ := id E
  unfold s13_behind_b12 at hsh
  cases hsh
  exact e_iret hx hb hrt hlk hp hS dX13_behind_12
set_option maxRecDepth 100000 in
set_option maxHeartbeats 4000000 in
theorem c13_behind (l : Launch) (D : va_G) (cA : Nat → ClassId) (B : Nat) (S S' : HP) (x0 : Int) (x1 : Int) (x2 : Int) (r : Int) (hsh : s13_behind S x0 x1 x2 = some (r, S')) : Met l yX13_behind (e_wu yX13_behind cX13_behind 3 (some .int)) ({ frames := 0, cells := 0, slots := 0, locals := 0 } : Room) (va_Pc [.int (iI (x0)), .int (iI (x1)), .int (iI (x2))] (fun U => e_PU D cA B S U)) (e_Qi D cA B r S') 0 0 (e_A B) := by
  refine Met.ofW (cc := cX13_behind) (maxL := 3) (ret := (some .int)) (by decide +kernel) rfl ?_
  intro p e s m args below meth c s₁ Bd hml hv
  obtain ⟨rfl, hp⟩ := hv
  have hp : e_Pic D cA B S s s.heap := hp
  have hx := Bd.exec
  have hb := Bd.bytes
  have hrt := Bd.returns
  have hlk := Bd.notSynchronized
  have hown : s.vm.findClass RX13 = some m.cls := findClass_of_methodNamed Bd.named
  have hts : ∀ w ∈ e_tb, w.before ([.int (iI (x0)), .int (iI (x1)), .int (iI (x2))] : List Value).toArray s = true := fun w h => atoms_spec (ws := (e_wu yX13_behind cX13_behind 3 (some .int))) Bd.pre w (List.mem_cons_of_mem _ h)
  have E : e_En p s m ([.int (iI (x0)), .int (iI (x1)), .int (iI (x2))] : List Value).toArray meth c cX13_behind RX13 3 (some .int) := ⟨hx, hb, hml, hown, hts, hlk, hrt⟩
  have hS : va_S (e_A B) s.heap s.heap [] := va_S.rf
  have hl := e_entry (vs := [.int (iI (x0)), .int (iI (x1)), .int (iI (x2))]) (n := 3) (Nat.le_of_ble_eq_true rfl) (e_cc rfl (e_cc rfl (e_cc rfl e_cn)))
  rw [lg_entry_eq]
  generalize (lg_sl [.int (iI (x0)), .int (iI (x1)), .int (iI (x2))] ++ List.replicate (3 - (lg_sl [.int (iI (x0)), .int (iI (x1)), .int (iI (x2))]).length) Slot.unset).toArray = ls at hl ⊢
  generalize ([.int (iI (x0)), .int (iI (x1)), .int (iI (x2))] : List Value).toArray = args at hts E ⊢
  have hl : e_lo ls 3 [(0, .int (iI (x0))), (1, .int (iI (x1))), (2, .int (iI (x2)))] := hl
  unfold s13_behind at hsh
  refine lv_iload_n hx hb dX13_behind_0 rfl (hl.at 0 rfl) ?_
  refine lv_iload_n hx hb dX13_behind_1 rfl (hl.at 1 rfl) ?_
  refine e_icmp_lt (tgt := 11) hx hb dX13_behind_2 (by decide) (fun c2 => ?_) (fun c2 => ?_)
  · rw [if_pos c2] at hsh
    refine lv_iload_n hx hb dX13_behind_11 rfl (hl.at 0 rfl) ?_
    exact w13_behind_b12 E hp hS (hl.sub [] rfl) hsh
  · rw [if_neg c2] at hsh
    refine lv_iload_n hx hb dX13_behind_5 rfl (hl.at 0 rfl) ?_
    refine lv_iload_n hx hb dX13_behind_6 rfl (hl.at 2 rfl) ?_
    refine e_iadd hx hb dX13_behind_7 ?_
    refine lv_goto (tgt := 12) hx hb dX13_behind_8 (by decide) ?_
    exact w13_behind_b12 E hp hS (hl.sub [] rfl) hsh
theorem ok13_closedAt {S : HP} {x0 : Int} {x1 : Int} {r : Int × HP} (h : s13_closedAt S x0 x1 = some r) : 0 ≤ x0 ∧ x0.toNat < e_n S ∧ e_g S x0.toNat = 13 := (gd_some h).1
set_option maxRecDepth 100000 in
set_option maxHeartbeats 4000000 in
theorem w13_closedAt_b75 {p : Program} {l : Launch} {e : Env} {s : State} {m : MethodId} {args : Array Value} {below : List Frame} {meth : Method} {c : Code} {D : va_G} {cA : Nat → ClassId} {B : Nat} {res : Int × HP} (E : e_En p s m args meth c cX13_closedAt RX13 5 (some .int)) {ls : Array Slot} {H : Heap} {locs : List Loc} {S : HP} {x2 : Int} (hp : e_Pic D cA B S s H) (hS : va_S (e_A B) s.heap H locs) (hl : e_lo ls 5 [(2, .int (iI (x2)))]) (hsh : s13_closedAt_b75 S x2 = some res) : W p l e ({ frames := 0, cells := 0, slots := 0, locals := 0 } : Room) s m args below meth c H locs 0 0 (MQ below (e_Qi D cA B res.1 res.2) args s 0 0 (e_A B)) (F0 m 75 ls []) := by
  obtain ⟨hx, hb, hml, hown, hts, hlk, hrt⟩ := id E
  unfold s13_closedAt_b75 at hsh
  refine lv_iload_n hx hb dX13_closedAt_75 rfl (hl.at 0 rfl) ?_
  cases hsh
  exact e_iret hx hb hrt hlk hp hS dX13_closedAt_76
set_option maxRecDepth 100000 in
set_option maxHeartbeats 4000000 in
theorem w13_closedAt_b69 {p : Program} {l : Launch} {e : Env} {s : State} {m : MethodId} {args : Array Value} {below : List Frame} {meth : Method} {c : Code} {D : va_G} {cA : Nat → ClassId} {B : Nat} {res : Int × HP} {k4 : HP → Int → Int → Int → Int → Option (Int × HP)} (hk4 : ∀ {ls : Array Slot} {H : Heap} {locs : List Loc} {S : HP} {x0 : Int} {x1 : Int} {x2 : Int} {x3 : Int} (hp : e_Pic D cA B S s H) (hS : va_S (e_A B) s.heap H locs) (hl : e_lo ls 5 [(0, e_rv B (x0)), (1, .int (iI (x1))), (2, .int (iI (x2))), (3, .int (iI (x3)))]) (hsh : k4 S x0 x1 x2 x3 = some res), W p l e ({ frames := 0, cells := 0, slots := 0, locals := 0 } : Room) s m args below meth c H locs 0 0 (MQ below (e_Qi D cA B res.1 res.2) args s 0 0 (e_A B)) (F0 m 4 ls [])) (E : e_En p s m args meth c cX13_closedAt RX13 5 (some .int)) {ls : Array Slot} {H : Heap} {locs : List Loc} {S : HP} {x0 : Int} {x1 : Int} {x2 : Int} {x3 : Int} (hp : e_Pic D cA B S s H) (hS : va_S (e_A B) s.heap H locs) (hl : e_lo ls 5 [(0, e_rv B (x0)), (1, .int (iI (x1))), (2, .int (iI (x2))), (3, .int (iI (x3)))]) (hsh : s13_closedAt_b69 k4 S x0 x1 x2 x3 = some res) : W p l e ({ frames := 0, cells := 0, slots := 0, locals := 0 } : Room) s m args below meth c H locs 0 0 (MQ below (e_Qi D cA B res.1 res.2) args s 0 0 (e_A B)) (F0 m 69 ls []) := by
  obtain ⟨hx, hb, hml, hown, hts, hlk, hrt⟩ := id E
  unfold s13_closedAt_b69 at hsh
  refine e_iinc (n := 1) (x := x3) (lv' := [(3, .int (iI ((x3 + 1)))), (0, e_rv B (x0)), (1, .int (iI (x1))), (2, .int (iI (x2)))]) hx hb dX13_closedAt_69 hl (k := 3) rfl (by decide) rfl (fun ls hl => ?_)
  refine lv_goto (tgt := 4) hx hb dX13_closedAt_72 (by decide) ?_
  exact hk4 hp hS (hl.sub [1, 2, 3, 0] rfl) hsh
set_option maxRecDepth 100000 in
set_option maxHeartbeats 4000000 in
theorem w13_closedAt_b62 {p : Program} {l : Launch} {e : Env} {s : State} {m : MethodId} {args : Array Value} {below : List Frame} {meth : Method} {c : Code} {D : va_G} {cA : Nat → ClassId} {B : Nat} {res : Int × HP} {k4 : HP → Int → Int → Int → Int → Option (Int × HP)} (hk4 : ∀ {ls : Array Slot} {H : Heap} {locs : List Loc} {S : HP} {x0 : Int} {x1 : Int} {x2 : Int} {x3 : Int} (hp : e_Pic D cA B S s H) (hS : va_S (e_A B) s.heap H locs) (hl : e_lo ls 5 [(0, e_rv B (x0)), (1, .int (iI (x1))), (2, .int (iI (x2))), (3, .int (iI (x3)))]) (hsh : k4 S x0 x1 x2 x3 = some res), W p l e ({ frames := 0, cells := 0, slots := 0, locals := 0 } : Room) s m args below meth c H locs 0 0 (MQ below (e_Qi D cA B res.1 res.2) args s 0 0 (e_A B)) (F0 m 4 ls [])) {k25 : HP → Int → Int → Int → Int → Int → Option (Int × HP)} (hk25 : ∀ {ls : Array Slot} {H : Heap} {locs : List Loc} {S : HP} {x0 : Int} {x1 : Int} {x2 : Int} {x3 : Int} {x4 : Int} (hp : e_Pic D cA B S s H) (hS : va_S (e_A B) s.heap H locs) (hl : e_lo ls 5 [(0, e_rv B (x0)), (1, .int (iI (x1))), (2, .int (iI (x2))), (3, .int (iI (x3))), (4, .int (iI (x4)))]) (hsh : k25 S x0 x1 x2 x3 x4 = some res), W p l e ({ frames := 0, cells := 0, slots := 0, locals := 0 } : Room) s m args below meth c H locs 0 0 (MQ below (e_Qi D cA B res.1 res.2) args s 0 0 (e_A B)) (F0 m 25 ls [])) (E : e_En p s m args meth c cX13_closedAt RX13 5 (some .int)) {ls : Array Slot} {H : Heap} {locs : List Loc} {S : HP} {x0 : Int} {x1 : Int} {x3 : Int} {x4 : Int} {y0 : Int} (hp : e_Pic D cA B S s H) (hS : va_S (e_A B) s.heap H locs) (hl : e_lo ls 5 [(0, e_rv B (x0)), (1, .int (iI (x1))), (3, .int (iI (x3))), (4, .int (iI (x4)))]) (hsh : s13_closedAt_b62 k4 k25 S x0 x1 x3 x4 y0 = some res) : W p l e ({ frames := 0, cells := 0, slots := 0, locals := 0 } : Room) s m args below meth c H locs 0 0 (MQ below (e_Qi D cA B res.1 res.2) args s 0 0 (e_A B)) (F0 m 62 ls [.int (iI (y0))]) := by
  obtain ⟨hx, hb, hml, hown, hts, hlk, hrt⟩ := id E
  unfold s13_closedAt_b62 at hsh
  refine e_istore_n (lv' := [(2, .int (iI (y0))), (0, e_rv B (x0)), (1, .int (iI (x1))), (3, .int (iI (x3))), (4, .int (iI (x4)))]) hx hb dX13_closedAt_62 rfl hl (by decide) rfl (fun ls hl => ?_)
  refine e_iinc (n := (-1)) (x := x4) (lv' := [(4, .int (iI ((x4 + (-1))))), (2, .int (iI (y0))), (0, e_rv B (x0)), (1, .int (iI (x1))), (3, .int (iI (x3)))]) hx hb dX13_closedAt_63 hl (k := 4) rfl (by decide) rfl (fun ls hl => ?_)
  refine lv_goto (tgt := 25) hx hb dX13_closedAt_66 (by decide) ?_
  exact hk25 hp hS (hl.sub [2, 3, 1, 4, 0] rfl) hsh
set_option maxRecDepth 100000 in
set_option maxHeartbeats 4000000 in
theorem w13_closedAt_l25 {p : Program} {l : Launch} {e : Env} {s : State} {m : MethodId} {args : Array Value} {below : List Frame} {meth : Method} {c : Code} {D : va_G} {cA : Nat → ClassId} {B : Nat} {res : Int × HP} {k4 : HP → Int → Int → Int → Int → Option (Int × HP)} (hk4 : ∀ {ls : Array Slot} {H : Heap} {locs : List Loc} {S : HP} {x0 : Int} {x1 : Int} {x2 : Int} {x3 : Int} (hp : e_Pic D cA B S s H) (hS : va_S (e_A B) s.heap H locs) (hl : e_lo ls 5 [(0, e_rv B (x0)), (1, .int (iI (x1))), (2, .int (iI (x2))), (3, .int (iI (x3)))]) (hsh : k4 S x0 x1 x2 x3 = some res), W p l e ({ frames := 0, cells := 0, slots := 0, locals := 0 } : Room) s m args below meth c H locs 0 0 (MQ below (e_Qi D cA B res.1 res.2) args s 0 0 (e_A B)) (F0 m 4 ls [])) (E : e_En p s m args meth c cX13_closedAt RX13 5 (some .int)) : ∀ (f : Nat) {ls : Array Slot} {H : Heap} {locs : List Loc} {S : HP} {x0 : Int} {x1 : Int} {x2 : Int} {x3 : Int} {x4 : Int} (hp : e_Pic D cA B S s H) (hS : va_S (e_A B) s.heap H locs) (hl : e_lo ls 5 [(0, e_rv B (x0)), (1, .int (iI (x1))), (2, .int (iI (x2))), (3, .int (iI (x3))), (4, .int (iI (x4)))]) (hsh : s13_closedAt_l25 k4 f S x0 x1 x2 x3 x4 = some res), W p l e ({ frames := 0, cells := 0, slots := 0, locals := 0 } : Room) s m args below meth c H locs 0 0 (MQ below (e_Qi D cA B res.1 res.2) args s 0 0 (e_A B)) (F0 m 25 ls []) := by
  obtain ⟨hx, hb, hml, hown, hts, hlk, hrt⟩ := id E
  intro f
  induction f with
  | zero => intro ls H locs S x0 x1 x2 x3 x4 hp hS hl hsh; cases hsh
  | succ f ih =>
    intro ls H locs S x0 x1 x2 x3 x4 hp hS hl hsh
    have hk25 : ∀ {ls : Array Slot} {H : Heap} {locs : List Loc} {S : HP} {x0 : Int} {x1 : Int} {x2 : Int} {x3 : Int} {x4 : Int} (hp : e_Pic D cA B S s H) (hS : va_S (e_A B) s.heap H locs) (hl : e_lo ls 5 [(0, e_rv B (x0)), (1, .int (iI (x1))), (2, .int (iI (x2))), (3, .int (iI (x3))), (4, .int (iI (x4)))]) (hsh : (s13_closedAt_l25 k4 f) S x0 x1 x2 x3 x4 = some res), W p l e ({ frames := 0, cells := 0, slots := 0, locals := 0 } : Room) s m args below meth c H locs 0 0 (MQ below (e_Qi D cA B res.1 res.2) args s 0 0 (e_A B)) (F0 m 25 ls []) := ih
    generalize hkk : s13_closedAt_l25 k4 f = k25 at hk25
    rw [s13_closedAt_l25] at hsh
    rw [hkk] at hsh
    try dsimp only at hsh
    refine lv_iload hx hb dX13_closedAt_25 (hl.at 4 rfl) ?_
    refine lv_iload_n hx hb dX13_closedAt_27 rfl (hl.at 1 rfl) ?_
    refine e_icmp_lt (tgt := 69) hx hb dX13_closedAt_28 (by decide) (fun c28 => ?_) (fun c28 => ?_)
    · rw [if_pos c28] at hsh
      exact w13_closedAt_b69 (hk4 := hk4) E hp hS (hl.sub [0, 1, 2, 3] rfl) hsh
    · rw [if_neg c28] at hsh
      refine lv_iload_n hx hb dX13_closedAt_31 rfl (hl.at 2 rfl) ?_
      refine lv_iconst (v := iI (-1)) hx hb dX13_closedAt_32 rfl ?_
      refine e_icmp_ne (tgt := 69) hx hb dX13_closedAt_33 (by decide) (fun c33 => ?_) (fun c33 => ?_)
      · rw [if_neg c33] at hsh
        exact w13_closedAt_b69 (hk4 := hk4) E hp hS (hl.sub [0, 1, 2, 3] rfl) hsh
      · rw [if_pos c33] at hsh
        refine e_aload_n (B := B) (x := x0) hx hb dX13_closedAt_36 rfl (hl.at 0 rfl) ?_
        obtain ⟨v37, h37, hsh⟩ := Option.bind_eq_some_iff.mp hsh
        refine e_getR (k := 22) hx hb hts in_X13 hown hp h37 rfl (by decide) (by decide) rfl (hts _ kf13_51) rfl dX13_closedAt_37 ?_
        refine lv_bipush (v := iI (40)) hx hb dX13_closedAt_40 (by decide +kernel) ?_
        refine lv_iload_n hx hb dX13_closedAt_42 rfl (hl.at 3 rfl) ?_
        refine e_imul hx hb dX13_closedAt_43 ?_
        refine lv_iload hx hb dX13_closedAt_44 (hl.at 4 rfl) ?_
        refine e_iadd hx hb dX13_closedAt_46 ?_
        obtain ⟨v47, h47, hsh⟩ := Option.bind_eq_some_iff.mp hsh
        refine e_iald hx hb hp h47 dX13_closedAt_47 ?_
        refine e_if_le (tgt := 61) hx hb dX13_closedAt_48 (by decide) (fun c48 => ?_) (fun c48 => ?_)
        · rw [if_pos c48] at hsh
          refine lv_iload_n hx hb dX13_closedAt_61 rfl (hl.at 2 rfl) ?_
          exact w13_closedAt_b62 (hk4 := hk4) (hk25 := hk25) E hp hS (hl.sub [0, 1, 3, 4] rfl) hsh
        · rw [if_neg c48] at hsh
          refine lv_bipush (v := iI (40)) hx hb dX13_closedAt_51 (by decide +kernel) ?_
          refine lv_iload_n hx hb dX13_closedAt_53 rfl (hl.at 3 rfl) ?_
          refine e_imul hx hb dX13_closedAt_54 ?_
          refine lv_iload hx hb dX13_closedAt_55 (hl.at 4 rfl) ?_
          refine e_iadd hx hb dX13_closedAt_57 ?_
          refine lv_goto (tgt := 62) hx hb dX13_closedAt_58 (by decide) ?_
          exact w13_closedAt_b62 (hk4 := hk4) (hk25 := hk25) E hp hS (hl.sub [0, 1, 3, 4] rfl) hsh
set_option maxRecDepth 100000 in
set_option maxHeartbeats 4000000 in
theorem w13_closedAt_l4 {p : Program} {l : Launch} {e : Env} {s : State} {m : MethodId} {args : Array Value} {below : List Frame} {meth : Method} {c : Code} {D : va_G} {cA : Nat → ClassId} {B : Nat} {res : Int × HP} (E : e_En p s m args meth c cX13_closedAt RX13 5 (some .int)) : ∀ (f : Nat) {ls : Array Slot} {H : Heap} {locs : List Loc} {S : HP} {x0 : Int} {x1 : Int} {x2 : Int} {x3 : Int} (hp : e_Pic D cA B S s H) (hS : va_S (e_A B) s.heap H locs) (hl : e_lo ls 5 [(0, e_rv B (x0)), (1, .int (iI (x1))), (2, .int (iI (x2))), (3, .int (iI (x3)))]) (hsh : s13_closedAt_l4 f S x0 x1 x2 x3 = some res), W p l e ({ frames := 0, cells := 0, slots := 0, locals := 0 } : Room) s m args below meth c H locs 0 0 (MQ below (e_Qi D cA B res.1 res.2) args s 0 0 (e_A B)) (F0 m 4 ls []) := by
  obtain ⟨hx, hb, hml, hown, hts, hlk, hrt⟩ := id E
  intro f
  induction f with
  | zero => intro ls H locs S x0 x1 x2 x3 hp hS hl hsh; cases hsh
  | succ f ih =>
    intro ls H locs S x0 x1 x2 x3 hp hS hl hsh
    have hk4 : ∀ {ls : Array Slot} {H : Heap} {locs : List Loc} {S : HP} {x0 : Int} {x1 : Int} {x2 : Int} {x3 : Int} (hp : e_Pic D cA B S s H) (hS : va_S (e_A B) s.heap H locs) (hl : e_lo ls 5 [(0, e_rv B (x0)), (1, .int (iI (x1))), (2, .int (iI (x2))), (3, .int (iI (x3)))]) (hsh : (s13_closedAt_l4 f) S x0 x1 x2 x3 = some res), W p l e ({ frames := 0, cells := 0, slots := 0, locals := 0 } : Room) s m args below meth c H locs 0 0 (MQ below (e_Qi D cA B res.1 res.2) args s 0 0 (e_A B)) (F0 m 4 ls []) := ih
    generalize hkk : s13_closedAt_l4 f = k4 at hk4
    rw [s13_closedAt_l4] at hsh
    rw [hkk] at hsh
    try dsimp only at hsh
    refine lv_iload_n hx hb dX13_closedAt_4 rfl (hl.at 3 rfl) ?_
    refine lv_iload_n hx hb dX13_closedAt_5 rfl (hl.at 1 rfl) ?_
    refine e_icmp_gt (tgt := 75) hx hb dX13_closedAt_6 (by decide) (fun c6 => ?_) (fun c6 => ?_)
    · rw [if_pos c6] at hsh
      exact w13_closedAt_b75 E hp hS (hl.sub [2] rfl) hsh
    · rw [if_neg c6] at hsh
      refine lv_iload_n hx hb dX13_closedAt_9 rfl (hl.at 2 rfl) ?_
      refine lv_iconst (v := iI (-1)) hx hb dX13_closedAt_10 rfl ?_
      refine e_icmp_ne (tgt := 75) hx hb dX13_closedAt_11 (by decide) (fun c11 => ?_) (fun c11 => ?_)
      · rw [if_neg c11] at hsh
        exact w13_closedAt_b75 E hp hS (hl.sub [2] rfl) hsh
      · rw [if_pos c11] at hsh
        refine e_aload_n (B := B) (x := x0) hx hb dX13_closedAt_14 rfl (hl.at 0 rfl) ?_
        obtain ⟨v15, h15, hsh⟩ := Option.bind_eq_some_iff.mp hsh
        refine e_getI (k := 20) hx hb hts in_X13 hown hp h15 rfl (by decide) (by decide) rfl (hts _ kf13_237) rfl dX13_closedAt_15 ?_
        refine e_if_le (tgt := 75) hx hb dX13_closedAt_18 (by decide) (fun c18 => ?_) (fun c18 => ?_)
        · rw [if_pos c18] at hsh
          exact w13_closedAt_b75 E hp hS (hl.sub [2] rfl) hsh
        · rw [if_neg c18] at hsh
          refine lv_bipush (v := iI (39)) hx hb dX13_closedAt_21 (by decide +kernel) ?_
          refine e_istore (lv' := [(4, .int (iI (39))), (0, e_rv B (x0)), (1, .int (iI (x1))), (2, .int (iI (x2))), (3, .int (iI (x3)))]) hx hb dX13_closedAt_23 hl (by decide) rfl (fun ls hl => ?_)
          exact w13_closedAt_l25 (hk4 := hk4) E 1000000 hp hS (hl.sub [1, 2, 3, 4, 0] rfl) hsh
set_option maxRecDepth 100000 in
set_option maxHeartbeats 4000000 in
theorem c13_closedAt (l : Launch) (D : va_G) (cA : Nat → ClassId) (B : Nat) (S S' : HP) (x0 : Int) (x1 : Int) (r : Int) (hsh : s13_closedAt S x0 x1 = some (r, S')) : Met l yX13_closedAt (e_wu yX13_closedAt cX13_closedAt 5 (some .int)) ({ frames := 0, cells := 0, slots := 0, locals := 0 } : Room) (va_Pc [e_rv B (x0), .int (iI (x1))] (fun U => e_PU D cA B S U)) (e_Qi D cA B r S') 0 0 (e_A B) := by
  refine Met.ofW (cc := cX13_closedAt) (maxL := 5) (ret := (some .int)) (by decide +kernel) rfl ?_
  intro p e s m args below meth c s₁ Bd hml hv
  obtain ⟨rfl, hp⟩ := hv
  have hp : e_Pic D cA B S s s.heap := hp
  have hx := Bd.exec
  have hb := Bd.bytes
  have hrt := Bd.returns
  have hlk := Bd.notSynchronized
  have hown : s.vm.findClass RX13 = some m.cls := findClass_of_methodNamed Bd.named
  have hts : ∀ w ∈ e_tb, w.before ([e_rv B (x0), .int (iI (x1))] : List Value).toArray s = true := fun w h => atoms_spec (ws := (e_wu yX13_closedAt cX13_closedAt 5 (some .int))) Bd.pre w (List.mem_cons_of_mem _ h)
  have E : e_En p s m ([e_rv B (x0), .int (iI (x1))] : List Value).toArray meth c cX13_closedAt RX13 5 (some .int) := ⟨hx, hb, hml, hown, hts, hlk, hrt⟩
  have hS : va_S (e_A B) s.heap s.heap [] := va_S.rf
  have hl := e_entry (vs := [e_rv B (x0), .int (iI (x1))]) (n := 5) (Nat.le_of_ble_eq_true rfl) (e_cc (e_rv_cat _ _) (e_cc rfl e_cn))
  rw [lg_entry_eq]
  generalize (lg_sl [e_rv B (x0), .int (iI (x1))] ++ List.replicate (5 - (lg_sl [e_rv B (x0), .int (iI (x1))]).length) Slot.unset).toArray = ls at hl ⊢
  generalize ([e_rv B (x0), .int (iI (x1))] : List Value).toArray = args at hts E ⊢
  have hl : e_lo ls 5 [(0, e_rv B (x0)), (1, .int (iI (x1)))] := hl
  have hsh := (gd_some hsh).2
  refine lv_iconst (v := iI (-1)) hx hb dX13_closedAt_0 rfl ?_
  refine e_istore_n (lv' := [(2, .int (iI ((-1)))), (0, e_rv B (x0)), (1, .int (iI (x1)))]) hx hb dX13_closedAt_1 rfl hl (by decide) rfl (fun ls hl => ?_)
  refine lv_iconst (v := iI (0)) hx hb dX13_closedAt_2 rfl ?_
  refine e_istore_n (lv' := [(3, .int (iI (0))), (2, .int (iI ((-1)))), (0, e_rv B (x0)), (1, .int (iI (x1)))]) hx hb dX13_closedAt_3 rfl hl (by decide) rfl (fun ls hl => ?_)
  exact w13_closedAt_l4 E 1000000 hp hS (hl.sub [2, 3, 1, 0] rfl) hsh
theorem ok13_firstSeen {S : HP} {x0 : Int} {x1 : Int} {r : Int × HP} (h : s13_firstSeen S x0 x1 = some r) : 0 ≤ x0 ∧ x0.toNat < e_n S ∧ e_g S x0.toNat = 13 := (gd_some h).1
set_option maxRecDepth 100000 in
set_option maxHeartbeats 4000000 in
theorem w13_firstSeen_b19 {p : Program} {l : Launch} {e : Env} {s : State} {m : MethodId} {args : Array Value} {below : List Frame} {meth : Method} {c : Code} {D : va_G} {cA : Nat → ClassId} {B : Nat} {res : Int × HP} (E : e_En p s m args meth c cX13_firstSeen RX13 3 (some .int)) {ls : Array Slot} {H : Heap} {locs : List Loc} {S : HP} {y0 : Int} (hp : e_Pic D cA B S s H) (hS : va_S (e_A B) s.heap H locs) (hl : e_lo ls 3 []) (hsh : s13_firstSeen_b19 S y0 = some res) : W p l e ({ frames := 1, cells := 0, slots := 0, locals := 24 } : Room) s m args below meth c H locs 0 0 (MQ below (e_Qi D cA B res.1 res.2) args s 0 0 (e_A B)) (F0 m 19 ls [.int (iI (y0))]) := by
  obtain ⟨hx, hb, hml, hown, hts, hlk, hrt⟩ := id E
  unfold s13_firstSeen_b19 at hsh
  cases hsh
  exact e_iret hx hb hrt hlk hp hS dX13_firstSeen_19
set_option maxRecDepth 100000 in
set_option maxHeartbeats 4000000 in
theorem c13_firstSeen (l : Launch) (D : va_G) (cA : Nat → ClassId) (B : Nat) (S S' : HP) (x0 : Int) (x1 : Int) (r : Int) (hsh : s13_firstSeen S x0 x1 = some (r, S')) : Met l yX13_firstSeen (e_wu yX13_firstSeen cX13_firstSeen 3 (some .int)) ({ frames := 1, cells := 0, slots := 0, locals := 24 } : Room) (va_Pc [e_rv B (x0), .int (iI (x1))] (fun U => e_PU D cA B S U)) (e_Qi D cA B r S') 0 0 (e_A B) := by
  refine Met.ofW (cc := cX13_firstSeen) (maxL := 3) (ret := (some .int)) (by decide +kernel) rfl ?_
  intro p e s m args below meth c s₁ Bd hml hv
  obtain ⟨rfl, hp⟩ := hv
  have hp : e_Pic D cA B S s s.heap := hp
  have hx := Bd.exec
  have hb := Bd.bytes
  have hrt := Bd.returns
  have hlk := Bd.notSynchronized
  have hown : s.vm.findClass RX13 = some m.cls := findClass_of_methodNamed Bd.named
  have hts : ∀ w ∈ e_tb, w.before ([e_rv B (x0), .int (iI (x1))] : List Value).toArray s = true := fun w h => atoms_spec (ws := (e_wu yX13_firstSeen cX13_firstSeen 3 (some .int))) Bd.pre w (List.mem_cons_of_mem _ h)
  have E : e_En p s m ([e_rv B (x0), .int (iI (x1))] : List Value).toArray meth c cX13_firstSeen RX13 3 (some .int) := ⟨hx, hb, hml, hown, hts, hlk, hrt⟩
  have hS : va_S (e_A B) s.heap s.heap [] := va_S.rf
  have hl := e_entry (vs := [e_rv B (x0), .int (iI (x1))]) (n := 3) (Nat.le_of_ble_eq_true rfl) (e_cc (e_rv_cat _ _) (e_cc rfl e_cn))
  rw [lg_entry_eq]
  generalize (lg_sl [e_rv B (x0), .int (iI (x1))] ++ List.replicate (3 - (lg_sl [e_rv B (x0), .int (iI (x1))]).length) Slot.unset).toArray = ls at hl ⊢
  generalize ([e_rv B (x0), .int (iI (x1))] : List Value).toArray = args at hts E ⊢
  have hl : e_lo ls 3 [(0, e_rv B (x0)), (1, .int (iI (x1)))] := hl
  have hsh := (gd_some hsh).2
  refine e_aload_n (B := B) (x := x0) hx hb dX13_firstSeen_0 rfl (hl.at 0 rfl) ?_
  refine lv_iload_n hx hb dX13_firstSeen_1 rfl (hl.at 1 rfl) ?_
  obtain ⟨⟨v2, S2⟩, h2, hsh⟩ := Option.bind_eq_some_iff.mp hsh
  have hsh : _ = _ := hsh
  try dsimp only at hsh
  have ok2 := ok13_closedAt h2
  refine e_callI (nL := 3) (mc := 0) (ms := 0) (T := TX13) (N := 126) (As := [.int (iI (x1))]) (rest := []) hx hb hml hown hts hp hS hl.size ok2.1 ok2.2.1 ok2.2.2 rfl (by decide) (c13_closedAt l D cA B S S2 (x0) (x1) v2 h2) rfl rfl kd13_closedAt (kl13_287) ks13_closedAt kv13_closedAt ki13 kh13_closedAt ⟨Nat.le_of_ble_eq_true rfl, Nat.le_of_ble_eq_true rfl⟩ rfl (by simp [e_rv_cat, e_int_cat]) ⟨Nat.le_refl _, Nat.le_refl _⟩ dX13_firstSeen_2 rfl (fun H locs hp hS => ?_)
  refine e_istore_n (lv' := [(2, .int (iI (v2))), (0, e_rv B (x0)), (1, .int (iI (x1)))]) hx hb dX13_firstSeen_5 rfl hl (by decide) rfl (fun ls hl => ?_)
  refine lv_iload_n hx hb dX13_firstSeen_6 rfl (hl.at 0 rfl) ?_
  refine lv_iconst (v := iI (-1)) hx hb dX13_firstSeen_7 rfl ?_
  refine e_icmp_ne (tgt := 15) hx hb dX13_firstSeen_8 (by decide) (fun c8 => ?_) (fun c8 => ?_)
  · rw [if_neg c8] at hsh
    refine lv_iload_n hx hb dX13_firstSeen_15 rfl (hl.at 0 rfl) ?_
    refine lv_bipush (v := iI (40)) hx hb dX13_firstSeen_16 (by decide +kernel) ?_
    obtain ⟨v18, h18, hsh⟩ := Option.bind_eq_some_iff.mp hsh
    refine e_idiv hx hb h18 dX13_firstSeen_18 ?_
    exact w13_firstSeen_b19 E hp hS (hl.sub [] rfl) hsh
  · rw [if_pos c8] at hsh
    refine lv_iload_n hx hb dX13_firstSeen_11 rfl (hl.at 2 rfl) ?_
    refine lv_goto (tgt := 19) hx hb dX13_firstSeen_12 (by decide) ?_
    exact w13_firstSeen_b19 E hp hS (hl.sub [] rfl) hsh
set_option maxRecDepth 100000 in
set_option maxHeartbeats 4000000 in
theorem w13_classOf_b54 {p : Program} {l : Launch} {e : Env} {s : State} {m : MethodId} {args : Array Value} {below : List Frame} {meth : Method} {c : Code} {D : va_G} {cA : Nat → ClassId} {B : Nat} {res : Int × HP} (E : e_En p s m args meth c cX13_classOf RX13 1 (some .int)) {ls : Array Slot} {H : Heap} {locs : List Loc} {S : HP} {y0 : Int} (hp : e_Pic D cA B S s H) (hS : va_S (e_A B) s.heap H locs) (hl : e_lo ls 1 []) (hsh : s13_classOf_b54 S y0 = some res) : W p l e ({ frames := 1, cells := 0, slots := 0, locals := 22 } : Room) s m args below meth c H locs 0 0 (MQ below (e_Qi D cA B res.1 res.2) args s 0 0 (e_A B)) (F0 m 54 ls [.int (iI (y0))]) := by
  obtain ⟨hx, hb, hml, hown, hts, hlk, hrt⟩ := id E
  unfold s13_classOf_b54 at hsh
  cases hsh
  exact e_iret hx hb hrt hlk hp hS dX13_classOf_54
set_option maxRecDepth 100000 in
set_option maxHeartbeats 4000000 in
theorem w13_classOf_b49 {p : Program} {l : Launch} {e : Env} {s : State} {m : MethodId} {args : Array Value} {below : List Frame} {meth : Method} {c : Code} {D : va_G} {cA : Nat → ClassId} {B : Nat} {res : Int × HP} (E : e_En p s m args meth c cX13_classOf RX13 1 (some .int)) {ls : Array Slot} {H : Heap} {locs : List Loc} {S : HP} (hp : e_Pic D cA B S s H) (hS : va_S (e_A B) s.heap H locs) (hl : e_lo ls 1 []) (hsh : s13_classOf_b49 S  = some res) : W p l e ({ frames := 1, cells := 0, slots := 0, locals := 22 } : Room) s m args below meth c H locs 0 0 (MQ below (e_Qi D cA B res.1 res.2) args s 0 0 (e_A B)) (F0 m 49 ls []) := by
  obtain ⟨hx, hb, hml, hown, hts, hlk, hrt⟩ := id E
  unfold s13_classOf_b49 at hsh
  refine lv_iconst (v := iI (1)) hx hb dX13_classOf_49 rfl ?_
  refine lv_goto (tgt := 54) hx hb dX13_classOf_50 (by decide) ?_
  exact w13_classOf_b54 E hp hS (hl.sub [] rfl) hsh
set_option maxRecDepth 100000 in
set_option maxHeartbeats 4000000 in
theorem c13_classOf (l : Launch) (D : va_G) (cA : Nat → ClassId) (B : Nat) (S S' : HP) (x0 : Int) (r : Int) (hsh : s13_classOf S x0 = some (r, S')) : Met l yX13_classOf (e_wu yX13_classOf cX13_classOf 1 (some .int)) ({ frames := 1, cells := 0, slots := 0, locals := 22 } : Room) (va_Pc [.int (iI (x0))] (fun U => e_PU D cA B S U)) (e_Qi D cA B r S') 0 0 (e_A B) := by
  refine Met.ofW (cc := cX13_classOf) (maxL := 1) (ret := (some .int)) (by decide +kernel) rfl ?_
  intro p e s m args below meth c s₁ Bd hml hv
  obtain ⟨rfl, hp⟩ := hv
  have hp : e_Pic D cA B S s s.heap := hp
  have hx := Bd.exec
  have hb := Bd.bytes
  have hrt := Bd.returns
  have hlk := Bd.notSynchronized
  have hown : s.vm.findClass RX13 = some m.cls := findClass_of_methodNamed Bd.named
  have hts : ∀ w ∈ e_tb, w.before ([.int (iI (x0))] : List Value).toArray s = true := fun w h => atoms_spec (ws := (e_wu yX13_classOf cX13_classOf 1 (some .int))) Bd.pre w (List.mem_cons_of_mem _ h)
  have E : e_En p s m ([.int (iI (x0))] : List Value).toArray meth c cX13_classOf RX13 1 (some .int) := ⟨hx, hb, hml, hown, hts, hlk, hrt⟩
  have hS : va_S (e_A B) s.heap s.heap [] := va_S.rf
  have hl := e_entry (vs := [.int (iI (x0))]) (n := 1) (Nat.le_of_ble_eq_true rfl) (e_cc rfl e_cn)
  rw [lg_entry_eq]
  generalize (lg_sl [.int (iI (x0))] ++ List.replicate (1 - (lg_sl [.int (iI (x0))]).length) Slot.unset).toArray = ls at hl ⊢
  generalize ([.int (iI (x0))] : List Value).toArray = args at hts E ⊢
  have hl : e_lo ls 1 [(0, .int (iI (x0)))] := hl
  unfold s13_classOf at hsh
  refine lv_iload_n hx hb dX13_classOf_0 rfl (hl.at 0 rfl) ?_
  refine lv_bipush (v := iI (32)) hx hb dX13_classOf_1 (by decide +kernel) ?_
  refine e_icmp_ne (tgt := 10) hx hb dX13_classOf_3 (by decide) (fun c3 => ?_) (fun c3 => ?_)
  · rw [if_neg c3] at hsh
    refine lv_iload_n hx hb dX13_classOf_10 rfl (hl.at 0 rfl) ?_
    refine lv_bipush (v := iI (97)) hx hb dX13_classOf_11 (by decide +kernel) ?_
    refine lv_bipush (v := iI (122)) hx hb dX13_classOf_13 (by decide +kernel) ?_
    obtain ⟨⟨v15, S15⟩, h15, hsh⟩ := Option.bind_eq_some_iff.mp hsh
    have hsh : _ = _ := hsh
    try dsimp only at hsh
    refine e_callS (nL := 1) (mc := 0) (ms := 0) (As := [.int (iI (x0)), .int (iI (97)), .int (iI (122))]) (rest := []) hx hb hml hown hts hp hS hl.size (c13_isIn l D cA B S S15 (x0) (97) (122) v15 h15) rfl rfl kd13_isIn (kl13_198) ks13_isIn ki13 kh13_isIn ⟨Nat.le_of_ble_eq_true rfl, Nat.le_of_ble_eq_true rfl⟩ rfl (by simp [e_rv_cat, e_int_cat]) ⟨Nat.le_refl _, Nat.le_refl _⟩ dX13_classOf_15 rfl (fun H locs hp hS => ?_)
    refine e_if_ne (tgt := 49) hx hb dX13_classOf_18 (by decide) (fun c18 => ?_) (fun c18 => ?_)
    · rw [if_neg c18] at hsh
      exact w13_classOf_b49 E hp hS (hl.sub [] rfl) hsh
    · rw [if_pos c18] at hsh
      refine lv_iload_n hx hb dX13_classOf_21 rfl (hl.at 0 rfl) ?_
      refine lv_bipush (v := iI (65)) hx hb dX13_classOf_22 (by decide +kernel) ?_
      refine lv_bipush (v := iI (90)) hx hb dX13_classOf_24 (by decide +kernel) ?_
      obtain ⟨⟨v26, S26⟩, h26, hsh⟩ := Option.bind_eq_some_iff.mp hsh
      have hsh : _ = _ := hsh
      try dsimp only at hsh
      refine e_callS (nL := 1) (mc := 0) (ms := 0) (As := [.int (iI (x0)), .int (iI (65)), .int (iI (90))]) (rest := []) hx hb hml hown hts hp hS hl.size (c13_isIn l D cA B S15 S26 (x0) (65) (90) v26 h26) rfl rfl kd13_isIn (kl13_198) ks13_isIn ki13 kh13_isIn ⟨Nat.le_of_ble_eq_true rfl, Nat.le_of_ble_eq_true rfl⟩ rfl (by simp [e_rv_cat, e_int_cat]) ⟨Nat.le_refl _, Nat.le_refl _⟩ dX13_classOf_26 rfl (fun H locs hp hS => ?_)
      refine e_if_ne (tgt := 49) hx hb dX13_classOf_29 (by decide) (fun c29 => ?_) (fun c29 => ?_)
      · rw [if_neg c29] at hsh
        exact w13_classOf_b49 E hp hS (hl.sub [] rfl) hsh
      · rw [if_pos c29] at hsh
        refine lv_iload_n hx hb dX13_classOf_32 rfl (hl.at 0 rfl) ?_
        refine lv_bipush (v := iI (48)) hx hb dX13_classOf_33 (by decide +kernel) ?_
        refine lv_bipush (v := iI (57)) hx hb dX13_classOf_35 (by decide +kernel) ?_
        obtain ⟨⟨v37, S37⟩, h37, hsh⟩ := Option.bind_eq_some_iff.mp hsh
        have hsh : _ = _ := hsh
        try dsimp only at hsh
        refine e_callS (nL := 1) (mc := 0) (ms := 0) (As := [.int (iI (x0)), .int (iI (48)), .int (iI (57))]) (rest := []) hx hb hml hown hts hp hS hl.size (c13_isIn l D cA B S26 S37 (x0) (48) (57) v37 h37) rfl rfl kd13_isIn (kl13_198) ks13_isIn ki13 kh13_isIn ⟨Nat.le_of_ble_eq_true rfl, Nat.le_of_ble_eq_true rfl⟩ rfl (by simp [e_rv_cat, e_int_cat]) ⟨Nat.le_refl _, Nat.le_refl _⟩ dX13_classOf_37 rfl (fun H locs hp hS => ?_)
        refine e_if_ne (tgt := 49) hx hb dX13_classOf_40 (by decide) (fun c40 => ?_) (fun c40 => ?_)
        · rw [if_neg c40] at hsh
          exact w13_classOf_b49 E hp hS (hl.sub [] rfl) hsh
        · rw [if_pos c40] at hsh
          refine lv_iload_n hx hb dX13_classOf_43 rfl (hl.at 0 rfl) ?_
          refine lv_bipush (v := iI (95)) hx hb dX13_classOf_44 (by decide +kernel) ?_
          refine e_icmp_ne (tgt := 53) hx hb dX13_classOf_46 (by decide) (fun c46 => ?_) (fun c46 => ?_)
          · rw [if_neg c46] at hsh
            refine lv_iconst (v := iI (2)) hx hb dX13_classOf_53 rfl ?_
            exact w13_classOf_b54 E hp hS (hl.sub [] rfl) hsh
          · rw [if_pos c46] at hsh
            exact w13_classOf_b49 E hp hS (hl.sub [] rfl) hsh
  · rw [if_pos c3] at hsh
    refine lv_iconst (v := iI (0)) hx hb dX13_classOf_6 rfl ?_
    refine lv_goto (tgt := 54) hx hb dX13_classOf_7 (by decide) ?_
    exact w13_classOf_b54 E hp hS (hl.sub [] rfl) hsh
theorem ok13_classAt {S : HP} {x0 : Int} {x1 : Int} {x2 : Int} {r : Int × HP} (h : s13_classAt S x0 x1 x2 = some r) : 0 ≤ x0 ∧ x0.toNat < e_n S ∧ e_g S x0.toNat = 13 := (gd_some h).1
set_option maxRecDepth 100000 in
set_option maxHeartbeats 4000000 in
theorem w13_classAt_b29 {p : Program} {l : Launch} {e : Env} {s : State} {m : MethodId} {args : Array Value} {below : List Frame} {meth : Method} {c : Code} {D : va_G} {cA : Nat → ClassId} {B : Nat} {res : Int × HP} (E : e_En p s m args meth c cX13_classAt RX13 3 (some .int)) {ls : Array Slot} {H : Heap} {locs : List Loc} {S : HP} {y0 : Int} (hp : e_Pic D cA B S s H) (hS : va_S (e_A B) s.heap H locs) (hl : e_lo ls 3 []) (hsh : s13_classAt_b29 S y0 = some res) : W p l e ({ frames := 2, cells := 0, slots := 0, locals := 42 } : Room) s m args below meth c H locs 0 0 (MQ below (e_Qi D cA B res.1 res.2) args s 0 0 (e_A B)) (F0 m 29 ls [.int (iI (y0))]) := by
  obtain ⟨hx, hb, hml, hown, hts, hlk, hrt⟩ := id E
  unfold s13_classAt_b29 at hsh
  cases hsh
  exact e_iret hx hb hrt hlk hp hS dX13_classAt_29
set_option maxRecDepth 100000 in
set_option maxHeartbeats 4000000 in
theorem c13_classAt (l : Launch) (D : va_G) (cA : Nat → ClassId) (B : Nat) (S S' : HP) (x0 : Int) (x1 : Int) (x2 : Int) (r : Int) (hsh : s13_classAt S x0 x1 x2 = some (r, S')) : Met l yX13_classAt (e_wu yX13_classAt cX13_classAt 3 (some .int)) ({ frames := 2, cells := 0, slots := 0, locals := 42 } : Room) (va_Pc [e_rv B (x0), .int (iI (x1)), .int (iI (x2))] (fun U => e_PU D cA B S U)) (e_Qi D cA B r S') 0 0 (e_A B) := by
  refine Met.ofW (cc := cX13_classAt) (maxL := 3) (ret := (some .int)) (by decide +kernel) rfl ?_
  intro p e s m args below meth c s₁ Bd hml hv
  obtain ⟨rfl, hp⟩ := hv
  have hp : e_Pic D cA B S s s.heap := hp
  have hx := Bd.exec
  have hb := Bd.bytes
  have hrt := Bd.returns
  have hlk := Bd.notSynchronized
  have hown : s.vm.findClass RX13 = some m.cls := findClass_of_methodNamed Bd.named
  have hts : ∀ w ∈ e_tb, w.before ([e_rv B (x0), .int (iI (x1)), .int (iI (x2))] : List Value).toArray s = true := fun w h => atoms_spec (ws := (e_wu yX13_classAt cX13_classAt 3 (some .int))) Bd.pre w (List.mem_cons_of_mem _ h)
  have E : e_En p s m ([e_rv B (x0), .int (iI (x1)), .int (iI (x2))] : List Value).toArray meth c cX13_classAt RX13 3 (some .int) := ⟨hx, hb, hml, hown, hts, hlk, hrt⟩
  have hS : va_S (e_A B) s.heap s.heap [] := va_S.rf
  have hl := e_entry (vs := [e_rv B (x0), .int (iI (x1)), .int (iI (x2))]) (n := 3) (Nat.le_of_ble_eq_true rfl) (e_cc (e_rv_cat _ _) (e_cc rfl (e_cc rfl e_cn)))
  rw [lg_entry_eq]
  generalize (lg_sl [e_rv B (x0), .int (iI (x1)), .int (iI (x2))] ++ List.replicate (3 - (lg_sl [e_rv B (x0), .int (iI (x1)), .int (iI (x2))]).length) Slot.unset).toArray = ls at hl ⊢
  generalize ([e_rv B (x0), .int (iI (x1)), .int (iI (x2))] : List Value).toArray = args at hts E ⊢
  have hl : e_lo ls 3 [(0, e_rv B (x0)), (1, .int (iI (x1))), (2, .int (iI (x2)))] := hl
  have hsh := (gd_some hsh).2
  refine lv_iload_n hx hb dX13_classAt_0 rfl (hl.at 2 rfl) ?_
  refine lv_iconst (v := iI (0)) hx hb dX13_classAt_1 rfl ?_
  refine e_aload_n (B := B) (x := x0) hx hb dX13_classAt_2 rfl (hl.at 0 rfl) ?_
  obtain ⟨v3, h3, hsh⟩ := Option.bind_eq_some_iff.mp hsh
  refine e_getR (k := 3) hx hb hts in_X13 hown hp h3 rfl (by decide) (by decide) rfl (hts _ kf13_17) rfl dX13_classAt_3 ?_
  refine lv_iload_n hx hb dX13_classAt_6 rfl (hl.at 1 rfl) ?_
  obtain ⟨v7, h7, hsh⟩ := Option.bind_eq_some_iff.mp hsh
  refine e_iald hx hb hp h7 dX13_classAt_7 ?_
  refine lv_iconst (v := iI (1)) hx hb dX13_classAt_8 rfl ?_
  refine e_isub hx hb dX13_classAt_9 ?_
  obtain ⟨⟨v10, S10⟩, h10, hsh⟩ := Option.bind_eq_some_iff.mp hsh
  have hsh : _ = _ := hsh
  try dsimp only at hsh
  refine e_callS (nL := 3) (mc := 0) (ms := 0) (As := [.int (iI (x2)), .int (iI (0)), .int (iI ((v7 - 1)))]) (rest := []) hx hb hml hown hts hp hS hl.size (c13_isIn l D cA B S S10 (x2) (0) ((v7 - 1)) v10 h10) rfl rfl kd13_isIn (kl13_198) ks13_isIn ki13 kh13_isIn ⟨Nat.le_of_ble_eq_true rfl, Nat.le_of_ble_eq_true rfl⟩ rfl (by simp [e_rv_cat, e_int_cat]) ⟨Nat.le_refl _, Nat.le_refl _⟩ dX13_classAt_10 rfl (fun H locs hp hS => ?_)
  refine e_if_eq (tgt := 28) hx hb dX13_classAt_13 (by decide) (fun c13 => ?_) (fun c13 => ?_)
  · rw [if_pos c13] at hsh
    refine lv_iconst (v := iI (-1)) hx hb dX13_classAt_28 rfl ?_
    exact w13_classAt_b29 E hp hS (hl.sub [] rfl) hsh
  · rw [if_neg c13] at hsh
    refine e_aload_n (B := B) (x := x0) hx hb dX13_classAt_16 rfl (hl.at 0 rfl) ?_
    refine lv_iload_n hx hb dX13_classAt_17 rfl (hl.at 1 rfl) ?_
    refine lv_iload_n hx hb dX13_classAt_18 rfl (hl.at 2 rfl) ?_
    obtain ⟨⟨v19, S19⟩, h19, hsh⟩ := Option.bind_eq_some_iff.mp hsh
    have hsh : _ = _ := hsh
    try dsimp only at hsh
    have ok19 := ok13_at h19
    refine e_callI (nL := 3) (mc := 0) (ms := 0) (T := TX13) (N := 126) (As := [.int (iI (x1)), .int (iI (x2))]) (rest := []) hx hb hml hown hts hp hS hl.size ok19.1 ok19.2.1 ok19.2.2 rfl (by decide) (c13_at l D cA B S10 S19 (x0) (x1) (x2) v19 h19) rfl rfl kd13_at (kl13_206) ks13_at kv13_at ki13 kh13_at ⟨Nat.le_of_ble_eq_true rfl, Nat.le_of_ble_eq_true rfl⟩ rfl (by simp [e_rv_cat, e_int_cat]) ⟨Nat.le_refl _, Nat.le_refl _⟩ dX13_classAt_19 rfl (fun H locs hp hS => ?_)
    obtain ⟨⟨v22, S22⟩, h22, hsh⟩ := Option.bind_eq_some_iff.mp hsh
    have hsh : _ = _ := hsh
    try dsimp only at hsh
    refine e_callS (nL := 3) (mc := 0) (ms := 0) (As := [.int (iI (v19))]) (rest := []) hx hb hml hown hts hp hS hl.size (c13_classOf l D cA B S19 S22 (v19) v22 h22) rfl rfl kd13_classOf (kl13_290) ks13_classOf ki13 kh13_classOf ⟨Nat.le_of_ble_eq_true rfl, Nat.le_of_ble_eq_true rfl⟩ rfl (by simp [e_rv_cat, e_int_cat]) ⟨Nat.le_refl _, Nat.le_refl _⟩ dX13_classAt_22 rfl (fun H locs hp hS => ?_)
    refine lv_goto (tgt := 29) hx hb dX13_classAt_25 (by decide) ?_
    exact w13_classAt_b29 E hp hS (hl.sub [] rfl) hsh
theorem ok13_isStop {S : HP} {x0 : Int} {x1 : Int} {x2 : Int} {r : Int × HP} (h : s13_isStop S x0 x1 x2 = some r) : 0 ≤ x0 ∧ x0.toNat < e_n S ∧ e_g S x0.toNat = 13 := (gd_some h).1
set_option maxRecDepth 100000 in
set_option maxHeartbeats 4000000 in
theorem w13_isStop_b37 {p : Program} {l : Launch} {e : Env} {s : State} {m : MethodId} {args : Array Value} {below : List Frame} {meth : Method} {c : Code} {D : va_G} {cA : Nat → ClassId} {B : Nat} {res : Int × HP} (E : e_En p s m args meth c cX13_isStop RX13 4 (some .boolean)) {ls : Array Slot} {H : Heap} {locs : List Loc} {S : HP} {y0 : Int} (hp : e_Pic D cA B S s H) (hS : va_S (e_A B) s.heap H locs) (hl : e_lo ls 4 []) (hsh : s13_isStop_b37 S y0 = some res) : W p l e ({ frames := 3, cells := 0, slots := 0, locals := 64 } : Room) s m args below meth c H locs 0 0 (MQ below (e_Qi D cA B res.1 res.2) args s 0 0 (e_A B)) (F0 m 37 ls [.int (iI (y0))]) := by
  obtain ⟨hx, hb, hml, hown, hts, hlk, hrt⟩ := id E
  unfold s13_isStop_b37 at hsh
  obtain ⟨hz, hz1, hz2⟩ := zR_some hsh
  rw [← hz1, ← hz2]
  exact e_zret hx hb hrt hlk hp hS hz dX13_isStop_37
set_option maxRecDepth 100000 in
set_option maxHeartbeats 4000000 in
theorem w13_isStop_b32 {p : Program} {l : Launch} {e : Env} {s : State} {m : MethodId} {args : Array Value} {below : List Frame} {meth : Method} {c : Code} {D : va_G} {cA : Nat → ClassId} {B : Nat} {res : Int × HP} (E : e_En p s m args meth c cX13_isStop RX13 4 (some .boolean)) {ls : Array Slot} {H : Heap} {locs : List Loc} {S : HP} (hp : e_Pic D cA B S s H) (hS : va_S (e_A B) s.heap H locs) (hl : e_lo ls 4 []) (hsh : s13_isStop_b32 S  = some res) : W p l e ({ frames := 3, cells := 0, slots := 0, locals := 64 } : Room) s m args below meth c H locs 0 0 (MQ below (e_Qi D cA B res.1 res.2) args s 0 0 (e_A B)) (F0 m 32 ls []) := by
  obtain ⟨hx, hb, hml, hown, hts, hlk, hrt⟩ := id E
  unfold s13_isStop_b32 at hsh
  refine lv_iconst (v := iI (1)) hx hb dX13_isStop_32 rfl ?_
  refine lv_goto (tgt := 37) hx hb dX13_isStop_33 (by decide) ?_
  exact w13_isStop_b37 E hp hS (hl.sub [] rfl) hsh
set_option maxRecDepth 100000 in
set_option maxHeartbeats 4000000 in
theorem w13_isStop_b36 {p : Program} {l : Launch} {e : Env} {s : State} {m : MethodId} {args : Array Value} {below : List Frame} {meth : Method} {c : Code} {D : va_G} {cA : Nat → ClassId} {B : Nat} {res : Int × HP} (E : e_En p s m args meth c cX13_isStop RX13 4 (some .boolean)) {ls : Array Slot} {H : Heap} {locs : List Loc} {S : HP} (hp : e_Pic D cA B S s H) (hS : va_S (e_A B) s.heap H locs) (hl : e_lo ls 4 []) (hsh : s13_isStop_b36 S  = some res) : W p l e ({ frames := 3, cells := 0, slots := 0, locals := 64 } : Room) s m args below meth c H locs 0 0 (MQ below (e_Qi D cA B res.1 res.2) args s 0 0 (e_A B)) (F0 m 36 ls []) := by
  obtain ⟨hx, hb, hml, hown, hts, hlk, hrt⟩ := id E
  unfold s13_isStop_b36 at hsh
  refine lv_iconst (v := iI (0)) hx hb dX13_isStop_36 rfl ?_
  exact w13_isStop_b37 E hp hS (hl.sub [] rfl) hsh
set_option maxRecDepth 100000 in
set_option maxHeartbeats 4000000 in
theorem c13_isStop (l : Launch) (D : va_G) (cA : Nat → ClassId) (B : Nat) (S S' : HP) (x0 : Int) (x1 : Int) (x2 : Int) (r : Int) (hsh : s13_isStop S x0 x1 x2 = some (r, S')) : Met l yX13_isStop (e_wu yX13_isStop cX13_isStop 4 (some .boolean)) ({ frames := 3, cells := 0, slots := 0, locals := 64 } : Room) (va_Pc [e_rv B (x0), .int (iI (x1)), .int (iI (x2))] (fun U => e_PU D cA B S U)) (e_Qi D cA B r S') 0 0 (e_A B) := by
  refine Met.ofW (cc := cX13_isStop) (maxL := 4) (ret := (some .boolean)) (by decide +kernel) rfl ?_
  intro p e s m args below meth c s₁ Bd hml hv
  obtain ⟨rfl, hp⟩ := hv
  have hp : e_Pic D cA B S s s.heap := hp
  have hx := Bd.exec
  have hb := Bd.bytes
  have hrt := Bd.returns
  have hlk := Bd.notSynchronized
  have hown : s.vm.findClass RX13 = some m.cls := findClass_of_methodNamed Bd.named
  have hts : ∀ w ∈ e_tb, w.before ([e_rv B (x0), .int (iI (x1)), .int (iI (x2))] : List Value).toArray s = true := fun w h => atoms_spec (ws := (e_wu yX13_isStop cX13_isStop 4 (some .boolean))) Bd.pre w (List.mem_cons_of_mem _ h)
  have E : e_En p s m ([e_rv B (x0), .int (iI (x1)), .int (iI (x2))] : List Value).toArray meth c cX13_isStop RX13 4 (some .boolean) := ⟨hx, hb, hml, hown, hts, hlk, hrt⟩
  have hS : va_S (e_A B) s.heap s.heap [] := va_S.rf
  have hl := e_entry (vs := [e_rv B (x0), .int (iI (x1)), .int (iI (x2))]) (n := 4) (Nat.le_of_ble_eq_true rfl) (e_cc (e_rv_cat _ _) (e_cc rfl (e_cc rfl e_cn)))
  rw [lg_entry_eq]
  generalize (lg_sl [e_rv B (x0), .int (iI (x1)), .int (iI (x2))] ++ List.replicate (4 - (lg_sl [e_rv B (x0), .int (iI (x1)), .int (iI (x2))]).length) Slot.unset).toArray = ls at hl ⊢
  generalize ([e_rv B (x0), .int (iI (x1)), .int (iI (x2))] : List Value).toArray = args at hts E ⊢
  have hl : e_lo ls 4 [(0, e_rv B (x0)), (1, .int (iI (x1))), (2, .int (iI (x2)))] := hl
  have hsh := (gd_some hsh).2
  refine e_aload_n (B := B) (x := x0) hx hb dX13_isStop_0 rfl (hl.at 0 rfl) ?_
  refine lv_iload_n hx hb dX13_isStop_1 rfl (hl.at 1 rfl) ?_
  refine lv_iload_n hx hb dX13_isStop_2 rfl (hl.at 2 rfl) ?_
  obtain ⟨⟨v3, S3⟩, h3, hsh⟩ := Option.bind_eq_some_iff.mp hsh
  have hsh : _ = _ := hsh
  try dsimp only at hsh
  have ok3 := ok13_classAt h3
  refine e_callI (nL := 4) (mc := 0) (ms := 0) (T := TX13) (N := 126) (As := [.int (iI (x1)), .int (iI (x2))]) (rest := []) hx hb hml hown hts hp hS hl.size ok3.1 ok3.2.1 ok3.2.2 rfl (by decide) (c13_classAt l D cA B S S3 (x0) (x1) (x2) v3 h3) rfl rfl kd13_classAt (kl13_293) ks13_classAt kv13_classAt ki13 kh13_classAt ⟨Nat.le_of_ble_eq_true rfl, Nat.le_of_ble_eq_true rfl⟩ rfl (by simp [e_rv_cat, e_int_cat]) ⟨Nat.le_refl _, Nat.le_refl _⟩ dX13_isStop_3 rfl (fun H locs hp hS => ?_)
  refine e_istore_n (lv' := [(3, .int (iI (v3))), (0, e_rv B (x0)), (1, .int (iI (x1))), (2, .int (iI (x2)))]) hx hb dX13_isStop_6 rfl hl (by decide) rfl (fun ls hl => ?_)
  refine e_aload_n (B := B) (x := x0) hx hb dX13_isStop_7 rfl (hl.at 1 rfl) ?_
  obtain ⟨v8, h8, hsh⟩ := Option.bind_eq_some_iff.mp hsh
  refine e_getR (k := 3) hx hb hts in_X13 hown hp h8 rfl (by decide) (by decide) rfl (hts _ kf13_17) rfl dX13_isStop_8 ?_
  refine lv_iload_n hx hb dX13_isStop_11 rfl (hl.at 2 rfl) ?_
  obtain ⟨v12, h12, hsh⟩ := Option.bind_eq_some_iff.mp hsh
  refine e_iald hx hb hp h12 dX13_isStop_12 ?_
  refine e_if_eq (tgt := 32) hx hb dX13_isStop_13 (by decide) (fun c13 => ?_) (fun c13 => ?_)
  · rw [if_pos c13] at hsh
    exact w13_isStop_b32 E hp hS (hl.sub [] rfl) hsh
  · rw [if_neg c13] at hsh
    refine lv_iload_n hx hb dX13_isStop_16 rfl (hl.at 0 rfl) ?_
    refine e_if_le (tgt := 36) hx hb dX13_isStop_17 (by decide) (fun c17 => ?_) (fun c17 => ?_)
    · rw [if_pos c17] at hsh
      exact w13_isStop_b36 E hp hS (hl.sub [] rfl) hsh
    · rw [if_neg c17] at hsh
      refine e_aload_n (B := B) (x := x0) hx hb dX13_isStop_20 rfl (hl.at 1 rfl) ?_
      refine lv_iload_n hx hb dX13_isStop_21 rfl (hl.at 2 rfl) ?_
      refine lv_iload_n hx hb dX13_isStop_22 rfl (hl.at 3 rfl) ?_
      refine lv_iconst (v := iI (1)) hx hb dX13_isStop_23 rfl ?_
      refine e_isub hx hb dX13_isStop_24 ?_
      obtain ⟨⟨v25, S25⟩, h25, hsh⟩ := Option.bind_eq_some_iff.mp hsh
      have hsh : _ = _ := hsh
      try dsimp only at hsh
      have ok25 := ok13_classAt h25
      refine e_callI (nL := 4) (mc := 0) (ms := 0) (T := TX13) (N := 126) (As := [.int (iI (x1)), .int (iI ((x2 - 1)))]) (rest := []) hx hb hml hown hts hp hS hl.size ok25.1 ok25.2.1 ok25.2.2 rfl (by decide) (c13_classAt l D cA B S3 S25 (x0) (x1) ((x2 - 1)) v25 h25) rfl rfl kd13_classAt (kl13_293) ks13_classAt kv13_classAt ki13 kh13_classAt ⟨Nat.le_of_ble_eq_true rfl, Nat.le_of_ble_eq_true rfl⟩ rfl (by simp [e_rv_cat, e_int_cat]) ⟨Nat.le_refl _, Nat.le_refl _⟩ dX13_isStop_25 rfl (fun H locs hp hS => ?_)
      refine lv_iload_n hx hb dX13_isStop_28 rfl (hl.at 0 rfl) ?_
      refine e_icmp_eq (tgt := 36) hx hb dX13_isStop_29 (by decide) (fun c29 => ?_) (fun c29 => ?_)
      · rw [if_pos c29] at hsh
        exact w13_isStop_b36 E hp hS (hl.sub [] rfl) hsh
      · rw [if_neg c29] at hsh
        exact w13_isStop_b32 E hp hS (hl.sub [] rfl) hsh
theorem ok13_reaches {S : HP} {x0 : Int} {x1 : Int} {x2 : Int} {r : HP} (h : s13_reaches S x0 x1 x2 = some r) : 0 ≤ x0 ∧ x0.toNat < e_n S ∧ e_g S x0.toNat = 13 := (gd_some h).1
set_option maxRecDepth 100000 in
set_option maxHeartbeats 4000000 in
theorem c13_reaches (l : Launch) (D : va_G) (cA : Nat → ClassId) (B : Nat) (S S' : HP) (x0 : Int) (x1 : Int) (x2 : Int) (hsh : s13_reaches S x0 x1 x2 = some S') : Met l yX13_reaches (e_wu yX13_reaches cX13_reaches 3 none) ({ frames := 0, cells := 0, slots := 0, locals := 0 } : Room) (va_Pc [e_rv B (x0), .int (iI (x1)), .int (iI (x2))] (fun U => e_PU D cA B S U)) (e_Qv D cA B S') 0 0 (e_A B) := by
  refine Met.ofW (cc := cX13_reaches) (maxL := 3) (ret := none) (by decide +kernel) rfl ?_
  intro p e s m args below meth c s₁ Bd hml hv
  obtain ⟨rfl, hp⟩ := hv
  have hp : e_Pic D cA B S s s.heap := hp
  have hx := Bd.exec
  have hb := Bd.bytes
  have hrt := Bd.returns
  have hlk := Bd.notSynchronized
  have hown : s.vm.findClass RX13 = some m.cls := findClass_of_methodNamed Bd.named
  have hts : ∀ w ∈ e_tb, w.before ([e_rv B (x0), .int (iI (x1)), .int (iI (x2))] : List Value).toArray s = true := fun w h => atoms_spec (ws := (e_wu yX13_reaches cX13_reaches 3 none)) Bd.pre w (List.mem_cons_of_mem _ h)
  have E : e_En p s m ([e_rv B (x0), .int (iI (x1)), .int (iI (x2))] : List Value).toArray meth c cX13_reaches RX13 3 none := ⟨hx, hb, hml, hown, hts, hlk, hrt⟩
  have hS : va_S (e_A B) s.heap s.heap [] := va_S.rf
  have hl := e_entry (vs := [e_rv B (x0), .int (iI (x1)), .int (iI (x2))]) (n := 3) (Nat.le_of_ble_eq_true rfl) (e_cc (e_rv_cat _ _) (e_cc rfl (e_cc rfl e_cn)))
  rw [lg_entry_eq]
  generalize (lg_sl [e_rv B (x0), .int (iI (x1)), .int (iI (x2))] ++ List.replicate (3 - (lg_sl [e_rv B (x0), .int (iI (x1)), .int (iI (x2))]).length) Slot.unset).toArray = ls at hl ⊢
  generalize ([e_rv B (x0), .int (iI (x1)), .int (iI (x2))] : List Value).toArray = args at hts E ⊢
  have hl : e_lo ls 3 [(0, e_rv B (x0)), (1, .int (iI (x1))), (2, .int (iI (x2)))] := hl
  have hsh := (gd_some hsh).2
  refine e_aload_n (B := B) (x := x0) hx hb dX13_reaches_0 rfl (hl.at 0 rfl) ?_
  refine lv_iload_n hx hb dX13_reaches_1 rfl (hl.at 1 rfl) ?_
  obtain ⟨S2, h2, hsh⟩ := Option.bind_eq_some_iff.mp hsh
  refine e_putI (k := 46) hx hb hts in_X13 tyX13 tyX13_ok nmX13 hown hp hS h2 rfl (by decide) (by decide) rfl (hts _ kf13_296) rfl rfl (by decide +kernel) dX13_reaches_2 (fun H locs hp hS => ?_)
  refine e_aload_n (B := B) (x := x0) hx hb dX13_reaches_5 rfl (hl.at 0 rfl) ?_
  refine lv_iload_n hx hb dX13_reaches_6 rfl (hl.at 2 rfl) ?_
  obtain ⟨S7, h7, hsh⟩ := Option.bind_eq_some_iff.mp hsh
  refine e_putI (k := 47) hx hb hts in_X13 tyX13 tyX13_ok nmX13 hown hp hS h7 rfl (by decide) (by decide) rfl (hts _ kf13_299) rfl rfl (by decide +kernel) dX13_reaches_7 (fun H locs hp hS => ?_)
  cases hsh
  exact e_vret hx hb hrt hlk hp hS dX13_reaches_10
theorem ok13_nextStop {S : HP} {x0 : Int} {r : Int × HP} (h : s13_nextStop S x0 = some r) : 0 ≤ x0 ∧ x0.toNat < e_n S ∧ e_g S x0.toNat = 13 := (gd_some h).1
set_option maxRecDepth 100000 in
set_option maxHeartbeats 4000000 in
theorem w13_nextStop_b34 {p : Program} {l : Launch} {e : Env} {s : State} {m : MethodId} {args : Array Value} {below : List Frame} {meth : Method} {c : Code} {D : va_G} {cA : Nat → ClassId} {B : Nat} {res : Int × HP} {k12 : HP → Int → Int → Int → Option (Int × HP)} (hk12 : ∀ {ls : Array Slot} {H : Heap} {locs : List Loc} {S : HP} {x0 : Int} {x1 : Int} {x2 : Int} (hp : e_Pic D cA B S s H) (hS : va_S (e_A B) s.heap H locs) (hl : e_lo ls 3 [(0, e_rv B (x0)), (1, .int (iI (x1))), (2, .int (iI (x2)))]) (hsh : k12 S x0 x1 x2 = some res), W p l e ({ frames := 4, cells := 0, slots := 0, locals := 87 } : Room) s m args below meth c H locs 0 0 (MQ below (e_Qi D cA B res.1 res.2) args s 0 0 (e_A B)) (F0 m 12 ls [])) {k20 : HP → Int → Int → Int → Option (Int × HP)} (hk20 : ∀ {ls : Array Slot} {H : Heap} {locs : List Loc} {S : HP} {x0 : Int} {x1 : Int} {x2 : Int} (hp : e_Pic D cA B S s H) (hS : va_S (e_A B) s.heap H locs) (hl : e_lo ls 3 [(0, e_rv B (x0)), (1, .int (iI (x1))), (2, .int (iI (x2)))]) (hsh : k20 S x0 x1 x2 = some res), W p l e ({ frames := 4, cells := 0, slots := 0, locals := 87 } : Room) s m args below meth c H locs 0 0 (MQ below (e_Qi D cA B res.1 res.2) args s 0 0 (e_A B)) (F0 m 20 ls [])) (E : e_En p s m args meth c cX13_nextStop RX13 3 (some .boolean)) {ls : Array Slot} {H : Heap} {locs : List Loc} {S : HP} {x0 : Int} {x1 : Int} {x2 : Int} (hp : e_Pic D cA B S s H) (hS : va_S (e_A B) s.heap H locs) (hl : e_lo ls 3 [(0, e_rv B (x0)), (1, .int (iI (x1))), (2, .int (iI (x2)))]) (hsh : s13_nextStop_b34 k12 k20 S x0 x1 x2 = some res) : W p l e ({ frames := 4, cells := 0, slots := 0, locals := 87 } : Room) s m args below meth c H locs 0 0 (MQ below (e_Qi D cA B res.1 res.2) args s 0 0 (e_A B)) (F0 m 34 ls []) := by
  obtain ⟨hx, hb, hml, hown, hts, hlk, hrt⟩ := id E
  unfold s13_nextStop_b34 at hsh
  refine e_aload_n (B := B) (x := x0) hx hb dX13_nextStop_34 rfl (hl.at 0 rfl) ?_
  refine lv_iload_n hx hb dX13_nextStop_35 rfl (hl.at 1 rfl) ?_
  refine lv_iload_n hx hb dX13_nextStop_36 rfl (hl.at 2 rfl) ?_
  obtain ⟨⟨v37, S37⟩, h37, hsh⟩ := Option.bind_eq_some_iff.mp hsh
  have hsh : _ = _ := hsh
  try dsimp only at hsh
  have ok37 := ok13_isStop h37
  refine e_callI (nL := 3) (mc := 0) (ms := 0) (T := TX13) (N := 126) (As := [.int (iI (x1)), .int (iI (x2))]) (rest := []) hx hb hml hown hts hp hS hl.size ok37.1 ok37.2.1 ok37.2.2 rfl (by decide) (c13_isStop l D cA B S S37 (x0) (x1) (x2) v37 h37) rfl rfl kd13_isStop (kl13_302) ks13_isStop kv13_isStop ki13 kh13_isStop ⟨Nat.le_of_ble_eq_true rfl, Nat.le_of_ble_eq_true rfl⟩ rfl (by simp [e_rv_cat, e_int_cat]) ⟨Nat.le_refl _, Nat.le_refl _⟩ dX13_nextStop_37 rfl (fun H locs hp hS => ?_)
  refine e_if_eq (tgt := 51) hx hb dX13_nextStop_40 (by decide) (fun c40 => ?_) (fun c40 => ?_)
  · rw [if_pos c40] at hsh
    refine e_iinc (n := 1) (x := x2) (lv' := [(2, .int (iI ((x2 + 1)))), (0, e_rv B (x0)), (1, .int (iI (x1)))]) hx hb dX13_nextStop_51 hl (k := 2) rfl (by decide) rfl (fun ls hl => ?_)
    refine lv_goto (tgt := 20) hx hb dX13_nextStop_54 (by decide) ?_
    exact hk20 hp hS (hl.sub [1, 2, 0] rfl) hsh
  · rw [if_neg c40] at hsh
    refine e_aload_n (B := B) (x := x0) hx hb dX13_nextStop_43 rfl (hl.at 0 rfl) ?_
    refine lv_iload_n hx hb dX13_nextStop_44 rfl (hl.at 1 rfl) ?_
    refine lv_iload_n hx hb dX13_nextStop_45 rfl (hl.at 2 rfl) ?_
    obtain ⟨S46, h46, hsh⟩ := Option.bind_eq_some_iff.mp hsh
    have ok46 := ok13_reaches h46
    refine e_callV (nL := 3) (mc := 0) (ms := 0) (T := TX13) (N := 126) (As := [.int (iI (x1)), .int (iI (x2))]) (rest := []) hx hb hml hown hts hp hS hl.size ok46.1 ok46.2.1 ok46.2.2 rfl (by decide) (c13_reaches l D cA B S37 S46 (x0) (x1) (x2) h46) rfl rfl kd13_reaches (kl13_306) ks13_reaches kv13_reaches ki13 kh13_reaches ⟨Nat.le_of_ble_eq_true rfl, Nat.le_of_ble_eq_true rfl⟩ rfl (by simp [e_rv_cat, e_int_cat]) ⟨Nat.le_refl _, Nat.le_refl _⟩ dX13_nextStop_46 rfl (fun H locs hp hS => ?_)
    refine lv_iconst (v := iI (1)) hx hb dX13_nextStop_49 rfl ?_
    obtain ⟨hz, hz1, hz2⟩ := zR_some hsh
    rw [← hz1, ← hz2]
    exact e_zret hx hb hrt hlk hp hS hz dX13_nextStop_50
set_option maxRecDepth 100000 in
set_option maxHeartbeats 4000000 in
theorem w13_nextStop_l20 {p : Program} {l : Launch} {e : Env} {s : State} {m : MethodId} {args : Array Value} {below : List Frame} {meth : Method} {c : Code} {D : va_G} {cA : Nat → ClassId} {B : Nat} {res : Int × HP} {k12 : HP → Int → Int → Int → Option (Int × HP)} (hk12 : ∀ {ls : Array Slot} {H : Heap} {locs : List Loc} {S : HP} {x0 : Int} {x1 : Int} {x2 : Int} (hp : e_Pic D cA B S s H) (hS : va_S (e_A B) s.heap H locs) (hl : e_lo ls 3 [(0, e_rv B (x0)), (1, .int (iI (x1))), (2, .int (iI (x2)))]) (hsh : k12 S x0 x1 x2 = some res), W p l e ({ frames := 4, cells := 0, slots := 0, locals := 87 } : Room) s m args below meth c H locs 0 0 (MQ below (e_Qi D cA B res.1 res.2) args s 0 0 (e_A B)) (F0 m 12 ls [])) (E : e_En p s m args meth c cX13_nextStop RX13 3 (some .boolean)) : ∀ (f : Nat) {ls : Array Slot} {H : Heap} {locs : List Loc} {S : HP} {x0 : Int} {x1 : Int} {x2 : Int} (hp : e_Pic D cA B S s H) (hS : va_S (e_A B) s.heap H locs) (hl : e_lo ls 3 [(0, e_rv B (x0)), (1, .int (iI (x1))), (2, .int (iI (x2)))]) (hsh : s13_nextStop_l20 k12 f S x0 x1 x2 = some res), W p l e ({ frames := 4, cells := 0, slots := 0, locals := 87 } : Room) s m args below meth c H locs 0 0 (MQ below (e_Qi D cA B res.1 res.2) args s 0 0 (e_A B)) (F0 m 20 ls []) := by
  obtain ⟨hx, hb, hml, hown, hts, hlk, hrt⟩ := id E
  intro f
  induction f with
  | zero => intro ls H locs S x0 x1 x2 hp hS hl hsh; cases hsh
  | succ f ih =>
    intro ls H locs S x0 x1 x2 hp hS hl hsh
    have hk20 : ∀ {ls : Array Slot} {H : Heap} {locs : List Loc} {S : HP} {x0 : Int} {x1 : Int} {x2 : Int} (hp : e_Pic D cA B S s H) (hS : va_S (e_A B) s.heap H locs) (hl : e_lo ls 3 [(0, e_rv B (x0)), (1, .int (iI (x1))), (2, .int (iI (x2)))]) (hsh : (s13_nextStop_l20 k12 f) S x0 x1 x2 = some res), W p l e ({ frames := 4, cells := 0, slots := 0, locals := 87 } : Room) s m args below meth c H locs 0 0 (MQ below (e_Qi D cA B res.1 res.2) args s 0 0 (e_A B)) (F0 m 20 ls []) := ih
    generalize hkk : s13_nextStop_l20 k12 f = k20 at hk20
    rw [s13_nextStop_l20] at hsh
    rw [hkk] at hsh
    try dsimp only at hsh
    refine lv_iload_n hx hb dX13_nextStop_20 rfl (hl.at 2 rfl) ?_
    refine e_aload_n (B := B) (x := x0) hx hb dX13_nextStop_21 rfl (hl.at 0 rfl) ?_
    obtain ⟨v22, h22, hsh⟩ := Option.bind_eq_some_iff.mp hsh
    refine e_getR (k := 3) hx hb hts in_X13 hown hp h22 rfl (by decide) (by decide) rfl (hts _ kf13_17) rfl dX13_nextStop_22 ?_
    refine lv_iload_n hx hb dX13_nextStop_25 rfl (hl.at 1 rfl) ?_
    obtain ⟨v26, h26, hsh⟩ := Option.bind_eq_some_iff.mp hsh
    refine e_iald hx hb hp h26 dX13_nextStop_26 ?_
    refine e_icmp_lt (tgt := 34) hx hb dX13_nextStop_27 (by decide) (fun c27 => ?_) (fun c27 => ?_)
    · rw [if_pos c27] at hsh
      exact w13_nextStop_b34 (hk12 := hk12) (hk20 := hk20) E hp hS (hl.sub [0, 1, 2] rfl) hsh
    · rw [if_neg c27] at hsh
      refine lv_iload_n hx hb dX13_nextStop_30 rfl (hl.at 2 rfl) ?_
      refine e_if_ne (tgt := 57) hx hb dX13_nextStop_31 (by decide) (fun c31 => ?_) (fun c31 => ?_)
      · rw [if_neg c31] at hsh
        refine e_iinc (n := 1) (x := x1) (lv' := [(1, .int (iI ((x1 + 1)))), (0, e_rv B (x0)), (2, .int (iI (x2)))]) hx hb dX13_nextStop_57 hl (k := 1) rfl (by decide) rfl (fun ls hl => ?_)
        refine lv_iconst (v := iI (0)) hx hb dX13_nextStop_60 rfl ?_
        refine e_istore_n (lv' := [(2, .int (iI (0))), (1, .int (iI ((x1 + 1)))), (0, e_rv B (x0))]) hx hb dX13_nextStop_61 rfl hl (by decide) rfl (fun ls hl => ?_)
        refine lv_goto (tgt := 12) hx hb dX13_nextStop_62 (by decide) ?_
        exact hk12 hp hS (hl.sub [2, 1, 0] rfl) hsh
      · rw [if_pos c31] at hsh
        exact w13_nextStop_b34 (hk12 := hk12) (hk20 := hk20) E hp hS (hl.sub [0, 1, 2] rfl) hsh
set_option maxRecDepth 100000 in
set_option maxHeartbeats 4000000 in
theorem w13_nextStop_l12 {p : Program} {l : Launch} {e : Env} {s : State} {m : MethodId} {args : Array Value} {below : List Frame} {meth : Method} {c : Code} {D : va_G} {cA : Nat → ClassId} {B : Nat} {res : Int × HP} (E : e_En p s m args meth c cX13_nextStop RX13 3 (some .boolean)) : ∀ (f : Nat) {ls : Array Slot} {H : Heap} {locs : List Loc} {S : HP} {x0 : Int} {x1 : Int} {x2 : Int} (hp : e_Pic D cA B S s H) (hS : va_S (e_A B) s.heap H locs) (hl : e_lo ls 3 [(0, e_rv B (x0)), (1, .int (iI (x1))), (2, .int (iI (x2)))]) (hsh : s13_nextStop_l12 f S x0 x1 x2 = some res), W p l e ({ frames := 4, cells := 0, slots := 0, locals := 87 } : Room) s m args below meth c H locs 0 0 (MQ below (e_Qi D cA B res.1 res.2) args s 0 0 (e_A B)) (F0 m 12 ls []) := by
  obtain ⟨hx, hb, hml, hown, hts, hlk, hrt⟩ := id E
  intro f
  induction f with
  | zero => intro ls H locs S x0 x1 x2 hp hS hl hsh; cases hsh
  | succ f ih =>
    intro ls H locs S x0 x1 x2 hp hS hl hsh
    have hk12 : ∀ {ls : Array Slot} {H : Heap} {locs : List Loc} {S : HP} {x0 : Int} {x1 : Int} {x2 : Int} (hp : e_Pic D cA B S s H) (hS : va_S (e_A B) s.heap H locs) (hl : e_lo ls 3 [(0, e_rv B (x0)), (1, .int (iI (x1))), (2, .int (iI (x2)))]) (hsh : (s13_nextStop_l12 f) S x0 x1 x2 = some res), W p l e ({ frames := 4, cells := 0, slots := 0, locals := 87 } : Room) s m args below meth c H locs 0 0 (MQ below (e_Qi D cA B res.1 res.2) args s 0 0 (e_A B)) (F0 m 12 ls []) := ih
    generalize hkk : s13_nextStop_l12 f = k12 at hk12
    rw [s13_nextStop_l12] at hsh
    rw [hkk] at hsh
    try dsimp only at hsh
    refine lv_iload_n hx hb dX13_nextStop_12 rfl (hl.at 1 rfl) ?_
    refine e_aload_n (B := B) (x := x0) hx hb dX13_nextStop_13 rfl (hl.at 0 rfl) ?_
    obtain ⟨v14, h14, hsh⟩ := Option.bind_eq_some_iff.mp hsh
    refine e_getI (k := 2) hx hb hts in_X13 hown hp h14 rfl (by decide) (by decide) rfl (hts _ kf13_13) rfl dX13_nextStop_14 ?_
    refine e_icmp_ge (tgt := 65) hx hb dX13_nextStop_17 (by decide) (fun c17 => ?_) (fun c17 => ?_)
    · rw [if_pos c17] at hsh
      refine lv_iconst (v := iI (0)) hx hb dX13_nextStop_65 rfl ?_
      obtain ⟨hz, hz1, hz2⟩ := zR_some hsh
      rw [← hz1, ← hz2]
      exact e_zret hx hb hrt hlk hp hS hz dX13_nextStop_66
    · rw [if_neg c17] at hsh
      exact w13_nextStop_l20 (hk12 := hk12) E 1000000 hp hS (hl.sub [0, 1, 2] rfl) hsh
set_option maxRecDepth 100000 in
set_option maxHeartbeats 4000000 in
theorem c13_nextStop (l : Launch) (D : va_G) (cA : Nat → ClassId) (B : Nat) (S S' : HP) (x0 : Int) (r : Int) (hsh : s13_nextStop S x0 = some (r, S')) : Met l yX13_nextStop (e_wu yX13_nextStop cX13_nextStop 3 (some .boolean)) ({ frames := 4, cells := 0, slots := 0, locals := 87 } : Room) (va_Pc [e_rv B (x0)] (fun U => e_PU D cA B S U)) (e_Qi D cA B r S') 0 0 (e_A B) := by
  refine Met.ofW (cc := cX13_nextStop) (maxL := 3) (ret := (some .boolean)) (by decide +kernel) rfl ?_
  intro p e s m args below meth c s₁ Bd hml hv
  obtain ⟨rfl, hp⟩ := hv
  have hp : e_Pic D cA B S s s.heap := hp
  have hx := Bd.exec
  have hb := Bd.bytes
  have hrt := Bd.returns
  have hlk := Bd.notSynchronized
  have hown : s.vm.findClass RX13 = some m.cls := findClass_of_methodNamed Bd.named
  have hts : ∀ w ∈ e_tb, w.before ([e_rv B (x0)] : List Value).toArray s = true := fun w h => atoms_spec (ws := (e_wu yX13_nextStop cX13_nextStop 3 (some .boolean))) Bd.pre w (List.mem_cons_of_mem _ h)
  have E : e_En p s m ([e_rv B (x0)] : List Value).toArray meth c cX13_nextStop RX13 3 (some .boolean) := ⟨hx, hb, hml, hown, hts, hlk, hrt⟩
  have hS : va_S (e_A B) s.heap s.heap [] := va_S.rf
  have hl := e_entry (vs := [e_rv B (x0)]) (n := 3) (Nat.le_of_ble_eq_true rfl) (e_cc (e_rv_cat _ _) e_cn)
  rw [lg_entry_eq]
  generalize (lg_sl [e_rv B (x0)] ++ List.replicate (3 - (lg_sl [e_rv B (x0)]).length) Slot.unset).toArray = ls at hl ⊢
  generalize ([e_rv B (x0)] : List Value).toArray = args at hts E ⊢
  have hl : e_lo ls 3 [(0, e_rv B (x0))] := hl
  have hsh := (gd_some hsh).2
  refine e_aload_n (B := B) (x := x0) hx hb dX13_nextStop_0 rfl (hl.at 0 rfl) ?_
  obtain ⟨v1, h1, hsh⟩ := Option.bind_eq_some_iff.mp hsh
  refine e_getI (k := 46) hx hb hts in_X13 hown hp h1 rfl (by decide) (by decide) rfl (hts _ kf13_296) rfl dX13_nextStop_1 ?_
  refine e_istore_n (lv' := [(1, .int (iI (v1))), (0, e_rv B (x0))]) hx hb dX13_nextStop_4 rfl hl (by decide) rfl (fun ls hl => ?_)
  refine e_aload_n (B := B) (x := x0) hx hb dX13_nextStop_5 rfl (hl.at 1 rfl) ?_
  obtain ⟨v6, h6, hsh⟩ := Option.bind_eq_some_iff.mp hsh
  refine e_getI (k := 47) hx hb hts in_X13 hown hp h6 rfl (by decide) (by decide) rfl (hts _ kf13_299) rfl dX13_nextStop_6 ?_
  refine lv_iconst (v := iI (1)) hx hb dX13_nextStop_9 rfl ?_
  refine e_iadd hx hb dX13_nextStop_10 ?_
  refine e_istore_n (lv' := [(2, .int (iI ((v6 + 1)))), (1, .int (iI (v1))), (0, e_rv B (x0))]) hx hb dX13_nextStop_11 rfl hl (by decide) rfl (fun ls hl => ?_)
  exact w13_nextStop_l12 E 1000000 hp hS (hl.sub [2, 1, 0] rfl) hsh
