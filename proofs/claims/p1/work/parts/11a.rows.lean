theorem ok9_init {S : HP} {x0 : Int} {r : HP} (h : s9_init S x0 = some r) : 0 ≤ x0 ∧ x0.toNat < e_n S ∧ e_g S x0.toNat = 9 := (gd_some h).1
set_option maxRecDepth 100000 in
set_option maxHeartbeats 4000000 in
theorem c9_init (l : Launch) (D : va_G) (cA : Nat → ClassId) (B : Nat) (S S' : HP) (x0 : Int) (hsh : s9_init S x0 = some S') : Met l yX9_init (e_wu yX9_init cX9_init 1 none) ({ frames := 1, cells := e_n S' - e_n S, slots := e_s S' - e_s S, locals := 12 } : Room) (va_Pc [e_rv B (x0)] (fun U => e_PU D cA B S U)) (e_Qv D cA B S') (e_n S' - e_n S) (e_s S' - e_s S) (e_A B) := by
  refine Met.ofW (cc := cX9_init) (maxL := 1) (ret := none) (by decide +kernel) rfl ?_
  intro p e s m args below meth c s₁ Bd hml hv
  obtain ⟨rfl, hp⟩ := hv
  have hp : e_Pic D cA B S s s.heap := hp
  have hx := Bd.exec
  have hb := Bd.bytes
  have hrt := Bd.returns
  have hlk := Bd.notSynchronized
  have hown : s.vm.findClass RX9 = some m.cls := findClass_of_methodNamed Bd.named
  have hts : ∀ w ∈ e_tb, w.before ([e_rv B (x0)] : List Value).toArray s = true := fun w h => atoms_spec (ws := (e_wu yX9_init cX9_init 1 none)) Bd.pre w (List.mem_cons_of_mem _ h)
  have E : e_En p s m ([e_rv B (x0)] : List Value).toArray meth c cX9_init RX9 1 none := ⟨hx, hb, hml, hown, hts, hlk, hrt⟩
  have hS : va_S (e_A B) s.heap s.heap [] := va_S.rf
  have hin2 : meth.name = "<init>" := (name_of_methodNamed Bd.named Bd.method).1
  have hB0 : s.heap.size = B + e_n S := hp.2.2.1
  refine e_cells (c' := e_n S - e_n S) (s' := e_s S - e_s S) (Nat.sub_self _).symm (Nat.sub_self _).symm ?_
  have hl := e_entry (vs := [e_rv B (x0)]) (n := 1) (Nat.le_of_ble_eq_true rfl) (e_cc (e_rv_cat _ _) e_cn)
  rw [lg_entry_eq]
  generalize (lg_sl [e_rv B (x0)] ++ List.replicate (1 - (lg_sl [e_rv B (x0)]).length) Slot.unset).toArray = ls at hl ⊢
  generalize ([e_rv B (x0)] : List Value).toArray = args at hts E ⊢
  have hl : e_lo ls 1 [(0, e_rv B (x0))] := hl
  have hok := (gd_some hsh).1
  have hsh := (gd_some hsh).2
  refine e_aload_n (B := B) (x := x0) hx hb dX9_init_0 rfl (hl.at 0 rfl) ?_
  refine e_objInit hx hb hml hown hts kl9_3 kM_oi kM_oc hl.size hok.1 dX9_init_1 (Nat.le_of_ble_eq_true rfl) (Nat.le_of_ble_eq_true rfl) ?_
  refine e_aload_n (B := B) (x := x0) hx hb dX9_init_4 rfl (hl.at 0 rfl) ?_
  refine lv_bipush (v := iI (99)) hx hb dX9_init_5 (by decide +kernel) ?_
  obtain ⟨S7, h7, hsh⟩ := Option.bind_eq_some_iff.mp hsh
  obtain ⟨hsh, cc7⟩ := ckV_some hsh
  have cc7 : e_n S7 ≤ e_n S' ∧ e_s S7 ≤ e_s S' := cc7
  have nn := nA_n h7
  refine e_anew (t := 105) (t0 := 5) (C := RX11) hx hb hts hown kcl9_11 kao11 hp hS h7 (by decide) rfl (fun _ _ => rfl) (by show _ ≤ e_n S' - e_n S; omega) (by show _ ≤ e_s S' - e_s S; omega) dX9_init_7 (fun H hp hS => ?_)
  refine e_cells (c' := e_n S7 - e_n S) (s' := e_s S7 - e_s S) (by omega) (by omega) ?_
  obtain ⟨S10, h10, hsh⟩ := Option.bind_eq_some_iff.mp hsh
  refine e_finR (ty := .array (.object "ModalPad$Text")) (k := 0) hx hb hts in_X9 tyX9 tyX9_ok nmX9 hown hp hS h10 rfl (by decide) (by decide) rfl (hts _ kf9_13) rfl rfl hin2 rfl (by decide +kernel) (Or.inr ⟨_, rfl⟩) dX9_init_10 (fun H locs hp hS => ?_)
  have nn := pF_n h10
  refine e_cells (c' := e_n S10 - e_n S) (s' := e_s S10 - e_s S) (by omega) (by omega) ?_
  refine e_aload_n (B := B) (x := x0) hx hb dX9_init_13 rfl (hl.at 0 rfl) ?_
  refine lv_bipush (v := iI (99)) hx hb dX9_init_14 (by decide +kernel) ?_
  obtain ⟨S16, h16, hsh⟩ := Option.bind_eq_some_iff.mp hsh
  obtain ⟨hsh, cc16⟩ := ckV_some hsh
  have cc16 : e_n S16 ≤ e_n S' ∧ e_s S16 ≤ e_s S' := cc16
  have nn := nA_n h16
  refine e_newa (t := 101) (t0 := 1) (atype := .int) (ty := .int) hx hb hts kA_int rfl hp hS h16 (by decide) rfl (fun h => h) (fun _ _ => rfl) (by decide) (by show _ ≤ e_n S' - e_n S; omega) (by show _ ≤ e_s S' - e_s S; omega) dX9_init_16 (fun H hp hS => ?_)
  refine e_cells (c' := e_n S16 - e_n S) (s' := e_s S16 - e_s S) (by omega) (by omega) ?_
  obtain ⟨S18, h18, hsh⟩ := Option.bind_eq_some_iff.mp hsh
  refine e_finR (ty := .array .int) (k := 1) hx hb hts in_X9 tyX9 tyX9_ok nmX9 hown hp hS h18 rfl (by decide) (by decide) rfl (hts _ kf9_17) rfl rfl hin2 rfl (by decide +kernel) (Or.inr ⟨_, rfl⟩) dX9_init_18 (fun H locs hp hS => ?_)
  have nn := pF_n h18
  refine e_cells (c' := e_n S18 - e_n S) (s' := e_s S18 - e_s S) (by omega) (by omega) ?_
  refine e_aload_n (B := B) (x := x0) hx hb dX9_init_21 rfl (hl.at 0 rfl) ?_
  refine lv_iconst (v := iI (0)) hx hb dX9_init_22 rfl ?_
  obtain ⟨S23, h23, hsh⟩ := Option.bind_eq_some_iff.mp hsh
  refine e_putI (k := 2) hx hb hts in_X9 tyX9 tyX9_ok nmX9 hown hp hS h23 rfl (by decide) (by decide) rfl (hts _ kf9_21) rfl rfl (by decide +kernel) dX9_init_23 (fun H locs hp hS => ?_)
  have nn := pF_n h23
  refine e_cells (c' := e_n S23 - e_n S) (s' := e_s S23 - e_s S) (by omega) (by omega) ?_
  refine e_aload_n (B := B) (x := x0) hx hb dX9_init_26 rfl (hl.at 0 rfl) ?_
  refine lv_iconst (v := iI (-1)) hx hb dX9_init_27 rfl ?_
  obtain ⟨S28, h28, hsh⟩ := Option.bind_eq_some_iff.mp hsh
  refine e_putI (k := 3) hx hb hts in_X9 tyX9 tyX9_ok nmX9 hown hp hS h28 rfl (by decide) (by decide) rfl (hts _ kf9_25) rfl rfl (by decide +kernel) dX9_init_28 (fun H locs hp hS => ?_)
  have nn := pF_n h28
  refine e_cells (c' := e_n S28 - e_n S) (s' := e_s S28 - e_s S) (by omega) (by omega) ?_
  cases hsh
  exact e_vret hx hb hrt hlk hp hS dX9_init_31
theorem ok10_init {S : HP} {x0 : Int} {x1 : Int} {r : HP} (h : s10_init S x0 x1 = some r) : 0 ≤ x0 ∧ x0.toNat < e_n S ∧ e_g S x0.toNat = 10 := (gd_some h).1
set_option maxRecDepth 100000 in
set_option maxHeartbeats 4000000 in
theorem w10_init_b24 {p : Program} {l : Launch} {e : Env} {s : State} {m : MethodId} {args : Array Value} {below : List Frame} {meth : Method} {c : Code} {D : va_G} {cA : Nat → ClassId} {B : Nat} {res : HP} {S0 : HP} (hB0 : s.heap.size = B + e_n S0) (hin2 : meth.name = "<init>") (E : e_En p s m args meth c cX10_init RX10 2 none) {ls : Array Slot} {H : Heap} {locs : List Loc} {S : HP} {y0 : Int} {y1 : Int} (hp : e_Pic D cA B S s H) (hS : va_S (e_A B) s.heap H locs) (h0 : e_n S0 ≤ e_n S ∧ e_s S0 ≤ e_s S) (hl : e_lo ls 2 []) (hsh : s10_init_b24 S y0 y1 = some res) : W p l e ({ frames := 1, cells := e_n res - e_n S0, slots := e_s res - e_s S0, locals := 12 } : Room) s m args below meth c H locs (e_n S - e_n S0) (e_s S - e_s S0) (MQ below (e_Qv D cA B res) args s (e_n res - e_n S0) (e_s res - e_s S0) (e_A B)) (F0 m 24 ls [.int (iI (y1)), e_rv B (y0)]) := by
  obtain ⟨hx, hb, hml, hown, hts, hlk, hrt⟩ := id E
  unfold s10_init_b24 at hsh
  obtain ⟨S24, h24, hsh⟩ := Option.bind_eq_some_iff.mp hsh
  obtain ⟨hsh, cc24⟩ := ckV_some hsh
  have cc24 : e_n S24 ≤ e_n res ∧ e_s S24 ≤ e_s res := cc24
  have nn := nA_n h24
  refine e_newa (t := 100) (t0 := 0) (atype := .char) (ty := .char) hx hb hts kA_char rfl hp hS h24 (by decide) rfl (fun h => h) (fun _ _ => rfl) (by decide) (by show _ ≤ e_n res - e_n S0; omega) (by show _ ≤ e_s res - e_s S0; omega) dX10_init_24 (fun H hp hS => ?_)
  refine e_cells (c' := e_n S24 - e_n S0) (s' := e_s S24 - e_s S0) (by omega) (by omega) ?_
  obtain ⟨S26, h26, hsh⟩ := Option.bind_eq_some_iff.mp hsh
  refine e_putR (ty := .array .char) (k := 0) hx hb hts in_X10 tyX10 tyX10_ok nmX10 hown hp hS h26 rfl (by decide) (by decide) rfl (hts _ kf10_18) rfl rfl (by decide +kernel) (Or.inr ⟨_, rfl⟩) dX10_init_26 (fun H locs hp hS => ?_)
  have nn := pF_n h26
  refine e_cells (c' := e_n S26 - e_n S0) (s' := e_s S26 - e_s S0) (by omega) (by omega) ?_
  cases hsh
  exact e_vret hx hb hrt hlk hp hS dX10_init_29
set_option maxRecDepth 100000 in
set_option maxHeartbeats 4000000 in
theorem c10_init (l : Launch) (D : va_G) (cA : Nat → ClassId) (B : Nat) (S S' : HP) (x0 : Int) (x1 : Int) (hsh : s10_init S x0 x1 = some S') : Met l yX10_init (e_wu yX10_init cX10_init 2 none) ({ frames := 1, cells := e_n S' - e_n S, slots := e_s S' - e_s S, locals := 12 } : Room) (va_Pc [e_rv B (x0), .int (iI (x1))] (fun U => e_PU D cA B S U)) (e_Qv D cA B S') (e_n S' - e_n S) (e_s S' - e_s S) (e_A B) := by
  refine Met.ofW (cc := cX10_init) (maxL := 2) (ret := none) (by decide +kernel) rfl ?_
  intro p e s m args below meth c s₁ Bd hml hv
  obtain ⟨rfl, hp⟩ := hv
  have hp : e_Pic D cA B S s s.heap := hp
  have hx := Bd.exec
  have hb := Bd.bytes
  have hrt := Bd.returns
  have hlk := Bd.notSynchronized
  have hown : s.vm.findClass RX10 = some m.cls := findClass_of_methodNamed Bd.named
  have hts : ∀ w ∈ e_tb, w.before ([e_rv B (x0), .int (iI (x1))] : List Value).toArray s = true := fun w h => atoms_spec (ws := (e_wu yX10_init cX10_init 2 none)) Bd.pre w (List.mem_cons_of_mem _ h)
  have E : e_En p s m ([e_rv B (x0), .int (iI (x1))] : List Value).toArray meth c cX10_init RX10 2 none := ⟨hx, hb, hml, hown, hts, hlk, hrt⟩
  have hS : va_S (e_A B) s.heap s.heap [] := va_S.rf
  have hin2 : meth.name = "<init>" := (name_of_methodNamed Bd.named Bd.method).1
  have hB0 : s.heap.size = B + e_n S := hp.2.2.1
  refine e_cells (c' := e_n S - e_n S) (s' := e_s S - e_s S) (Nat.sub_self _).symm (Nat.sub_self _).symm ?_
  have hl := e_entry (vs := [e_rv B (x0), .int (iI (x1))]) (n := 2) (Nat.le_of_ble_eq_true rfl) (e_cc (e_rv_cat _ _) (e_cc rfl e_cn))
  rw [lg_entry_eq]
  generalize (lg_sl [e_rv B (x0), .int (iI (x1))] ++ List.replicate (2 - (lg_sl [e_rv B (x0), .int (iI (x1))]).length) Slot.unset).toArray = ls at hl ⊢
  generalize ([e_rv B (x0), .int (iI (x1))] : List Value).toArray = args at hts E ⊢
  have hl : e_lo ls 2 [(0, e_rv B (x0)), (1, .int (iI (x1)))] := hl
  have hok := (gd_some hsh).1
  have hsh := (gd_some hsh).2
  refine e_aload_n (B := B) (x := x0) hx hb dX10_init_0 rfl (hl.at 0 rfl) ?_
  refine e_objInit hx hb hml hown hts kl10_3 kM_oi kM_oc hl.size hok.1 dX10_init_1 (Nat.le_of_ble_eq_true rfl) (Nat.le_of_ble_eq_true rfl) ?_
  refine e_aload_n (B := B) (x := x0) hx hb dX10_init_4 rfl (hl.at 0 rfl) ?_
  refine lv_iconst (v := iI (0)) hx hb dX10_init_5 rfl ?_
  obtain ⟨S6, h6, hsh⟩ := Option.bind_eq_some_iff.mp hsh
  refine e_putI (k := 1) hx hb hts in_X10 tyX10 tyX10_ok nmX10 hown hp hS h6 rfl (by decide) (by decide) rfl (hts _ kf10_9) rfl rfl (by decide +kernel) dX10_init_6 (fun H locs hp hS => ?_)
  have nn := pF_n h6
  refine e_cells (c' := e_n S6 - e_n S) (s' := e_s S6 - e_s S) (by omega) (by omega) ?_
  refine e_aload_n (B := B) (x := x0) hx hb dX10_init_9 rfl (hl.at 0 rfl) ?_
  refine lv_iconst (v := iI (0)) hx hb dX10_init_10 rfl ?_
  obtain ⟨S11, h11, hsh⟩ := Option.bind_eq_some_iff.mp hsh
  refine e_putI (k := 2) hx hb hts in_X10 tyX10 tyX10_ok nmX10 hown hp hS h11 rfl (by decide) (by decide) rfl (hts _ kf10_15) rfl rfl (by decide +kernel) dX10_init_11 (fun H locs hp hS => ?_)
  have nn := pF_n h11
  refine e_cells (c' := e_n S11 - e_n S) (s' := e_s S11 - e_s S) (by omega) (by omega) ?_
  refine e_aload_n (B := B) (x := x0) hx hb dX10_init_14 rfl (hl.at 0 rfl) ?_
  refine lv_iload_n hx hb dX10_init_15 rfl (hl.at 1 rfl) ?_
  refine e_if_ge (tgt := 23) hx hb dX10_init_16 (by decide) (fun c16 => ?_) (fun c16 => ?_)
  · rw [if_pos c16] at hsh
    refine lv_iload_n hx hb dX10_init_23 rfl (hl.at 1 rfl) ?_
    exact w10_init_b24 (hB0 := hB0) (hin2 := hin2) E hp hS ⟨by omega, by omega⟩ (hl.sub [] rfl) hsh
  · rw [if_neg c16] at hsh
    refine lv_iconst (v := iI (0)) hx hb dX10_init_19 rfl ?_
    refine lv_goto (tgt := 24) hx hb dX10_init_20 (by decide) ?_
    exact w10_init_b24 (hB0 := hB0) (hin2 := hin2) E hp hS ⟨by omega, by omega⟩ (hl.sub [] rfl) hsh
theorem ok7_init {S : HP} {x0 : Int} {r : HP} (h : s7_init S x0 = some r) : 0 ≤ x0 ∧ x0.toNat < e_n S ∧ e_g S x0.toNat = 7 := (gd_some h).1
set_option maxRecDepth 100000 in
set_option maxHeartbeats 4000000 in
theorem w7_init_l82 {p : Program} {l : Launch} {e : Env} {s : State} {m : MethodId} {args : Array Value} {below : List Frame} {meth : Method} {c : Code} {D : va_G} {cA : Nat → ClassId} {B : Nat} {res : HP} {S0 : HP} (hB0 : s.heap.size = B + e_n S0) (hin2 : meth.name = "<init>") (E : e_En p s m args meth c cX7_init RX7 2 none) : ∀ (f : Nat) {ls : Array Slot} {H : Heap} {locs : List Loc} {S : HP} {x0 : Int} {x1 : Int} (hp : e_Pic D cA B S s H) (hS : va_S (e_A B) s.heap H locs) (h0 : e_n S0 ≤ e_n S ∧ e_s S0 ≤ e_s S) (hl : e_lo ls 2 [(0, e_rv B (x0)), (1, .int (iI (x1)))]) (hsh : s7_init_l82 f S x0 x1 = some res), W p l e ({ frames := 2, cells := e_n res - e_n S0, slots := e_s res - e_s S0, locals := 33 } : Room) s m args below meth c H locs (e_n S - e_n S0) (e_s S - e_s S0) (MQ below (e_Qv D cA B res) args s (e_n res - e_n S0) (e_s res - e_s S0) (e_A B)) (F0 m 82 ls []) := by
  obtain ⟨hx, hb, hml, hown, hts, hlk, hrt⟩ := id E
  intro f
  induction f with
  | zero => intro ls H locs S x0 x1 hp hS h0 hl hsh; cases hsh
  | succ f ih =>
    intro ls H locs S x0 x1 hp hS h0 hl hsh
    have hk82 : ∀ {ls : Array Slot} {H : Heap} {locs : List Loc} {S : HP} {x0 : Int} {x1 : Int} (hp : e_Pic D cA B S s H) (hS : va_S (e_A B) s.heap H locs) (h0 : e_n S0 ≤ e_n S ∧ e_s S0 ≤ e_s S) (hl : e_lo ls 2 [(0, e_rv B (x0)), (1, .int (iI (x1)))]) (hsh : (s7_init_l82 f) S x0 x1 = some res), W p l e ({ frames := 2, cells := e_n res - e_n S0, slots := e_s res - e_s S0, locals := 33 } : Room) s m args below meth c H locs (e_n S - e_n S0) (e_s S - e_s S0) (MQ below (e_Qv D cA B res) args s (e_n res - e_n S0) (e_s res - e_s S0) (e_A B)) (F0 m 82 ls []) := ih
    generalize hkk : s7_init_l82 f = k82 at hk82
    rw [s7_init_l82] at hsh
    rw [hkk] at hsh
    try dsimp only at hsh
    refine lv_iload_n hx hb dX7_init_82 rfl (hl.at 1 rfl) ?_
    refine lv_bipush (v := iI (21)) hx hb dX7_init_83 (by decide +kernel) ?_
    refine e_icmp_ge (tgt := 108) hx hb dX7_init_85 (by decide) (fun c85 => ?_) (fun c85 => ?_)
    · rw [if_pos c85] at hsh
      cases hsh
      exact e_vret hx hb hrt hlk hp hS dX7_init_108
    · rw [if_neg c85] at hsh
      refine e_aload_n (B := B) (x := x0) hx hb dX7_init_88 rfl (hl.at 0 rfl) ?_
      obtain ⟨v89, h89, hsh⟩ := Option.bind_eq_some_iff.mp hsh
      refine e_getR (k := 1) hx hb hts in_X7 hown hp h89 rfl (by decide) (by decide) rfl (hts _ kf7_17) rfl dX7_init_89 ?_
      refine lv_iload_n hx hb dX7_init_92 rfl (hl.at 1 rfl) ?_
      obtain ⟨hsh, cc93⟩ := ckV_some hsh
      have cc93 : e_n S + 1 ≤ e_n res ∧ e_s S + 3 ≤ e_s res := cc93
      have nn93 : e_n (nO 10 S) = e_n S + 1 ∧ e_s (nO 10 S) = e_s S + 3 := nO_n _ _
      refine e_new (ci := 10) (N := 3) hx hb hts in_X10 tyX10 tyX10_ok hown kcl7_15 kn10 ki10 hp hS rfl (by decide) rfl (df_X10 B) (by show _ ≤ e_n res - e_n S0; omega) (by show _ ≤ e_s res - e_s S0; omega) dX7_init_93 (fun H hp hS => ?_)
      refine e_cells (c' := e_n (nO 10 S) - e_n S0) (s' := e_s (nO 10 S) - e_s S0) (by omega) (by omega) ?_
      refine lv_dup hx hb dX7_init_96 (e_rv_cat _ _) ?_
      refine lv_iconst (v := iI (0)) hx hb dX7_init_97 rfl ?_
      obtain ⟨S98, h98, hsh⟩ := Option.bind_eq_some_iff.mp hsh
      obtain ⟨hsh, cc98, cd98⟩ := smV_some hsh
      have cd98 : e_n S98 ≤ e_n res ∧ e_s S98 ≤ e_s res := cd98
      have ok98 := ok10_init h98
      refine e_callN (mc := e_n S98 - e_n (nO 10 S)) (ms := e_s S98 - e_s (nO 10 S)) (As := [.int (iI (0))]) (rest := [e_rv B (((e_n S : Nat) : Int)), .int (iI (x1)), e_rv B (v89)]) hx hb hml hown hts hp hS hl.size ok98.1 (c10_init l D cA B (nO 10 S) S98 (((e_n S : Nat) : Int)) (0) h98) rfl rfl kd10_init kl7_47 ks10_init rfl ki10 kh10_init ⟨Nat.le_of_ble_eq_true rfl, Nat.le_of_ble_eq_true rfl⟩ rfl (by simp [e_rv_cat, e_int_cat, e_long_cat]) ⟨(by show _ ≤ e_n res - e_n S0; omega), (by show _ ≤ e_s res - e_s S0; omega)⟩ dX7_init_98 rfl (fun H locs hp hS => ?_)
      refine e_cells (c' := e_n S98 - e_n S0) (s' := e_s S98 - e_s S0) (by omega) (by omega) ?_
      obtain ⟨S101, h101, hsh⟩ := Option.bind_eq_some_iff.mp hsh
      refine e_aast (t0 := 4) (r := (RX10, TX10, 3)) hx hb hp hS h101 (by decide) rfl rfl (by decide) (by omega) dX7_init_101 (fun H locs hp hS => ?_)
      have nn := pR_n h101
      refine e_cells (c' := e_n S101 - e_n S0) (s' := e_s S101 - e_s S0) (by omega) (by omega) ?_
      refine e_iinc (n := 1) (x := x1) (lv' := [(1, .int (iI ((x1 + 1)))), (0, e_rv B (x0))]) hx hb dX7_init_102 hl (k := 1) rfl (by decide) rfl (fun ls hl => ?_)
      refine lv_goto (tgt := 82) hx hb dX7_init_105 (by decide) ?_
      exact hk82 hp hS ⟨by omega, by omega⟩ (hl.sub [1, 0] rfl) hsh
set_option maxRecDepth 100000 in
set_option maxHeartbeats 4000000 in
theorem c7_init (l : Launch) (D : va_G) (cA : Nat → ClassId) (B : Nat) (S S' : HP) (x0 : Int) (hsh : s7_init S x0 = some S') : Met l yX7_init (e_wu yX7_init cX7_init 2 none) ({ frames := 2, cells := e_n S' - e_n S, slots := e_s S' - e_s S, locals := 33 } : Room) (va_Pc [e_rv B (x0)] (fun U => e_PU D cA B S U)) (e_Qv D cA B S') (e_n S' - e_n S) (e_s S' - e_s S) (e_A B) := by
  refine Met.ofW (cc := cX7_init) (maxL := 2) (ret := none) (by decide +kernel) rfl ?_
  intro p e s m args below meth c s₁ Bd hml hv
  obtain ⟨rfl, hp⟩ := hv
  have hp : e_Pic D cA B S s s.heap := hp
  have hx := Bd.exec
  have hb := Bd.bytes
  have hrt := Bd.returns
  have hlk := Bd.notSynchronized
  have hown : s.vm.findClass RX7 = some m.cls := findClass_of_methodNamed Bd.named
  have hts : ∀ w ∈ e_tb, w.before ([e_rv B (x0)] : List Value).toArray s = true := fun w h => atoms_spec (ws := (e_wu yX7_init cX7_init 2 none)) Bd.pre w (List.mem_cons_of_mem _ h)
  have E : e_En p s m ([e_rv B (x0)] : List Value).toArray meth c cX7_init RX7 2 none := ⟨hx, hb, hml, hown, hts, hlk, hrt⟩
  have hS : va_S (e_A B) s.heap s.heap [] := va_S.rf
  have hin2 : meth.name = "<init>" := (name_of_methodNamed Bd.named Bd.method).1
  have hB0 : s.heap.size = B + e_n S := hp.2.2.1
  refine e_cells (c' := e_n S - e_n S) (s' := e_s S - e_s S) (Nat.sub_self _).symm (Nat.sub_self _).symm ?_
  have hl := e_entry (vs := [e_rv B (x0)]) (n := 2) (Nat.le_of_ble_eq_true rfl) (e_cc (e_rv_cat _ _) e_cn)
  rw [lg_entry_eq]
  generalize (lg_sl [e_rv B (x0)] ++ List.replicate (2 - (lg_sl [e_rv B (x0)]).length) Slot.unset).toArray = ls at hl ⊢
  generalize ([e_rv B (x0)] : List Value).toArray = args at hts E ⊢
  have hl : e_lo ls 2 [(0, e_rv B (x0))] := hl
  have hok := (gd_some hsh).1
  have hsh := (gd_some hsh).2
  refine e_aload_n (B := B) (x := x0) hx hb dX7_init_0 rfl (hl.at 0 rfl) ?_
  refine e_objInit hx hb hml hown hts kl7_3 kM_oi kM_oc hl.size hok.1 dX7_init_1 (Nat.le_of_ble_eq_true rfl) (Nat.le_of_ble_eq_true rfl) ?_
  refine e_aload_n (B := B) (x := x0) hx hb dX7_init_4 rfl (hl.at 0 rfl) ?_
  refine lv_bipush (v := iI (21)) hx hb dX7_init_5 (by decide +kernel) ?_
  obtain ⟨S7, h7, hsh⟩ := Option.bind_eq_some_iff.mp hsh
  obtain ⟨hsh, cc7⟩ := ckV_some hsh
  have cc7 : e_n S7 ≤ e_n S' ∧ e_s S7 ≤ e_s S' := cc7
  have nn := nA_n h7
  refine e_newa (t := 101) (t0 := 1) (atype := .int) (ty := .int) hx hb hts kA_int rfl hp hS h7 (by decide) rfl (fun h => h) (fun _ _ => rfl) (by decide) (by show _ ≤ e_n S' - e_n S; omega) (by show _ ≤ e_s S' - e_s S; omega) dX7_init_7 (fun H hp hS => ?_)
  refine e_cells (c' := e_n S7 - e_n S) (s' := e_s S7 - e_s S) (by omega) (by omega) ?_
  obtain ⟨S9, h9, hsh⟩ := Option.bind_eq_some_iff.mp hsh
  refine e_finR (ty := .array .int) (k := 0) hx hb hts in_X7 tyX7 tyX7_ok nmX7 hown hp hS h9 rfl (by decide) (by decide) rfl (hts _ kf7_11) rfl rfl hin2 rfl (by decide +kernel) (Or.inr ⟨_, rfl⟩) dX7_init_9 (fun H locs hp hS => ?_)
  have nn := pF_n h9
  refine e_cells (c' := e_n S9 - e_n S) (s' := e_s S9 - e_s S) (by omega) (by omega) ?_
  refine e_aload_n (B := B) (x := x0) hx hb dX7_init_12 rfl (hl.at 0 rfl) ?_
  refine lv_bipush (v := iI (21)) hx hb dX7_init_13 (by decide +kernel) ?_
  obtain ⟨S15, h15, hsh⟩ := Option.bind_eq_some_iff.mp hsh
  obtain ⟨hsh, cc15⟩ := ckV_some hsh
  have cc15 : e_n S15 ≤ e_n S' ∧ e_s S15 ≤ e_s S' := cc15
  have nn := nA_n h15
  refine e_anew (t := 104) (t0 := 4) (C := RX10) hx hb hts hown kcl7_15 kao10 hp hS h15 (by decide) rfl (fun _ _ => rfl) (by show _ ≤ e_n S' - e_n S; omega) (by show _ ≤ e_s S' - e_s S; omega) dX7_init_15 (fun H hp hS => ?_)
  refine e_cells (c' := e_n S15 - e_n S) (s' := e_s S15 - e_s S) (by omega) (by omega) ?_
  obtain ⟨S18, h18, hsh⟩ := Option.bind_eq_some_iff.mp hsh
  refine e_finR (ty := .array (.object "ModalPad$Strip")) (k := 1) hx hb hts in_X7 tyX7 tyX7_ok nmX7 hown hp hS h18 rfl (by decide) (by decide) rfl (hts _ kf7_17) rfl rfl hin2 rfl (by decide +kernel) (Or.inr ⟨_, rfl⟩) dX7_init_18 (fun H locs hp hS => ?_)
  have nn := pF_n h18
  refine e_cells (c' := e_n S18 - e_n S) (s' := e_s S18 - e_s S) (by omega) (by omega) ?_
  refine e_aload_n (B := B) (x := x0) hx hb dX7_init_21 rfl (hl.at 0 rfl) ?_
  refine lv_bipush (v := iI (21)) hx hb dX7_init_22 (by decide +kernel) ?_
  obtain ⟨S24, h24, hsh⟩ := Option.bind_eq_some_iff.mp hsh
  obtain ⟨hsh, cc24⟩ := ckV_some hsh
  have cc24 : e_n S24 ≤ e_n S' ∧ e_s S24 ≤ e_s S' := cc24
  have nn := nA_n h24
  refine e_newa (t := 101) (t0 := 1) (atype := .int) (ty := .int) hx hb hts kA_int rfl hp hS h24 (by decide) rfl (fun h => h) (fun _ _ => rfl) (by decide) (by show _ ≤ e_n S' - e_n S; omega) (by show _ ≤ e_s S' - e_s S; omega) dX7_init_24 (fun H hp hS => ?_)
  refine e_cells (c' := e_n S24 - e_n S) (s' := e_s S24 - e_s S) (by omega) (by omega) ?_
  obtain ⟨S26, h26, hsh⟩ := Option.bind_eq_some_iff.mp hsh
  refine e_finR (ty := .array .int) (k := 2) hx hb hts in_X7 tyX7 tyX7_ok nmX7 hown hp hS h26 rfl (by decide) (by decide) rfl (hts _ kf7_21) rfl rfl hin2 rfl (by decide +kernel) (Or.inr ⟨_, rfl⟩) dX7_init_26 (fun H locs hp hS => ?_)
  have nn := pF_n h26
  refine e_cells (c' := e_n S26 - e_n S) (s' := e_s S26 - e_s S) (by omega) (by omega) ?_
  refine e_aload_n (B := B) (x := x0) hx hb dX7_init_29 rfl (hl.at 0 rfl) ?_
  refine lv_bipush (v := iI (21)) hx hb dX7_init_30 (by decide +kernel) ?_
  obtain ⟨S32, h32, hsh⟩ := Option.bind_eq_some_iff.mp hsh
  obtain ⟨hsh, cc32⟩ := ckV_some hsh
  have cc32 : e_n S32 ≤ e_n S' ∧ e_s S32 ≤ e_s S' := cc32
  have nn := nA_n h32
  refine e_newa (t := 101) (t0 := 1) (atype := .int) (ty := .int) hx hb hts kA_int rfl hp hS h32 (by decide) rfl (fun h => h) (fun _ _ => rfl) (by decide) (by show _ ≤ e_n S' - e_n S; omega) (by show _ ≤ e_s S' - e_s S; omega) dX7_init_32 (fun H hp hS => ?_)
  refine e_cells (c' := e_n S32 - e_n S) (s' := e_s S32 - e_s S) (by omega) (by omega) ?_
  obtain ⟨S34, h34, hsh⟩ := Option.bind_eq_some_iff.mp hsh
  refine e_finR (ty := .array .int) (k := 3) hx hb hts in_X7 tyX7 tyX7_ok nmX7 hown hp hS h34 rfl (by decide) (by decide) rfl (hts _ kf7_24) rfl rfl hin2 rfl (by decide +kernel) (Or.inr ⟨_, rfl⟩) dX7_init_34 (fun H locs hp hS => ?_)
  have nn := pF_n h34
  refine e_cells (c' := e_n S34 - e_n S) (s' := e_s S34 - e_s S) (by omega) (by omega) ?_
  refine e_aload_n (B := B) (x := x0) hx hb dX7_init_37 rfl (hl.at 0 rfl) ?_
  refine lv_sipush (v := iI (840)) hx hb dX7_init_38 (by decide +kernel) ?_
  obtain ⟨S41, h41, hsh⟩ := Option.bind_eq_some_iff.mp hsh
  obtain ⟨hsh, cc41⟩ := ckV_some hsh
  have cc41 : e_n S41 ≤ e_n S' ∧ e_s S41 ≤ e_s S' := cc41
  have nn := nA_n h41
  refine e_newa (t := 101) (t0 := 1) (atype := .int) (ty := .int) hx hb hts kA_int rfl hp hS h41 (by decide) rfl (fun h => h) (fun _ _ => rfl) (by decide) (by show _ ≤ e_n S' - e_n S; omega) (by show _ ≤ e_s S' - e_s S; omega) dX7_init_41 (fun H hp hS => ?_)
  refine e_cells (c' := e_n S41 - e_n S) (s' := e_s S41 - e_s S) (by omega) (by omega) ?_
  obtain ⟨S43, h43, hsh⟩ := Option.bind_eq_some_iff.mp hsh
  refine e_finR (ty := .array .int) (k := 4) hx hb hts in_X7 tyX7 tyX7_ok nmX7 hown hp hS h43 rfl (by decide) (by decide) rfl (hts _ kf7_27) rfl rfl hin2 rfl (by decide +kernel) (Or.inr ⟨_, rfl⟩) dX7_init_43 (fun H locs hp hS => ?_)
  have nn := pF_n h43
  refine e_cells (c' := e_n S43 - e_n S) (s' := e_s S43 - e_s S) (by omega) (by omega) ?_
  refine e_aload_n (B := B) (x := x0) hx hb dX7_init_46 rfl (hl.at 0 rfl) ?_
  refine lv_bipush (v := iI (21)) hx hb dX7_init_47 (by decide +kernel) ?_
  obtain ⟨S49, h49, hsh⟩ := Option.bind_eq_some_iff.mp hsh
  obtain ⟨hsh, cc49⟩ := ckV_some hsh
  have cc49 : e_n S49 ≤ e_n S' ∧ e_s S49 ≤ e_s S' := cc49
  have nn := nA_n h49
  refine e_newa (t := 101) (t0 := 1) (atype := .int) (ty := .int) hx hb hts kA_int rfl hp hS h49 (by decide) rfl (fun h => h) (fun _ _ => rfl) (by decide) (by show _ ≤ e_n S' - e_n S; omega) (by show _ ≤ e_s S' - e_s S; omega) dX7_init_49 (fun H hp hS => ?_)
  refine e_cells (c' := e_n S49 - e_n S) (s' := e_s S49 - e_s S) (by omega) (by omega) ?_
  obtain ⟨S51, h51, hsh⟩ := Option.bind_eq_some_iff.mp hsh
  refine e_finR (ty := .array .int) (k := 5) hx hb hts in_X7 tyX7 tyX7_ok nmX7 hown hp hS h51 rfl (by decide) (by decide) rfl (hts _ kf7_30) rfl rfl hin2 rfl (by decide +kernel) (Or.inr ⟨_, rfl⟩) dX7_init_51 (fun H locs hp hS => ?_)
  have nn := pF_n h51
  refine e_cells (c' := e_n S51 - e_n S) (s' := e_s S51 - e_s S) (by omega) (by omega) ?_
  refine e_aload_n (B := B) (x := x0) hx hb dX7_init_54 rfl (hl.at 0 rfl) ?_
  refine lv_bipush (v := iI (21)) hx hb dX7_init_55 (by decide +kernel) ?_
  obtain ⟨S57, h57, hsh⟩ := Option.bind_eq_some_iff.mp hsh
  obtain ⟨hsh, cc57⟩ := ckV_some hsh
  have cc57 : e_n S57 ≤ e_n S' ∧ e_s S57 ≤ e_s S' := cc57
  have nn := nA_n h57
  refine e_newa (t := 101) (t0 := 1) (atype := .int) (ty := .int) hx hb hts kA_int rfl hp hS h57 (by decide) rfl (fun h => h) (fun _ _ => rfl) (by decide) (by show _ ≤ e_n S' - e_n S; omega) (by show _ ≤ e_s S' - e_s S; omega) dX7_init_57 (fun H hp hS => ?_)
  refine e_cells (c' := e_n S57 - e_n S) (s' := e_s S57 - e_s S) (by omega) (by omega) ?_
  obtain ⟨S59, h59, hsh⟩ := Option.bind_eq_some_iff.mp hsh
  refine e_finR (ty := .array .int) (k := 6) hx hb hts in_X7 tyX7 tyX7_ok nmX7 hown hp hS h59 rfl (by decide) (by decide) rfl (hts _ kf7_33) rfl rfl hin2 rfl (by decide +kernel) (Or.inr ⟨_, rfl⟩) dX7_init_59 (fun H locs hp hS => ?_)
  have nn := pF_n h59
  refine e_cells (c' := e_n S59 - e_n S) (s' := e_s S59 - e_s S) (by omega) (by omega) ?_
  refine e_aload_n (B := B) (x := x0) hx hb dX7_init_62 rfl (hl.at 0 rfl) ?_
  refine lv_bipush (v := iI (21)) hx hb dX7_init_63 (by decide +kernel) ?_
  obtain ⟨S65, h65, hsh⟩ := Option.bind_eq_some_iff.mp hsh
  obtain ⟨hsh, cc65⟩ := ckV_some hsh
  have cc65 : e_n S65 ≤ e_n S' ∧ e_s S65 ≤ e_s S' := cc65
  have nn := nA_n h65
  refine e_newa (t := 103) (t0 := 3) (atype := .boolean) (ty := .boolean) hx hb hts kA_boolean rfl hp hS h65 (by decide) rfl (fun h => h) (fun _ _ => rfl) (by decide) (by show _ ≤ e_n S' - e_n S; omega) (by show _ ≤ e_s S' - e_s S; omega) dX7_init_65 (fun H hp hS => ?_)
  refine e_cells (c' := e_n S65 - e_n S) (s' := e_s S65 - e_s S) (by omega) (by omega) ?_
  obtain ⟨S67, h67, hsh⟩ := Option.bind_eq_some_iff.mp hsh
  refine e_finR (ty := .array .boolean) (k := 7) hx hb hts in_X7 tyX7 tyX7_ok nmX7 hown hp hS h67 rfl (by decide) (by decide) rfl (hts _ kf7_36) rfl rfl hin2 rfl (by decide +kernel) (Or.inr ⟨_, rfl⟩) dX7_init_67 (fun H locs hp hS => ?_)
  have nn := pF_n h67
  refine e_cells (c' := e_n S67 - e_n S) (s' := e_s S67 - e_s S) (by omega) (by omega) ?_
  refine e_aload_n (B := B) (x := x0) hx hb dX7_init_70 rfl (hl.at 0 rfl) ?_
  refine lv_iconst (v := iI (0)) hx hb dX7_init_71 rfl ?_
  obtain ⟨S72, h72, hsh⟩ := Option.bind_eq_some_iff.mp hsh
  refine e_putI (k := 8) hx hb hts in_X7 tyX7 tyX7_ok nmX7 hown hp hS h72 rfl (by decide) (by decide) rfl (hts _ kf7_40) rfl rfl (by decide +kernel) dX7_init_72 (fun H locs hp hS => ?_)
  have nn := pF_n h72
  refine e_cells (c' := e_n S72 - e_n S) (s' := e_s S72 - e_s S) (by omega) (by omega) ?_
  refine e_aload_n (B := B) (x := x0) hx hb dX7_init_75 rfl (hl.at 0 rfl) ?_
  refine lv_iconst (v := iI (0)) hx hb dX7_init_76 rfl ?_
  obtain ⟨S77, h77, hsh⟩ := Option.bind_eq_some_iff.mp hsh
  refine e_putI (k := 9) hx hb hts in_X7 tyX7 tyX7_ok nmX7 hown hp hS h77 rfl (by decide) (by decide) rfl (hts _ kf7_44) rfl rfl (by decide +kernel) dX7_init_77 (fun H locs hp hS => ?_)
  have nn := pF_n h77
  refine e_cells (c' := e_n S77 - e_n S) (s' := e_s S77 - e_s S) (by omega) (by omega) ?_
  refine lv_iconst (v := iI (0)) hx hb dX7_init_80 rfl ?_
  refine e_istore_n (lv' := [(1, .int (iI (0))), (0, e_rv B (x0))]) hx hb dX7_init_81 rfl hl (by decide) rfl (fun ls hl => ?_)
  exact w7_init_l82 (hB0 := hB0) (hin2 := hin2) E 1000000 hp hS ⟨by omega, by omega⟩ (hl.sub [1, 0] rfl) hsh
theorem ok8_init {S : HP} {x0 : Int} {r : HP} (h : s8_init S x0 = some r) : 0 ≤ x0 ∧ x0.toNat < e_n S ∧ e_g S x0.toNat = 8 := (gd_some h).1
set_option maxRecDepth 100000 in
set_option maxHeartbeats 4000000 in
theorem w8_init_l61 {p : Program} {l : Launch} {e : Env} {s : State} {m : MethodId} {args : Array Value} {below : List Frame} {meth : Method} {c : Code} {D : va_G} {cA : Nat → ClassId} {B : Nat} {res : HP} {S0 : HP} (hB0 : s.heap.size = B + e_n S0) (hin2 : meth.name = "<init>") (E : e_En p s m args meth c cX8_init RX8 2 none) : ∀ (f : Nat) {ls : Array Slot} {H : Heap} {locs : List Loc} {S : HP} {x0 : Int} {x1 : Int} (hp : e_Pic D cA B S s H) (hS : va_S (e_A B) s.heap H locs) (h0 : e_n S0 ≤ e_n S ∧ e_s S0 ≤ e_s S) (hl : e_lo ls 2 [(0, e_rv B (x0)), (1, .int (iI (x1)))]) (hsh : s8_init_l61 f S x0 x1 = some res), W p l e ({ frames := 2, cells := e_n res - e_n S0, slots := e_s res - e_s S0, locals := 33 } : Room) s m args below meth c H locs (e_n S - e_n S0) (e_s S - e_s S0) (MQ below (e_Qv D cA B res) args s (e_n res - e_n S0) (e_s res - e_s S0) (e_A B)) (F0 m 61 ls []) := by
  obtain ⟨hx, hb, hml, hown, hts, hlk, hrt⟩ := id E
  intro f
  induction f with
  | zero => intro ls H locs S x0 x1 hp hS h0 hl hsh; cases hsh
  | succ f ih =>
    intro ls H locs S x0 x1 hp hS h0 hl hsh
    have hk61 : ∀ {ls : Array Slot} {H : Heap} {locs : List Loc} {S : HP} {x0 : Int} {x1 : Int} (hp : e_Pic D cA B S s H) (hS : va_S (e_A B) s.heap H locs) (h0 : e_n S0 ≤ e_n S ∧ e_s S0 ≤ e_s S) (hl : e_lo ls 2 [(0, e_rv B (x0)), (1, .int (iI (x1)))]) (hsh : (s8_init_l61 f) S x0 x1 = some res), W p l e ({ frames := 2, cells := e_n res - e_n S0, slots := e_s res - e_s S0, locals := 33 } : Room) s m args below meth c H locs (e_n S - e_n S0) (e_s S - e_s S0) (MQ below (e_Qv D cA B res) args s (e_n res - e_n S0) (e_s res - e_s S0) (e_A B)) (F0 m 61 ls []) := ih
    generalize hkk : s8_init_l61 f = k61 at hk61
    rw [s8_init_l61] at hsh
    rw [hkk] at hsh
    try dsimp only at hsh
    refine lv_iload_n hx hb dX8_init_61 rfl (hl.at 1 rfl) ?_
    refine lv_bipush (v := iI (38)) hx hb dX8_init_62 (by decide +kernel) ?_
    refine e_icmp_ge (tgt := 87) hx hb dX8_init_64 (by decide) (fun c64 => ?_) (fun c64 => ?_)
    · rw [if_pos c64] at hsh
      cases hsh
      exact e_vret hx hb hrt hlk hp hS dX8_init_87
    · rw [if_neg c64] at hsh
      refine e_aload_n (B := B) (x := x0) hx hb dX8_init_67 rfl (hl.at 0 rfl) ?_
      obtain ⟨v68, h68, hsh⟩ := Option.bind_eq_some_iff.mp hsh
      refine e_getR (k := 0) hx hb hts in_X8 hown hp h68 rfl (by decide) (by decide) rfl (hts _ kf8_13) rfl dX8_init_68 ?_
      refine lv_iload_n hx hb dX8_init_71 rfl (hl.at 1 rfl) ?_
      obtain ⟨hsh, cc72⟩ := ckV_some hsh
      have cc72 : e_n S + 1 ≤ e_n res ∧ e_s S + 3 ≤ e_s res := cc72
      have nn72 : e_n (nO 10 S) = e_n S + 1 ∧ e_s (nO 10 S) = e_s S + 3 := nO_n _ _
      refine e_new (ci := 10) (N := 3) hx hb hts in_X10 tyX10 tyX10_ok hown kcl8_11 kn10 ki10 hp hS rfl (by decide) rfl (df_X10 B) (by show _ ≤ e_n res - e_n S0; omega) (by show _ ≤ e_s res - e_s S0; omega) dX8_init_72 (fun H hp hS => ?_)
      refine e_cells (c' := e_n (nO 10 S) - e_n S0) (s' := e_s (nO 10 S) - e_s S0) (by omega) (by omega) ?_
      refine lv_dup hx hb dX8_init_75 (e_rv_cat _ _) ?_
      refine lv_iconst (v := iI (0)) hx hb dX8_init_76 rfl ?_
      obtain ⟨S77, h77, hsh⟩ := Option.bind_eq_some_iff.mp hsh
      obtain ⟨hsh, cc77, cd77⟩ := smV_some hsh
      have cd77 : e_n S77 ≤ e_n res ∧ e_s S77 ≤ e_s res := cd77
      have ok77 := ok10_init h77
      refine e_callN (mc := e_n S77 - e_n (nO 10 S)) (ms := e_s S77 - e_s (nO 10 S)) (As := [.int (iI (0))]) (rest := [e_rv B (((e_n S : Nat) : Int)), .int (iI (x1)), e_rv B (v68)]) hx hb hml hown hts hp hS hl.size ok77.1 (c10_init l D cA B (nO 10 S) S77 (((e_n S : Nat) : Int)) (0) h77) rfl rfl kd10_init kl8_17 ks10_init rfl ki10 kh10_init ⟨Nat.le_of_ble_eq_true rfl, Nat.le_of_ble_eq_true rfl⟩ rfl (by simp [e_rv_cat, e_int_cat, e_long_cat]) ⟨(by show _ ≤ e_n res - e_n S0; omega), (by show _ ≤ e_s res - e_s S0; omega)⟩ dX8_init_77 rfl (fun H locs hp hS => ?_)
      refine e_cells (c' := e_n S77 - e_n S0) (s' := e_s S77 - e_s S0) (by omega) (by omega) ?_
      obtain ⟨S80, h80, hsh⟩ := Option.bind_eq_some_iff.mp hsh
      refine e_aast (t0 := 4) (r := (RX10, TX10, 3)) hx hb hp hS h80 (by decide) rfl rfl (by decide) (by omega) dX8_init_80 (fun H locs hp hS => ?_)
      have nn := pR_n h80
      refine e_cells (c' := e_n S80 - e_n S0) (s' := e_s S80 - e_s S0) (by omega) (by omega) ?_
      refine e_iinc (n := 1) (x := x1) (lv' := [(1, .int (iI ((x1 + 1)))), (0, e_rv B (x0))]) hx hb dX8_init_81 hl (k := 1) rfl (by decide) rfl (fun ls hl => ?_)
      refine lv_goto (tgt := 61) hx hb dX8_init_84 (by decide) ?_
      exact hk61 hp hS ⟨by omega, by omega⟩ (hl.sub [1, 0] rfl) hsh
set_option maxRecDepth 100000 in
set_option maxHeartbeats 4000000 in
theorem c8_init (l : Launch) (D : va_G) (cA : Nat → ClassId) (B : Nat) (S S' : HP) (x0 : Int) (hsh : s8_init S x0 = some S') : Met l yX8_init (e_wu yX8_init cX8_init 2 none) ({ frames := 2, cells := e_n S' - e_n S, slots := e_s S' - e_s S, locals := 33 } : Room) (va_Pc [e_rv B (x0)] (fun U => e_PU D cA B S U)) (e_Qv D cA B S') (e_n S' - e_n S) (e_s S' - e_s S) (e_A B) := by
  refine Met.ofW (cc := cX8_init) (maxL := 2) (ret := none) (by decide +kernel) rfl ?_
  intro p e s m args below meth c s₁ Bd hml hv
  obtain ⟨rfl, hp⟩ := hv
  have hp : e_Pic D cA B S s s.heap := hp
  have hx := Bd.exec
  have hb := Bd.bytes
  have hrt := Bd.returns
  have hlk := Bd.notSynchronized
  have hown : s.vm.findClass RX8 = some m.cls := findClass_of_methodNamed Bd.named
  have hts : ∀ w ∈ e_tb, w.before ([e_rv B (x0)] : List Value).toArray s = true := fun w h => atoms_spec (ws := (e_wu yX8_init cX8_init 2 none)) Bd.pre w (List.mem_cons_of_mem _ h)
  have E : e_En p s m ([e_rv B (x0)] : List Value).toArray meth c cX8_init RX8 2 none := ⟨hx, hb, hml, hown, hts, hlk, hrt⟩
  have hS : va_S (e_A B) s.heap s.heap [] := va_S.rf
  have hin2 : meth.name = "<init>" := (name_of_methodNamed Bd.named Bd.method).1
  have hB0 : s.heap.size = B + e_n S := hp.2.2.1
  refine e_cells (c' := e_n S - e_n S) (s' := e_s S - e_s S) (Nat.sub_self _).symm (Nat.sub_self _).symm ?_
  have hl := e_entry (vs := [e_rv B (x0)]) (n := 2) (Nat.le_of_ble_eq_true rfl) (e_cc (e_rv_cat _ _) e_cn)
  rw [lg_entry_eq]
  generalize (lg_sl [e_rv B (x0)] ++ List.replicate (2 - (lg_sl [e_rv B (x0)]).length) Slot.unset).toArray = ls at hl ⊢
  generalize ([e_rv B (x0)] : List Value).toArray = args at hts E ⊢
  have hl : e_lo ls 2 [(0, e_rv B (x0))] := hl
  have hok := (gd_some hsh).1
  have hsh := (gd_some hsh).2
  refine e_aload_n (B := B) (x := x0) hx hb dX8_init_0 rfl (hl.at 0 rfl) ?_
  refine e_objInit hx hb hml hown hts kl8_3 kM_oi kM_oc hl.size hok.1 dX8_init_1 (Nat.le_of_ble_eq_true rfl) (Nat.le_of_ble_eq_true rfl) ?_
  refine e_aload_n (B := B) (x := x0) hx hb dX8_init_4 rfl (hl.at 0 rfl) ?_
  refine lv_bipush (v := iI (38)) hx hb dX8_init_5 (by decide +kernel) ?_
  obtain ⟨S7, h7, hsh⟩ := Option.bind_eq_some_iff.mp hsh
  obtain ⟨hsh, cc7⟩ := ckV_some hsh
  have cc7 : e_n S7 ≤ e_n S' ∧ e_s S7 ≤ e_s S' := cc7
  have nn := nA_n h7
  refine e_anew (t := 104) (t0 := 4) (C := RX10) hx hb hts hown kcl8_11 kao10 hp hS h7 (by decide) rfl (fun _ _ => rfl) (by show _ ≤ e_n S' - e_n S; omega) (by show _ ≤ e_s S' - e_s S; omega) dX8_init_7 (fun H hp hS => ?_)
  refine e_cells (c' := e_n S7 - e_n S) (s' := e_s S7 - e_s S) (by omega) (by omega) ?_
  obtain ⟨S10, h10, hsh⟩ := Option.bind_eq_some_iff.mp hsh
  refine e_finR (ty := .array (.object "ModalPad$Strip")) (k := 0) hx hb hts in_X8 tyX8 tyX8_ok nmX8 hown hp hS h10 rfl (by decide) (by decide) rfl (hts _ kf8_13) rfl rfl hin2 rfl (by decide +kernel) (Or.inr ⟨_, rfl⟩) dX8_init_10 (fun H locs hp hS => ?_)
  have nn := pF_n h10
  refine e_cells (c' := e_n S10 - e_n S) (s' := e_s S10 - e_s S) (by omega) (by omega) ?_
  refine e_aload_n (B := B) (x := x0) hx hb dX8_init_13 rfl (hl.at 0 rfl) ?_
  obtain ⟨hsh, cc14⟩ := ckV_some hsh
  have cc14 : e_n S10 + 1 ≤ e_n S' ∧ e_s S10 + 3 ≤ e_s S' := cc14
  have nn14 : e_n (nO 10 S10) = e_n S10 + 1 ∧ e_s (nO 10 S10) = e_s S10 + 3 := nO_n _ _
  refine e_new (ci := 10) (N := 3) hx hb hts in_X10 tyX10 tyX10_ok hown kcl8_11 kn10 ki10 hp hS rfl (by decide) rfl (df_X10 B) (by show _ ≤ e_n S' - e_n S; omega) (by show _ ≤ e_s S' - e_s S; omega) dX8_init_14 (fun H hp hS => ?_)
  refine e_cells (c' := e_n (nO 10 S10) - e_n S) (s' := e_s (nO 10 S10) - e_s S) (by omega) (by omega) ?_
  refine lv_dup hx hb dX8_init_17 (e_rv_cat _ _) ?_
  refine lv_iconst (v := iI (0)) hx hb dX8_init_18 rfl ?_
  obtain ⟨S19, h19, hsh⟩ := Option.bind_eq_some_iff.mp hsh
  obtain ⟨hsh, cc19, cd19⟩ := smV_some hsh
  have cd19 : e_n S19 ≤ e_n S' ∧ e_s S19 ≤ e_s S' := cd19
  have ok19 := ok10_init h19
  refine e_callN (mc := e_n S19 - e_n (nO 10 S10)) (ms := e_s S19 - e_s (nO 10 S10)) (As := [.int (iI (0))]) (rest := [e_rv B (((e_n S10 : Nat) : Int)), e_rv B (x0)]) hx hb hml hown hts hp hS hl.size ok19.1 (c10_init l D cA B (nO 10 S10) S19 (((e_n S10 : Nat) : Int)) (0) h19) rfl rfl kd10_init kl8_17 ks10_init rfl ki10 kh10_init ⟨Nat.le_of_ble_eq_true rfl, Nat.le_of_ble_eq_true rfl⟩ rfl (by simp [e_rv_cat, e_int_cat, e_long_cat]) ⟨(by show _ ≤ e_n S' - e_n S; omega), (by show _ ≤ e_s S' - e_s S; omega)⟩ dX8_init_19 rfl (fun H locs hp hS => ?_)
  refine e_cells (c' := e_n S19 - e_n S) (s' := e_s S19 - e_s S) (by omega) (by omega) ?_
  obtain ⟨S22, h22, hsh⟩ := Option.bind_eq_some_iff.mp hsh
  refine e_finR (ty := .object "ModalPad$Strip") (k := 1) hx hb hts in_X8 tyX8 tyX8_ok nmX8 hown hp hS h22 rfl (by decide) (by decide) rfl (hts _ kf8_20) rfl rfl hin2 rfl (by decide +kernel) (Or.inl ⟨_, rfl⟩) dX8_init_22 (fun H locs hp hS => ?_)
  have nn := pF_n h22
  refine e_cells (c' := e_n S22 - e_n S) (s' := e_s S22 - e_s S) (by omega) (by omega) ?_
  refine e_aload_n (B := B) (x := x0) hx hb dX8_init_25 rfl (hl.at 0 rfl) ?_
  obtain ⟨hsh, cc26⟩ := ckV_some hsh
  have cc26 : e_n S22 + 1 ≤ e_n S' ∧ e_s S22 + 3 ≤ e_s S' := cc26
  have nn26 : e_n (nO 10 S22) = e_n S22 + 1 ∧ e_s (nO 10 S22) = e_s S22 + 3 := nO_n _ _
  refine e_new (ci := 10) (N := 3) hx hb hts in_X10 tyX10 tyX10_ok hown kcl8_11 kn10 ki10 hp hS rfl (by decide) rfl (df_X10 B) (by show _ ≤ e_n S' - e_n S; omega) (by show _ ≤ e_s S' - e_s S; omega) dX8_init_26 (fun H hp hS => ?_)
  refine e_cells (c' := e_n (nO 10 S22) - e_n S) (s' := e_s (nO 10 S22) - e_s S) (by omega) (by omega) ?_
  refine lv_dup hx hb dX8_init_29 (e_rv_cat _ _) ?_
  refine lv_iconst (v := iI (0)) hx hb dX8_init_30 rfl ?_
  obtain ⟨S31, h31, hsh⟩ := Option.bind_eq_some_iff.mp hsh
  obtain ⟨hsh, cc31, cd31⟩ := smV_some hsh
  have cd31 : e_n S31 ≤ e_n S' ∧ e_s S31 ≤ e_s S' := cd31
  have ok31 := ok10_init h31
  refine e_callN (mc := e_n S31 - e_n (nO 10 S22)) (ms := e_s S31 - e_s (nO 10 S22)) (As := [.int (iI (0))]) (rest := [e_rv B (((e_n S22 : Nat) : Int)), e_rv B (x0)]) hx hb hml hown hts hp hS hl.size ok31.1 (c10_init l D cA B (nO 10 S22) S31 (((e_n S22 : Nat) : Int)) (0) h31) rfl rfl kd10_init kl8_17 ks10_init rfl ki10 kh10_init ⟨Nat.le_of_ble_eq_true rfl, Nat.le_of_ble_eq_true rfl⟩ rfl (by simp [e_rv_cat, e_int_cat, e_long_cat]) ⟨(by show _ ≤ e_n S' - e_n S; omega), (by show _ ≤ e_s S' - e_s S; omega)⟩ dX8_init_31 rfl (fun H locs hp hS => ?_)
  refine e_cells (c' := e_n S31 - e_n S) (s' := e_s S31 - e_s S) (by omega) (by omega) ?_
  obtain ⟨S34, h34, hsh⟩ := Option.bind_eq_some_iff.mp hsh
  refine e_finR (ty := .object "ModalPad$Strip") (k := 2) hx hb hts in_X8 tyX8 tyX8_ok nmX8 hown hp hS h34 rfl (by decide) (by decide) rfl (hts _ kf8_24) rfl rfl hin2 rfl (by decide +kernel) (Or.inl ⟨_, rfl⟩) dX8_init_34 (fun H locs hp hS => ?_)
  have nn := pF_n h34
  refine e_cells (c' := e_n S34 - e_n S) (s' := e_s S34 - e_s S) (by omega) (by omega) ?_
  refine e_aload_n (B := B) (x := x0) hx hb dX8_init_37 rfl (hl.at 0 rfl) ?_
  obtain ⟨hsh, cc38⟩ := ckV_some hsh
  have cc38 : e_n S34 + 1 ≤ e_n S' ∧ e_s S34 + 3 ≤ e_s S' := cc38
  have nn38 : e_n (nO 10 S34) = e_n S34 + 1 ∧ e_s (nO 10 S34) = e_s S34 + 3 := nO_n _ _
  refine e_new (ci := 10) (N := 3) hx hb hts in_X10 tyX10 tyX10_ok hown kcl8_11 kn10 ki10 hp hS rfl (by decide) rfl (df_X10 B) (by show _ ≤ e_n S' - e_n S; omega) (by show _ ≤ e_s S' - e_s S; omega) dX8_init_38 (fun H hp hS => ?_)
  refine e_cells (c' := e_n (nO 10 S34) - e_n S) (s' := e_s (nO 10 S34) - e_s S) (by omega) (by omega) ?_
  refine lv_dup hx hb dX8_init_41 (e_rv_cat _ _) ?_
  refine lv_iconst (v := iI (0)) hx hb dX8_init_42 rfl ?_
  obtain ⟨S43, h43, hsh⟩ := Option.bind_eq_some_iff.mp hsh
  obtain ⟨hsh, cc43, cd43⟩ := smV_some hsh
  have cd43 : e_n S43 ≤ e_n S' ∧ e_s S43 ≤ e_s S' := cd43
  have ok43 := ok10_init h43
  refine e_callN (mc := e_n S43 - e_n (nO 10 S34)) (ms := e_s S43 - e_s (nO 10 S34)) (As := [.int (iI (0))]) (rest := [e_rv B (((e_n S34 : Nat) : Int)), e_rv B (x0)]) hx hb hml hown hts hp hS hl.size ok43.1 (c10_init l D cA B (nO 10 S34) S43 (((e_n S34 : Nat) : Int)) (0) h43) rfl rfl kd10_init kl8_17 ks10_init rfl ki10 kh10_init ⟨Nat.le_of_ble_eq_true rfl, Nat.le_of_ble_eq_true rfl⟩ rfl (by simp [e_rv_cat, e_int_cat, e_long_cat]) ⟨(by show _ ≤ e_n S' - e_n S; omega), (by show _ ≤ e_s S' - e_s S; omega)⟩ dX8_init_43 rfl (fun H locs hp hS => ?_)
  refine e_cells (c' := e_n S43 - e_n S) (s' := e_s S43 - e_s S) (by omega) (by omega) ?_
  obtain ⟨S46, h46, hsh⟩ := Option.bind_eq_some_iff.mp hsh
  refine e_finR (ty := .object "ModalPad$Strip") (k := 3) hx hb hts in_X8 tyX8 tyX8_ok nmX8 hown hp hS h46 rfl (by decide) (by decide) rfl (hts _ kf8_27) rfl rfl hin2 rfl (by decide +kernel) (Or.inl ⟨_, rfl⟩) dX8_init_46 (fun H locs hp hS => ?_)
  have nn := pF_n h46
  refine e_cells (c' := e_n S46 - e_n S) (s' := e_s S46 - e_s S) (by omega) (by omega) ?_
  refine e_aload_n (B := B) (x := x0) hx hb dX8_init_49 rfl (hl.at 0 rfl) ?_
  refine lv_iconst (v := iI (-1)) hx hb dX8_init_50 rfl ?_
  obtain ⟨S51, h51, hsh⟩ := Option.bind_eq_some_iff.mp hsh
  refine e_putI (k := 4) hx hb hts in_X8 tyX8 tyX8_ok nmX8 hown hp hS h51 rfl (by decide) (by decide) rfl (hts _ kf8_30) rfl rfl (by decide +kernel) dX8_init_51 (fun H locs hp hS => ?_)
  have nn := pF_n h51
  refine e_cells (c' := e_n S51 - e_n S) (s' := e_s S51 - e_s S) (by omega) (by omega) ?_
  refine e_aload_n (B := B) (x := x0) hx hb dX8_init_54 rfl (hl.at 0 rfl) ?_
  refine lv_iconst (v := iI (-1)) hx hb dX8_init_55 rfl ?_
  obtain ⟨S56, h56, hsh⟩ := Option.bind_eq_some_iff.mp hsh
  refine e_putI (k := 5) hx hb hts in_X8 tyX8 tyX8_ok nmX8 hown hp hS h56 rfl (by decide) (by decide) rfl (hts _ kf8_34) rfl rfl (by decide +kernel) dX8_init_56 (fun H locs hp hS => ?_)
  have nn := pF_n h56
  refine e_cells (c' := e_n S56 - e_n S) (s' := e_s S56 - e_s S) (by omega) (by omega) ?_
  refine lv_iconst (v := iI (0)) hx hb dX8_init_59 rfl ?_
  refine e_istore_n (lv' := [(1, .int (iI (0))), (0, e_rv B (x0))]) hx hb dX8_init_60 rfl hl (by decide) rfl (fun ls hl => ?_)
  exact w8_init_l61 (hB0 := hB0) (hin2 := hin2) E 1000000 hp hS ⟨by omega, by omega⟩ (hl.sub [1, 0] rfl) hsh
