theorem ok3_init {S : HP} {x0 : Int} {r : HP} (h : s3_init S x0 = some r) : 0 ≤ x0 ∧ x0.toNat < e_n S ∧ e_g S x0.toNat = 3 := (gd_some h).1
set_option maxRecDepth 100000 in
set_option maxHeartbeats 4000000 in
theorem c3_init (l : Launch) (D : va_G) (cA : Nat → ClassId) (B : Nat) (S S' : HP) (x0 : Int) (hsh : s3_init S x0 = some S') : Met l yX3_init (e_wu yX3_init cX3_init 1 none) ({ frames := 1, cells := e_n S' - e_n S, slots := e_s S' - e_s S, locals := 12 } : Room) (va_Pc [e_rv B (x0)] (fun U => e_PU D cA B S U)) (e_Qv D cA B S') (e_n S' - e_n S) (e_s S' - e_s S) (e_A B) := by
  refine Met.ofW (cc := cX3_init) (maxL := 1) (ret := none) (by decide +kernel) rfl ?_
  intro p e s m args below meth c s₁ Bd hml hv
  obtain ⟨rfl, hp⟩ := hv
  have hp : e_Pic D cA B S s s.heap := hp
  have hx := Bd.exec
  have hb := Bd.bytes
  have hrt := Bd.returns
  have hlk := Bd.notSynchronized
  have hown : s.vm.findClass RX3 = some m.cls := findClass_of_methodNamed Bd.named
  have hts : ∀ w ∈ e_tb, w.before ([e_rv B (x0)] : List Value).toArray s = true := fun w h => atoms_spec (ws := (e_wu yX3_init cX3_init 1 none)) Bd.pre w (List.mem_cons_of_mem _ h)
  have E : e_En p s m ([e_rv B (x0)] : List Value).toArray meth c cX3_init RX3 1 none := ⟨hx, hb, hml, hown, hts, hlk, hrt⟩
  have hS : va_S (e_A B) s.heap s.heap [] := va_S.rf
  have hin2 : meth.name = "<init>" := (name_of_methodNamed Bd.named Bd.method).1
  have hB0 : s.heap.size = B + e_n S := hp.2.2.1
  refine e_cells (c' := e_n S - e_n S) (s' := e_s S - e_s S) (Nat.sub_self _).symm (Nat.sub_self _).symm ?_
  have hl := e_entry (vs := [e_rv B (x0)]) (n := 1) (Nat.le_of_ble_eq_true rfl) (e_cc (e_rv_cat _ _) e_cn)
  rw [lg_entry_eq]
  generalize (lg_sl [e_rv B (x0)] ++ List.replicate (1 - (lg_sl [e_rv B (x0)]).length) Slot.unset).toArray = ls at hl ⊢
  generalize ([e_rv B (x0)] : List Value).toArray = args at hts E ⊢
  have hl : e_lo ls 1 [(0, e_rv B (x0))] := hl
  have hok := (gd_some hsh).1
  have hsh := (gd_some hsh).2
  refine e_aload_n (B := B) (x := x0) hx hb dX3_init_0 rfl (hl.at 0 rfl) ?_
  refine e_objInit hx hb hml hown hts kl3_3 kM_oi kM_oc hl.size hok.1 dX3_init_1 (Nat.le_of_ble_eq_true rfl) (Nat.le_of_ble_eq_true rfl) ?_
  refine e_aload_n (B := B) (x := x0) hx hb dX3_init_4 rfl (hl.at 0 rfl) ?_
  refine lv_bipush (v := iI (12)) hx hb dX3_init_5 (by decide +kernel) ?_
  obtain ⟨S7, h7, hsh⟩ := Option.bind_eq_some_iff.mp hsh
  obtain ⟨hsh, cc7⟩ := ckV_some hsh
  have cc7 : e_n S7 ≤ e_n S' ∧ e_s S7 ≤ e_s S' := cc7
  have nn := nA_n h7
  refine e_newa (t := 101) (t0 := 1) (atype := .int) (ty := .int) hx hb hts kA_int rfl hp hS h7 (by decide) rfl (fun h => h) (fun _ _ => rfl) (by decide) (by show _ ≤ e_n S' - e_n S; omega) (by show _ ≤ e_s S' - e_s S; omega) dX3_init_7 (fun H hp hS => ?_)
  refine e_cells (c' := e_n S7 - e_n S) (s' := e_s S7 - e_s S) (by omega) (by omega) ?_
  obtain ⟨S9, h9, hsh⟩ := Option.bind_eq_some_iff.mp hsh
  refine e_finR (ty := .array .int) (k := 0) hx hb hts in_X3 tyX3 tyX3_ok nmX3 hown hp hS h9 rfl (by decide) (by decide) rfl (hts _ kf3_11) rfl rfl hin2 rfl (by decide +kernel) (Or.inr ⟨_, rfl⟩) dX3_init_9 (fun H locs hp hS => ?_)
  have nn := pF_n h9
  refine e_cells (c' := e_n S9 - e_n S) (s' := e_s S9 - e_s S) (by omega) (by omega) ?_
  refine e_aload_n (B := B) (x := x0) hx hb dX3_init_12 rfl (hl.at 0 rfl) ?_
  refine lv_bipush (v := iI (12)) hx hb dX3_init_13 (by decide +kernel) ?_
  obtain ⟨S15, h15, hsh⟩ := Option.bind_eq_some_iff.mp hsh
  obtain ⟨hsh, cc15⟩ := ckV_some hsh
  have cc15 : e_n S15 ≤ e_n S' ∧ e_s S15 ≤ e_s S' := cc15
  have nn := nA_n h15
  refine e_newa (t := 102) (t0 := 2) (atype := .long) (ty := .long) hx hb hts kA_long rfl hp hS h15 (by decide) rfl (fun h => h) (fun _ _ => rfl) (by decide) (by show _ ≤ e_n S' - e_n S; omega) (by show _ ≤ e_s S' - e_s S; omega) dX3_init_15 (fun H hp hS => ?_)
  refine e_cells (c' := e_n S15 - e_n S) (s' := e_s S15 - e_s S) (by omega) (by omega) ?_
  obtain ⟨S17, h17, hsh⟩ := Option.bind_eq_some_iff.mp hsh
  refine e_finR (ty := .array .long) (k := 1) hx hb hts in_X3 tyX3 tyX3_ok nmX3 hown hp hS h17 rfl (by decide) (by decide) rfl (hts _ kf3_15) rfl rfl hin2 rfl (by decide +kernel) (Or.inr ⟨_, rfl⟩) dX3_init_17 (fun H locs hp hS => ?_)
  have nn := pF_n h17
  refine e_cells (c' := e_n S17 - e_n S) (s' := e_s S17 - e_s S) (by omega) (by omega) ?_
  refine e_aload_n (B := B) (x := x0) hx hb dX3_init_20 rfl (hl.at 0 rfl) ?_
  refine lv_bipush (v := iI (12)) hx hb dX3_init_21 (by decide +kernel) ?_
  obtain ⟨S23, h23, hsh⟩ := Option.bind_eq_some_iff.mp hsh
  obtain ⟨hsh, cc23⟩ := ckV_some hsh
  have cc23 : e_n S23 ≤ e_n S' ∧ e_s S23 ≤ e_s S' := cc23
  have nn := nA_n h23
  refine e_newa (t := 102) (t0 := 2) (atype := .long) (ty := .long) hx hb hts kA_long rfl hp hS h23 (by decide) rfl (fun h => h) (fun _ _ => rfl) (by decide) (by show _ ≤ e_n S' - e_n S; omega) (by show _ ≤ e_s S' - e_s S; omega) dX3_init_23 (fun H hp hS => ?_)
  refine e_cells (c' := e_n S23 - e_n S) (s' := e_s S23 - e_s S) (by omega) (by omega) ?_
  obtain ⟨S25, h25, hsh⟩ := Option.bind_eq_some_iff.mp hsh
  refine e_finR (ty := .array .long) (k := 2) hx hb hts in_X3 tyX3 tyX3_ok nmX3 hown hp hS h25 rfl (by decide) (by decide) rfl (hts _ kf3_19) rfl rfl hin2 rfl (by decide +kernel) (Or.inr ⟨_, rfl⟩) dX3_init_25 (fun H locs hp hS => ?_)
  have nn := pF_n h25
  refine e_cells (c' := e_n S25 - e_n S) (s' := e_s S25 - e_s S) (by omega) (by omega) ?_
  refine e_aload_n (B := B) (x := x0) hx hb dX3_init_28 rfl (hl.at 0 rfl) ?_
  refine lv_bipush (v := iI (12)) hx hb dX3_init_29 (by decide +kernel) ?_
  obtain ⟨S31, h31, hsh⟩ := Option.bind_eq_some_iff.mp hsh
  obtain ⟨hsh, cc31⟩ := ckV_some hsh
  have cc31 : e_n S31 ≤ e_n S' ∧ e_s S31 ≤ e_s S' := cc31
  have nn := nA_n h31
  refine e_newa (t := 103) (t0 := 3) (atype := .boolean) (ty := .boolean) hx hb hts kA_boolean rfl hp hS h31 (by decide) rfl (fun h => h) (fun _ _ => rfl) (by decide) (by show _ ≤ e_n S' - e_n S; omega) (by show _ ≤ e_s S' - e_s S; omega) dX3_init_31 (fun H hp hS => ?_)
  refine e_cells (c' := e_n S31 - e_n S) (s' := e_s S31 - e_s S) (by omega) (by omega) ?_
  obtain ⟨S33, h33, hsh⟩ := Option.bind_eq_some_iff.mp hsh
  refine e_finR (ty := .array .boolean) (k := 3) hx hb hts in_X3 tyX3 tyX3_ok nmX3 hown hp hS h33 rfl (by decide) (by decide) rfl (hts _ kf3_22) rfl rfl hin2 rfl (by decide +kernel) (Or.inr ⟨_, rfl⟩) dX3_init_33 (fun H locs hp hS => ?_)
  have nn := pF_n h33
  refine e_cells (c' := e_n S33 - e_n S) (s' := e_s S33 - e_s S) (by omega) (by omega) ?_
  refine e_aload_n (B := B) (x := x0) hx hb dX3_init_36 rfl (hl.at 0 rfl) ?_
  refine lv_iconst (v := iI (0)) hx hb dX3_init_37 rfl ?_
  obtain ⟨S38, h38, hsh⟩ := Option.bind_eq_some_iff.mp hsh
  refine e_putI (k := 4) hx hb hts in_X3 tyX3 tyX3_ok nmX3 hown hp hS h38 rfl (by decide) (by decide) rfl (hts _ kf3_26) rfl rfl (by decide +kernel) dX3_init_38 (fun H locs hp hS => ?_)
  have nn := pF_n h38
  refine e_cells (c' := e_n S38 - e_n S) (s' := e_s S38 - e_s S) (by omega) (by omega) ?_
  refine e_aload_n (B := B) (x := x0) hx hb dX3_init_41 rfl (hl.at 0 rfl) ?_
  refine lv_sipush (v := iI (512)) hx hb dX3_init_42 (by decide +kernel) ?_
  obtain ⟨S45, h45, hsh⟩ := Option.bind_eq_some_iff.mp hsh
  obtain ⟨hsh, cc45⟩ := ckV_some hsh
  have cc45 : e_n S45 ≤ e_n S' ∧ e_s S45 ≤ e_s S' := cc45
  have nn := nA_n h45
  refine e_newa (t := 101) (t0 := 1) (atype := .int) (ty := .int) hx hb hts kA_int rfl hp hS h45 (by decide) rfl (fun h => h) (fun _ _ => rfl) (by decide) (by show _ ≤ e_n S' - e_n S; omega) (by show _ ≤ e_s S' - e_s S; omega) dX3_init_45 (fun H hp hS => ?_)
  refine e_cells (c' := e_n S45 - e_n S) (s' := e_s S45 - e_s S) (by omega) (by omega) ?_
  obtain ⟨S47, h47, hsh⟩ := Option.bind_eq_some_iff.mp hsh
  refine e_finR (ty := .array .int) (k := 5) hx hb hts in_X3 tyX3 tyX3_ok nmX3 hown hp hS h47 rfl (by decide) (by decide) rfl (hts _ kf3_30) rfl rfl hin2 rfl (by decide +kernel) (Or.inr ⟨_, rfl⟩) dX3_init_47 (fun H locs hp hS => ?_)
  have nn := pF_n h47
  refine e_cells (c' := e_n S47 - e_n S) (s' := e_s S47 - e_s S) (by omega) (by omega) ?_
  refine e_aload_n (B := B) (x := x0) hx hb dX3_init_50 rfl (hl.at 0 rfl) ?_
  refine lv_sipush (v := iI (512)) hx hb dX3_init_51 (by decide +kernel) ?_
  obtain ⟨S54, h54, hsh⟩ := Option.bind_eq_some_iff.mp hsh
  obtain ⟨hsh, cc54⟩ := ckV_some hsh
  have cc54 : e_n S54 ≤ e_n S' ∧ e_s S54 ≤ e_s S' := cc54
  have nn := nA_n h54
  refine e_newa (t := 101) (t0 := 1) (atype := .int) (ty := .int) hx hb hts kA_int rfl hp hS h54 (by decide) rfl (fun h => h) (fun _ _ => rfl) (by decide) (by show _ ≤ e_n S' - e_n S; omega) (by show _ ≤ e_s S' - e_s S; omega) dX3_init_54 (fun H hp hS => ?_)
  refine e_cells (c' := e_n S54 - e_n S) (s' := e_s S54 - e_s S) (by omega) (by omega) ?_
  obtain ⟨S56, h56, hsh⟩ := Option.bind_eq_some_iff.mp hsh
  refine e_finR (ty := .array .int) (k := 6) hx hb hts in_X3 tyX3 tyX3_ok nmX3 hown hp hS h56 rfl (by decide) (by decide) rfl (hts _ kf3_33) rfl rfl hin2 rfl (by decide +kernel) (Or.inr ⟨_, rfl⟩) dX3_init_56 (fun H locs hp hS => ?_)
  have nn := pF_n h56
  refine e_cells (c' := e_n S56 - e_n S) (s' := e_s S56 - e_s S) (by omega) (by omega) ?_
  refine e_aload_n (B := B) (x := x0) hx hb dX3_init_59 rfl (hl.at 0 rfl) ?_
  refine lv_iconst (v := iI (0)) hx hb dX3_init_60 rfl ?_
  obtain ⟨S61, h61, hsh⟩ := Option.bind_eq_some_iff.mp hsh
  refine e_putI (k := 7) hx hb hts in_X3 tyX3 tyX3_ok nmX3 hown hp hS h61 rfl (by decide) (by decide) rfl (hts _ kf3_36) rfl rfl (by decide +kernel) dX3_init_61 (fun H locs hp hS => ?_)
  have nn := pF_n h61
  refine e_cells (c' := e_n S61 - e_n S) (s' := e_s S61 - e_s S) (by omega) (by omega) ?_
  refine e_aload_n (B := B) (x := x0) hx hb dX3_init_64 rfl (hl.at 0 rfl) ?_
  refine lv_iconst (v := iI (0)) hx hb dX3_init_65 rfl ?_
  obtain ⟨S66, h66, hsh⟩ := Option.bind_eq_some_iff.mp hsh
  refine e_putI (k := 8) hx hb hts in_X3 tyX3 tyX3_ok nmX3 hown hp hS h66 rfl (by decide) (by decide) rfl (hts _ kf3_39) rfl rfl (by decide +kernel) dX3_init_66 (fun H locs hp hS => ?_)
  have nn := pF_n h66
  refine e_cells (c' := e_n S66 - e_n S) (s' := e_s S66 - e_s S) (by omega) (by omega) ?_
  refine e_aload_n (B := B) (x := x0) hx hb dX3_init_69 rfl (hl.at 0 rfl) ?_
  refine lv_iconst (v := iI (0)) hx hb dX3_init_70 rfl ?_
  obtain ⟨S71, h71, hsh⟩ := Option.bind_eq_some_iff.mp hsh
  refine e_putI (k := 9) hx hb hts in_X3 tyX3 tyX3_ok nmX3 hown hp hS h71 rfl (by decide) (by decide) rfl (hts _ kf3_42) rfl rfl (by decide +kernel) dX3_init_71 (fun H locs hp hS => ?_)
  have nn := pF_n h71
  refine e_cells (c' := e_n S71 - e_n S) (s' := e_s S71 - e_s S) (by omega) (by omega) ?_
  refine e_aload_n (B := B) (x := x0) hx hb dX3_init_74 rfl (hl.at 0 rfl) ?_
  refine lv_iconst (v := iI (0)) hx hb dX3_init_75 rfl ?_
  obtain ⟨S76, h76, hsh⟩ := Option.bind_eq_some_iff.mp hsh
  refine e_putZ (k := 10) hx hb hts in_X3 tyX3 tyX3_ok nmX3 hown hp hS h76 rfl (by decide) (by decide) rfl (hts _ kf3_45) rfl rfl (by decide +kernel) dX3_init_76 (fun H locs hp hS => ?_)
  have nn := pZ_n h76
  refine e_cells (c' := e_n S76 - e_n S) (s' := e_s S76 - e_s S) (by omega) (by omega) ?_
  refine e_aload_n (B := B) (x := x0) hx hb dX3_init_79 rfl (hl.at 0 rfl) ?_
  refine lv_iconst (v := iI (0)) hx hb dX3_init_80 rfl ?_
  obtain ⟨S81, h81, hsh⟩ := Option.bind_eq_some_iff.mp hsh
  refine e_putI (k := 11) hx hb hts in_X3 tyX3 tyX3_ok nmX3 hown hp hS h81 rfl (by decide) (by decide) rfl (hts _ kf3_49) rfl rfl (by decide +kernel) dX3_init_81 (fun H locs hp hS => ?_)
  have nn := pF_n h81
  refine e_cells (c' := e_n S81 - e_n S) (s' := e_s S81 - e_s S) (by omega) (by omega) ?_
  cases hsh
  exact e_vret hx hb hrt hlk hp hS dX3_init_84
theorem ok9_clear {S : HP} {x0 : Int} {r : HP} (h : s9_clear S x0 = some r) : 0 ≤ x0 ∧ x0.toNat < e_n S ∧ e_g S x0.toNat = 9 := (gd_some h).1
set_option maxRecDepth 100000 in
set_option maxHeartbeats 4000000 in
theorem c9_clear (l : Launch) (D : va_G) (cA : Nat → ClassId) (B : Nat) (S S' : HP) (x0 : Int) (hsh : s9_clear S x0 = some S') : Met l yX9_clear (e_wu yX9_clear cX9_clear 1 none) ({ frames := 0, cells := 0, slots := 0, locals := 0 } : Room) (va_Pc [e_rv B (x0)] (fun U => e_PU D cA B S U)) (e_Qv D cA B S') 0 0 (e_A B) := by
  refine Met.ofW (cc := cX9_clear) (maxL := 1) (ret := none) (by decide +kernel) rfl ?_
  intro p e s m args below meth c s₁ Bd hml hv
  obtain ⟨rfl, hp⟩ := hv
  have hp : e_Pic D cA B S s s.heap := hp
  have hx := Bd.exec
  have hb := Bd.bytes
  have hrt := Bd.returns
  have hlk := Bd.notSynchronized
  have hown : s.vm.findClass RX9 = some m.cls := findClass_of_methodNamed Bd.named
  have hts : ∀ w ∈ e_tb, w.before ([e_rv B (x0)] : List Value).toArray s = true := fun w h => atoms_spec (ws := (e_wu yX9_clear cX9_clear 1 none)) Bd.pre w (List.mem_cons_of_mem _ h)
  have E : e_En p s m ([e_rv B (x0)] : List Value).toArray meth c cX9_clear RX9 1 none := ⟨hx, hb, hml, hown, hts, hlk, hrt⟩
  have hS : va_S (e_A B) s.heap s.heap [] := va_S.rf
  have hl := e_entry (vs := [e_rv B (x0)]) (n := 1) (Nat.le_of_ble_eq_true rfl) (e_cc (e_rv_cat _ _) e_cn)
  rw [lg_entry_eq]
  generalize (lg_sl [e_rv B (x0)] ++ List.replicate (1 - (lg_sl [e_rv B (x0)]).length) Slot.unset).toArray = ls at hl ⊢
  generalize ([e_rv B (x0)] : List Value).toArray = args at hts E ⊢
  have hl : e_lo ls 1 [(0, e_rv B (x0))] := hl
  have hsh := (gd_some hsh).2
  refine e_aload_n (B := B) (x := x0) hx hb dX9_clear_0 rfl (hl.at 0 rfl) ?_
  refine lv_iconst (v := iI (0)) hx hb dX9_clear_1 rfl ?_
  obtain ⟨S2, h2, hsh⟩ := Option.bind_eq_some_iff.mp hsh
  refine e_putI (k := 2) hx hb hts in_X9 tyX9 tyX9_ok nmX9 hown hp hS h2 rfl (by decide) (by decide) rfl (hts _ kf9_21) rfl rfl (by decide +kernel) dX9_clear_2 (fun H locs hp hS => ?_)
  refine e_aload_n (B := B) (x := x0) hx hb dX9_clear_5 rfl (hl.at 0 rfl) ?_
  refine lv_iconst (v := iI (-1)) hx hb dX9_clear_6 rfl ?_
  obtain ⟨S7, h7, hsh⟩ := Option.bind_eq_some_iff.mp hsh
  refine e_putI (k := 3) hx hb hts in_X9 tyX9 tyX9_ok nmX9 hown hp hS h7 rfl (by decide) (by decide) rfl (hts _ kf9_25) rfl rfl (by decide +kernel) dX9_clear_7 (fun H locs hp hS => ?_)
  cases hsh
  exact e_vret hx hb hrt hlk hp hS dX9_clear_10
theorem ok10_init {S : HP} {x0 : Int} {x1 : Int} {r : HP} (h : s10_init S x0 x1 = some r) : 0 ≤ x0 ∧ x0.toNat < e_n S ∧ e_g S x0.toNat = 10 := (gd_some h).1
set_option maxRecDepth 100000 in
set_option maxHeartbeats 4000000 in
theorem w10_init_b24 {p : Program} {l : Launch} {e : Env} {s : State} {m : MethodId} {args : Array Value} {below : List Frame} {meth : Method} {c : Code} {D : va_G} {cA : Nat → ClassId} {B : Nat} {res : HP} {S0 : HP} (hB0 : s.heap.size = B + e_n S0) (hin2 : meth.name = "<init>") (E : e_En p s m args meth c cX10_init RX10 2 none) {ls : Array Slot} {H : Heap} {locs : List Loc} {S : HP} {y0 : Int} {y1 : Int} (hp : e_Pic D cA B S s H) (hS : va_S (e_A B) s.heap H locs) (h0 : e_n S0 ≤ e_n S ∧ e_s S0 ≤ e_s S) (hl : e_lo ls 2 []) (hsh : s10_init_b24 S y0 y1 = some res) : W p l e ({ frames := 1, cells := e_n res - e_n S0, slots := e_s res - e_s S0, locals := 12 } : Room) s m args below meth c H locs (e_n S - e_n S0) (e_s S - e_s S0) (MQ below (e_Qv D cA B res) args s (e_n res - e_n S0) (e_s res - e_s S0) (e_A B)) (F0 m 24 ls [.int (iI (y1)), e_rv B (y0)]) := by
  obtain ⟨hx, hb, hml, hown, hts, hlk, hrt⟩ := id E
  unfold s10_init_b24 at hsh
  obtain ⟨S24, h24, hsh⟩ := Option.bind_eq_some_iff.mp hsh
  obtain ⟨hsh, cc24⟩ := ckV_some hsh
  have cc24 : e_n S24 ≤ e_n res ∧ e_s S24 ≤ e_s res := cc24
  have nn := nA_n h24
  refine e_newa (t := 100) (t0 := 0) (atype := .char) (ty := .char) hx hb hts kA_char rfl hp hS h24 (by decide) rfl (fun h => h) (fun _ _ => rfl) (by decide) (by show _ ≤ e_n res - e_n S0; omega) (by show _ ≤ e_s res - e_s S0; omega) dX10_init_24 (fun H hp hS => ?_)
  refine e_cells (c' := e_n S24 - e_n S0) (s' := e_s S24 - e_s S0) (by omega) (by omega) ?_
  obtain ⟨S26, h26, hsh⟩ := Option.bind_eq_some_iff.mp hsh
  refine e_putR (ty := .array .char) (k := 0) hx hb hts in_X10 tyX10 tyX10_ok nmX10 hown hp hS h26 rfl (by decide) (by decide) rfl (hts _ kf10_18) rfl rfl (by decide +kernel) (Or.inr ⟨_, rfl⟩) dX10_init_26 (fun H locs hp hS => ?_)
  have nn := pF_n h26
  refine e_cells (c' := e_n S26 - e_n S0) (s' := e_s S26 - e_s S0) (by omega) (by omega) ?_
  cases hsh
  exact e_vret hx hb hrt hlk hp hS dX10_init_29
set_option maxRecDepth 100000 in
set_option maxHeartbeats 4000000 in
theorem c10_init (l : Launch) (D : va_G) (cA : Nat → ClassId) (B : Nat) (S S' : HP) (x0 : Int) (x1 : Int) (hsh : s10_init S x0 x1 = some S') : Met l yX10_init (e_wu yX10_init cX10_init 2 none) ({ frames := 1, cells := e_n S' - e_n S, slots := e_s S' - e_s S, locals := 12 } : Room) (va_Pc [e_rv B (x0), .int (iI (x1))] (fun U => e_PU D cA B S U)) (e_Qv D cA B S') (e_n S' - e_n S) (e_s S' - e_s S) (e_A B) := by
  refine Met.ofW (cc := cX10_init) (maxL := 2) (ret := none) (by decide +kernel) rfl ?_
  intro p e s m args below meth c s₁ Bd hml hv
  obtain ⟨rfl, hp⟩ := hv
  have hp : e_Pic D cA B S s s.heap := hp
  have hx := Bd.exec
  have hb := Bd.bytes
  have hrt := Bd.returns
  have hlk := Bd.notSynchronized
  have hown : s.vm.findClass RX10 = some m.cls := findClass_of_methodNamed Bd.named
  have hts : ∀ w ∈ e_tb, w.before ([e_rv B (x0), .int (iI (x1))] : List Value).toArray s = true := fun w h => atoms_spec (ws := (e_wu yX10_init cX10_init 2 none)) Bd.pre w (List.mem_cons_of_mem _ h)
  have E : e_En p s m ([e_rv B (x0), .int (iI (x1))] : List Value).toArray meth c cX10_init RX10 2 none := ⟨hx, hb, hml, hown, hts, hlk, hrt⟩
  have hS : va_S (e_A B) s.heap s.heap [] := va_S.rf
  have hin2 : meth.name = "<init>" := (name_of_methodNamed Bd.named Bd.method).1
  have hB0 : s.heap.size = B + e_n S := hp.2.2.1
  refine e_cells (c' := e_n S - e_n S) (s' := e_s S - e_s S) (Nat.sub_self _).symm (Nat.sub_self _).symm ?_
  have hl := e_entry (vs := [e_rv B (x0), .int (iI (x1))]) (n := 2) (Nat.le_of_ble_eq_true rfl) (e_cc (e_rv_cat _ _) (e_cc rfl e_cn))
  rw [lg_entry_eq]
  generalize (lg_sl [e_rv B (x0), .int (iI (x1))] ++ List.replicate (2 - (lg_sl [e_rv B (x0), .int (iI (x1))]).length) Slot.unset).toArray = ls at hl ⊢
  generalize ([e_rv B (x0), .int (iI (x1))] : List Value).toArray = args at hts E ⊢
  have hl : e_lo ls 2 [(0, e_rv B (x0)), (1, .int (iI (x1)))] := hl
  have hok := (gd_some hsh).1
  have hsh := (gd_some hsh).2
  refine e_aload_n (B := B) (x := x0) hx hb dX10_init_0 rfl (hl.at 0 rfl) ?_
  refine e_objInit hx hb hml hown hts kl10_3 kM_oi kM_oc hl.size hok.1 dX10_init_1 (Nat.le_of_ble_eq_true rfl) (Nat.le_of_ble_eq_true rfl) ?_
  refine e_aload_n (B := B) (x := x0) hx hb dX10_init_4 rfl (hl.at 0 rfl) ?_
  refine lv_iconst (v := iI (0)) hx hb dX10_init_5 rfl ?_
  obtain ⟨S6, h6, hsh⟩ := Option.bind_eq_some_iff.mp hsh
  refine e_putI (k := 1) hx hb hts in_X10 tyX10 tyX10_ok nmX10 hown hp hS h6 rfl (by decide) (by decide) rfl (hts _ kf10_9) rfl rfl (by decide +kernel) dX10_init_6 (fun H locs hp hS => ?_)
  have nn := pF_n h6
  refine e_cells (c' := e_n S6 - e_n S) (s' := e_s S6 - e_s S) (by omega) (by omega) ?_
  refine e_aload_n (B := B) (x := x0) hx hb dX10_init_9 rfl (hl.at 0 rfl) ?_
  refine lv_iconst (v := iI (0)) hx hb dX10_init_10 rfl ?_
  obtain ⟨S11, h11, hsh⟩ := Option.bind_eq_some_iff.mp hsh
  refine e_putI (k := 2) hx hb hts in_X10 tyX10 tyX10_ok nmX10 hown hp hS h11 rfl (by decide) (by decide) rfl (hts _ kf10_15) rfl rfl (by decide +kernel) dX10_init_11 (fun H locs hp hS => ?_)
  have nn := pF_n h11
  refine e_cells (c' := e_n S11 - e_n S) (s' := e_s S11 - e_s S) (by omega) (by omega) ?_
  refine e_aload_n (B := B) (x := x0) hx hb dX10_init_14 rfl (hl.at 0 rfl) ?_
  refine lv_iload_n hx hb dX10_init_15 rfl (hl.at 1 rfl) ?_
  refine e_if_ge (tgt := 23) hx hb dX10_init_16 (by decide) (fun c16 => ?_) (fun c16 => ?_)
  · rw [if_pos c16] at hsh
    refine lv_iload_n hx hb dX10_init_23 rfl (hl.at 1 rfl) ?_
    exact w10_init_b24 (hB0 := hB0) (hin2 := hin2) E hp hS ⟨by omega, by omega⟩ (hl.sub [] rfl) hsh
  · rw [if_neg c16] at hsh
    refine lv_iconst (v := iI (0)) hx hb dX10_init_19 rfl ?_
    refine lv_goto (tgt := 24) hx hb dX10_init_20 (by decide) ?_
    exact w10_init_b24 (hB0 := hB0) (hin2 := hin2) E hp hS ⟨by omega, by omega⟩ (hl.sub [] rfl) hsh
theorem ok11_init {S : HP} {x0 : Int} {x1 : Int} {r : HP} (h : s11_init S x0 x1 = some r) : 0 ≤ x0 ∧ x0.toNat < e_n S ∧ e_g S x0.toNat = 11 := (gd_some h).1
set_option maxRecDepth 100000 in
set_option maxHeartbeats 4000000 in
theorem c11_init (l : Launch) (D : va_G) (cA : Nat → ClassId) (B : Nat) (S S' : HP) (x0 : Int) (x1 : Int) (hsh : s11_init S x0 x1 = some S') : Met l yX11_init (e_wu yX11_init cX11_init 2 none) ({ frames := 1, cells := e_n S' - e_n S, slots := e_s S' - e_s S, locals := 12 } : Room) (va_Pc [e_rv B (x0), e_rv B (x1)] (fun U => e_PU D cA B S U)) (e_Qv D cA B S') (e_n S' - e_n S) (e_s S' - e_s S) (e_A B) := by
  refine Met.ofW (cc := cX11_init) (maxL := 2) (ret := none) (by decide +kernel) rfl ?_
  intro p e s m args below meth c s₁ Bd hml hv
  obtain ⟨rfl, hp⟩ := hv
  have hp : e_Pic D cA B S s s.heap := hp
  have hx := Bd.exec
  have hb := Bd.bytes
  have hrt := Bd.returns
  have hlk := Bd.notSynchronized
  have hown : s.vm.findClass RX11 = some m.cls := findClass_of_methodNamed Bd.named
  have hts : ∀ w ∈ e_tb, w.before ([e_rv B (x0), e_rv B (x1)] : List Value).toArray s = true := fun w h => atoms_spec (ws := (e_wu yX11_init cX11_init 2 none)) Bd.pre w (List.mem_cons_of_mem _ h)
  have E : e_En p s m ([e_rv B (x0), e_rv B (x1)] : List Value).toArray meth c cX11_init RX11 2 none := ⟨hx, hb, hml, hown, hts, hlk, hrt⟩
  have hS : va_S (e_A B) s.heap s.heap [] := va_S.rf
  have hin2 : meth.name = "<init>" := (name_of_methodNamed Bd.named Bd.method).1
  have hB0 : s.heap.size = B + e_n S := hp.2.2.1
  refine e_cells (c' := e_n S - e_n S) (s' := e_s S - e_s S) (Nat.sub_self _).symm (Nat.sub_self _).symm ?_
  have hl := e_entry (vs := [e_rv B (x0), e_rv B (x1)]) (n := 2) (Nat.le_of_ble_eq_true rfl) (e_cc (e_rv_cat _ _) (e_cc (e_rv_cat _ _) e_cn))
  rw [lg_entry_eq]
  generalize (lg_sl [e_rv B (x0), e_rv B (x1)] ++ List.replicate (2 - (lg_sl [e_rv B (x0), e_rv B (x1)]).length) Slot.unset).toArray = ls at hl ⊢
  generalize ([e_rv B (x0), e_rv B (x1)] : List Value).toArray = args at hts E ⊢
  have hl : e_lo ls 2 [(0, e_rv B (x0)), (1, e_rv B (x1))] := hl
  have hok := (gd_some hsh).1
  have hsh := (gd_some hsh).2
  refine e_aload_n (B := B) (x := x0) hx hb dX11_init_0 rfl (hl.at 0 rfl) ?_
  refine e_objInit hx hb hml hown hts kl11_3 kM_oi kM_oc hl.size hok.1 dX11_init_1 (Nat.le_of_ble_eq_true rfl) (Nat.le_of_ble_eq_true rfl) ?_
  refine e_aload_n (B := B) (x := x0) hx hb dX11_init_4 rfl (hl.at 0 rfl) ?_
  refine lv_sipush (v := iI (2400)) hx hb dX11_init_5 (by decide +kernel) ?_
  obtain ⟨S8, h8, hsh⟩ := Option.bind_eq_some_iff.mp hsh
  obtain ⟨hsh, cc8⟩ := ckV_some hsh
  have cc8 : e_n S8 ≤ e_n S' ∧ e_s S8 ≤ e_s S' := cc8
  have nn := nA_n h8
  refine e_newa (t := 100) (t0 := 0) (atype := .char) (ty := .char) hx hb hts kA_char rfl hp hS h8 (by decide) rfl (fun h => h) (fun _ _ => rfl) (by decide) (by show _ ≤ e_n S' - e_n S; omega) (by show _ ≤ e_s S' - e_s S; omega) dX11_init_8 (fun H hp hS => ?_)
  refine e_cells (c' := e_n S8 - e_n S) (s' := e_s S8 - e_s S) (by omega) (by omega) ?_
  obtain ⟨S10, h10, hsh⟩ := Option.bind_eq_some_iff.mp hsh
  refine e_finR (ty := .array .char) (k := 0) hx hb hts in_X11 tyX11 tyX11_ok nmX11 hown hp hS h10 rfl (by decide) (by decide) rfl (hts _ kf11_9) rfl rfl hin2 rfl (by decide +kernel) (Or.inr ⟨_, rfl⟩) dX11_init_10 (fun H locs hp hS => ?_)
  have nn := pF_n h10
  refine e_cells (c' := e_n S10 - e_n S) (s' := e_s S10 - e_s S) (by omega) (by omega) ?_
  refine e_aload_n (B := B) (x := x0) hx hb dX11_init_13 rfl (hl.at 0 rfl) ?_
  refine lv_bipush (v := iI (40)) hx hb dX11_init_14 (by decide +kernel) ?_
  obtain ⟨S16, h16, hsh⟩ := Option.bind_eq_some_iff.mp hsh
  obtain ⟨hsh, cc16⟩ := ckV_some hsh
  have cc16 : e_n S16 ≤ e_n S' ∧ e_s S16 ≤ e_s S' := cc16
  have nn := nA_n h16
  refine e_newa (t := 101) (t0 := 1) (atype := .int) (ty := .int) hx hb hts kA_int rfl hp hS h16 (by decide) rfl (fun h => h) (fun _ _ => rfl) (by decide) (by show _ ≤ e_n S' - e_n S; omega) (by show _ ≤ e_s S' - e_s S; omega) dX11_init_16 (fun H hp hS => ?_)
  refine e_cells (c' := e_n S16 - e_n S) (s' := e_s S16 - e_s S) (by omega) (by omega) ?_
  obtain ⟨S18, h18, hsh⟩ := Option.bind_eq_some_iff.mp hsh
  refine e_finR (ty := .array .int) (k := 1) hx hb hts in_X11 tyX11 tyX11_ok nmX11 hown hp hS h18 rfl (by decide) (by decide) rfl (hts _ kf11_15) rfl rfl hin2 rfl (by decide +kernel) (Or.inr ⟨_, rfl⟩) dX11_init_18 (fun H locs hp hS => ?_)
  have nn := pF_n h18
  refine e_cells (c' := e_n S18 - e_n S) (s' := e_s S18 - e_s S) (by omega) (by omega) ?_
  refine e_aload_n (B := B) (x := x0) hx hb dX11_init_21 rfl (hl.at 0 rfl) ?_
  refine lv_bipush (v := iI (40)) hx hb dX11_init_22 (by decide +kernel) ?_
  obtain ⟨S24, h24, hsh⟩ := Option.bind_eq_some_iff.mp hsh
  obtain ⟨hsh, cc24⟩ := ckV_some hsh
  have cc24 : e_n S24 ≤ e_n S' ∧ e_s S24 ≤ e_s S' := cc24
  have nn := nA_n h24
  refine e_newa (t := 101) (t0 := 1) (atype := .int) (ty := .int) hx hb hts kA_int rfl hp hS h24 (by decide) rfl (fun h => h) (fun _ _ => rfl) (by decide) (by show _ ≤ e_n S' - e_n S; omega) (by show _ ≤ e_s S' - e_s S; omega) dX11_init_24 (fun H hp hS => ?_)
  refine e_cells (c' := e_n S24 - e_n S) (s' := e_s S24 - e_s S) (by omega) (by omega) ?_
  obtain ⟨S26, h26, hsh⟩ := Option.bind_eq_some_iff.mp hsh
  refine e_finR (ty := .array .int) (k := 2) hx hb hts in_X11 tyX11 tyX11_ok nmX11 hown hp hS h26 rfl (by decide) (by decide) rfl (hts _ kf11_19) rfl rfl hin2 rfl (by decide +kernel) (Or.inr ⟨_, rfl⟩) dX11_init_26 (fun H locs hp hS => ?_)
  have nn := pF_n h26
  refine e_cells (c' := e_n S26 - e_n S) (s' := e_s S26 - e_s S) (by omega) (by omega) ?_
  refine e_aload_n (B := B) (x := x0) hx hb dX11_init_29 rfl (hl.at 0 rfl) ?_
  refine lv_iconst (v := iI (0)) hx hb dX11_init_30 rfl ?_
  obtain ⟨S31, h31, hsh⟩ := Option.bind_eq_some_iff.mp hsh
  refine e_putI (k := 3) hx hb hts in_X11 tyX11 tyX11_ok nmX11 hown hp hS h31 rfl (by decide) (by decide) rfl (hts _ kf11_22) rfl rfl (by decide +kernel) dX11_init_31 (fun H locs hp hS => ?_)
  have nn := pF_n h31
  refine e_cells (c' := e_n S31 - e_n S) (s' := e_s S31 - e_s S) (by omega) (by omega) ?_
  refine e_aload_n (B := B) (x := x0) hx hb dX11_init_34 rfl (hl.at 0 rfl) ?_
  refine lv_iconst (v := iI (1)) hx hb dX11_init_35 rfl ?_
  obtain ⟨S36, h36, hsh⟩ := Option.bind_eq_some_iff.mp hsh
  refine e_putI (k := 5) hx hb hts in_X11 tyX11 tyX11_ok nmX11 hown hp hS h36 rfl (by decide) (by decide) rfl (hts _ kf11_26) rfl rfl (by decide +kernel) dX11_init_36 (fun H locs hp hS => ?_)
  have nn := pF_n h36
  refine e_cells (c' := e_n S36 - e_n S) (s' := e_s S36 - e_s S) (by omega) (by omega) ?_
  refine e_aload_n (B := B) (x := x0) hx hb dX11_init_39 rfl (hl.at 0 rfl) ?_
  refine e_aload_n (B := B) (x := x1) hx hb dX11_init_40 rfl (hl.at 1 rfl) ?_
  obtain ⟨S41, h41, hsh⟩ := Option.bind_eq_some_iff.mp hsh
  refine e_finR (ty := .object "ModalPad$Places") (k := 4) hx hb hts in_X11 tyX11 tyX11_ok nmX11 hown hp hS h41 rfl (by decide) (by decide) rfl (hts _ kf11_29) rfl rfl hin2 rfl (by decide +kernel) (Or.inl ⟨_, rfl⟩) dX11_init_41 (fun H locs hp hS => ?_)
  have nn := pF_n h41
  refine e_cells (c' := e_n S41 - e_n S) (s' := e_s S41 - e_s S) (by omega) (by omega) ?_
  cases hsh
  exact e_vret hx hb hrt hlk hp hS dX11_init_44
theorem ok11_copyOf {S : HP} {x0 : Int} {x1 : Int} {r : HP} (h : s11_copyOf S x0 x1 = some r) : 0 ≤ x0 ∧ x0.toNat < e_n S ∧ e_g S x0.toNat = 11 := (gd_some h).1
set_option maxRecDepth 100000 in
set_option maxHeartbeats 4000000 in
theorem w11_copyOf_l46 {p : Program} {l : Launch} {e : Env} {s : State} {m : MethodId} {args : Array Value} {below : List Frame} {meth : Method} {c : Code} {D : va_G} {cA : Nat → ClassId} {B : Nat} {res : HP} (E : e_En p s m args meth c cX11_copyOf RX11 3 none) : ∀ (f : Nat) {ls : Array Slot} {H : Heap} {locs : List Loc} {S : HP} {x0 : Int} {x2 : Int} (hp : e_Pic D cA B S s H) (hS : va_S (e_A B) s.heap H locs) (hl : e_lo ls 3 [(0, e_rv B (x0)), (2, .int (iI (x2)))]) (hsh : s11_copyOf_l46 f S x0 x2 = some res), W p l e ({ frames := 1, cells := 0, slots := 0, locals := 60 } : Room) s m args below meth c H locs 0 0 (MQ below (e_Qv D cA B res) args s 0 0 (e_A B)) (F0 m 46 ls []) := by
  obtain ⟨hx, hb, hml, hown, hts, hlk, hrt⟩ := id E
  intro f
  induction f with
  | zero => intro ls H locs S x0 x2 hp hS hl hsh; cases hsh
  | succ f ih =>
    intro ls H locs S x0 x2 hp hS hl hsh
    have hk46 : ∀ {ls : Array Slot} {H : Heap} {locs : List Loc} {S : HP} {x0 : Int} {x2 : Int} (hp : e_Pic D cA B S s H) (hS : va_S (e_A B) s.heap H locs) (hl : e_lo ls 3 [(0, e_rv B (x0)), (2, .int (iI (x2)))]) (hsh : (s11_copyOf_l46 f) S x0 x2 = some res), W p l e ({ frames := 1, cells := 0, slots := 0, locals := 60 } : Room) s m args below meth c H locs 0 0 (MQ below (e_Qv D cA B res) args s 0 0 (e_A B)) (F0 m 46 ls []) := ih
    generalize hkk : s11_copyOf_l46 f = k46 at hk46
    rw [s11_copyOf_l46] at hsh
    rw [hkk] at hsh
    try dsimp only at hsh
    refine lv_iload_n hx hb dX11_copyOf_46 rfl (hl.at 1 rfl) ?_
    refine e_aload_n (B := B) (x := x0) hx hb dX11_copyOf_47 rfl (hl.at 0 rfl) ?_
    obtain ⟨v48, h48, hsh⟩ := Option.bind_eq_some_iff.mp hsh
    refine e_getI (k := 5) hx hb hts in_X11 hown hp h48 rfl (by decide) (by decide) rfl (hts _ kf11_26) rfl dX11_copyOf_48 ?_
    refine e_icmp_ge (tgt := 80) hx hb dX11_copyOf_51 (by decide) (fun c51 => ?_) (fun c51 => ?_)
    · rw [if_pos c51] at hsh
      cases hsh
      exact e_vret hx hb hrt hlk hp hS dX11_copyOf_80
    · rw [if_neg c51] at hsh
      refine e_aload_n (B := B) (x := x0) hx hb dX11_copyOf_54 rfl (hl.at 0 rfl) ?_
      refine lv_dup hx hb dX11_copyOf_55 (e_rv_cat _ _) ?_
      obtain ⟨v56, h56, hsh⟩ := Option.bind_eq_some_iff.mp hsh
      refine e_getI (k := 3) hx hb hts in_X11 hown hp h56 rfl (by decide) (by decide) rfl (hts _ kf11_22) rfl dX11_copyOf_56 ?_
      refine lv_iconst (v := iI (1)) hx hb dX11_copyOf_59 rfl ?_
      refine e_iadd hx hb dX11_copyOf_60 ?_
      obtain ⟨S61, h61, hsh⟩ := Option.bind_eq_some_iff.mp hsh
      refine e_putI (k := 3) hx hb hts in_X11 tyX11 tyX11_ok nmX11 hown hp hS h61 rfl (by decide) (by decide) rfl (hts _ kf11_22) rfl rfl (by decide +kernel) dX11_copyOf_61 (fun H locs hp hS => ?_)
      refine e_aload_n (B := B) (x := x0) hx hb dX11_copyOf_64 rfl (hl.at 0 rfl) ?_
      obtain ⟨v65, h65, hsh⟩ := Option.bind_eq_some_iff.mp hsh
      refine e_getR (k := 2) hx hb hts in_X11 hown hp h65 rfl (by decide) (by decide) rfl (hts _ kf11_19) rfl dX11_copyOf_65 ?_
      refine lv_iload_n hx hb dX11_copyOf_68 rfl (hl.at 1 rfl) ?_
      refine e_aload_n (B := B) (x := x0) hx hb dX11_copyOf_69 rfl (hl.at 0 rfl) ?_
      obtain ⟨v70, h70, hsh⟩ := Option.bind_eq_some_iff.mp hsh
      refine e_getI (k := 3) hx hb hts in_X11 hown hp h70 rfl (by decide) (by decide) rfl (hts _ kf11_22) rfl dX11_copyOf_70 ?_
      obtain ⟨S73, h73, hsh⟩ := Option.bind_eq_some_iff.mp hsh
      refine e_iast hx hb hp hS h73 dX11_copyOf_73 (fun H locs hp hS => ?_)
      refine e_iinc (n := 1) (x := x2) (lv' := [(2, .int (iI ((x2 + 1)))), (0, e_rv B (x0))]) hx hb dX11_copyOf_74 hl (k := 1) rfl (by decide) rfl (fun ls hl => ?_)
      refine lv_goto (tgt := 46) hx hb dX11_copyOf_77 (by decide) ?_
      exact hk46 hp hS (hl.sub [1, 0] rfl) hsh
set_option maxRecDepth 100000 in
set_option maxHeartbeats 4000000 in
theorem c11_copyOf (l : Launch) (D : va_G) (cA : Nat → ClassId) (B : Nat) (S S' : HP) (x0 : Int) (x1 : Int) (hsh : s11_copyOf S x0 x1 = some S') : Met l yX11_copyOf (e_wu yX11_copyOf cX11_copyOf 3 none) ({ frames := 1, cells := 0, slots := 0, locals := 60 } : Room) (va_Pc [e_rv B (x0), e_rv B (x1)] (fun U => e_PU D cA B S U)) (e_Qv D cA B S') 0 0 (e_A B) := by
  refine Met.ofW (cc := cX11_copyOf) (maxL := 3) (ret := none) (by decide +kernel) rfl ?_
  intro p e s m args below meth c s₁ Bd hml hv
  obtain ⟨rfl, hp⟩ := hv
  have hp : e_Pic D cA B S s s.heap := hp
  have hx := Bd.exec
  have hb := Bd.bytes
  have hrt := Bd.returns
  have hlk := Bd.notSynchronized
  have hown : s.vm.findClass RX11 = some m.cls := findClass_of_methodNamed Bd.named
  have hts : ∀ w ∈ e_tb, w.before ([e_rv B (x0), e_rv B (x1)] : List Value).toArray s = true := fun w h => atoms_spec (ws := (e_wu yX11_copyOf cX11_copyOf 3 none)) Bd.pre w (List.mem_cons_of_mem _ h)
  have E : e_En p s m ([e_rv B (x0), e_rv B (x1)] : List Value).toArray meth c cX11_copyOf RX11 3 none := ⟨hx, hb, hml, hown, hts, hlk, hrt⟩
  have hS : va_S (e_A B) s.heap s.heap [] := va_S.rf
  have hl := e_entry (vs := [e_rv B (x0), e_rv B (x1)]) (n := 3) (Nat.le_of_ble_eq_true rfl) (e_cc (e_rv_cat _ _) (e_cc (e_rv_cat _ _) e_cn))
  rw [lg_entry_eq]
  generalize (lg_sl [e_rv B (x0), e_rv B (x1)] ++ List.replicate (3 - (lg_sl [e_rv B (x0), e_rv B (x1)]).length) Slot.unset).toArray = ls at hl ⊢
  generalize ([e_rv B (x0), e_rv B (x1)] : List Value).toArray = args at hts E ⊢
  have hl : e_lo ls 3 [(0, e_rv B (x0)), (1, e_rv B (x1))] := hl
  have hsh := (gd_some hsh).2
  refine e_aload_n (B := B) (x := x1) hx hb dX11_copyOf_0 rfl (hl.at 1 rfl) ?_
  obtain ⟨v1, h1, hsh⟩ := Option.bind_eq_some_iff.mp hsh
  refine e_getR (k := 0) hx hb hts in_X11 hown hp h1 rfl (by decide) (by decide) rfl (hts _ kf11_9) rfl dX11_copyOf_1 ?_
  refine lv_iconst (v := iI (0)) hx hb dX11_copyOf_4 rfl ?_
  refine e_aload_n (B := B) (x := x0) hx hb dX11_copyOf_5 rfl (hl.at 0 rfl) ?_
  obtain ⟨v6, h6, hsh⟩ := Option.bind_eq_some_iff.mp hsh
  refine e_getR (k := 0) hx hb hts in_X11 hown hp h6 rfl (by decide) (by decide) rfl (hts _ kf11_9) rfl dX11_copyOf_6 ?_
  refine lv_iconst (v := iI (0)) hx hb dX11_copyOf_9 rfl ?_
  refine e_aload_n (B := B) (x := x0) hx hb dX11_copyOf_10 rfl (hl.at 0 rfl) ?_
  obtain ⟨v11, h11, hsh⟩ := Option.bind_eq_some_iff.mp hsh
  refine e_getR (k := 0) hx hb hts in_X11 hown hp h11 rfl (by decide) (by decide) rfl (hts _ kf11_9) rfl dX11_copyOf_11 ?_
  obtain ⟨v14, h14, hsh⟩ := Option.bind_eq_some_iff.mp hsh
  refine e_alen (t := 100) (t0 := 0) hx hb hp h14 (by decide) rfl dX11_copyOf_14 ?_
  obtain ⟨S15, h15, hsh⟩ := Option.bind_eq_some_iff.mp hsh
  refine e_copy (t := 100) (t0 := 0) (rest := []) hx hb (hml.trans hl.size.symm) hown hts kl11_47 kM_acn kM_acs kM_aci hp hS h15 (by decide) (by decide) (by decide) rfl rfl (by have h9 := hS.1; have h8 := hp.2.2.1; omega) (Nat.le_of_ble_eq_true rfl) (Nat.le_trans (Nat.add_le_add_right (show _ ≤ 8 by simp [e_rv_cat, e_int_cat]) _) (Nat.le_trans (by decide +kernel : 8 + (nativeFrameWords "java/lang/System" "arraycopy" 5 + 11) ≤ 60) (Nat.le_of_ble_eq_true rfl))) dX11_copyOf_15 (fun H locs hp hS => ?_)
  refine e_aload_n (B := B) (x := x1) hx hb dX11_copyOf_18 rfl (hl.at 1 rfl) ?_
  obtain ⟨v19, h19, hsh⟩ := Option.bind_eq_some_iff.mp hsh
  refine e_getR (k := 1) hx hb hts in_X11 hown hp h19 rfl (by decide) (by decide) rfl (hts _ kf11_15) rfl dX11_copyOf_19 ?_
  refine lv_iconst (v := iI (0)) hx hb dX11_copyOf_22 rfl ?_
  refine e_aload_n (B := B) (x := x0) hx hb dX11_copyOf_23 rfl (hl.at 0 rfl) ?_
  obtain ⟨v24, h24, hsh⟩ := Option.bind_eq_some_iff.mp hsh
  refine e_getR (k := 1) hx hb hts in_X11 hown hp h24 rfl (by decide) (by decide) rfl (hts _ kf11_15) rfl dX11_copyOf_24 ?_
  refine lv_iconst (v := iI (0)) hx hb dX11_copyOf_27 rfl ?_
  refine e_aload_n (B := B) (x := x0) hx hb dX11_copyOf_28 rfl (hl.at 0 rfl) ?_
  obtain ⟨v29, h29, hsh⟩ := Option.bind_eq_some_iff.mp hsh
  refine e_getR (k := 1) hx hb hts in_X11 hown hp h29 rfl (by decide) (by decide) rfl (hts _ kf11_15) rfl dX11_copyOf_29 ?_
  obtain ⟨v32, h32, hsh⟩ := Option.bind_eq_some_iff.mp hsh
  refine e_alen (t := 101) (t0 := 1) hx hb hp h32 (by decide) rfl dX11_copyOf_32 ?_
  obtain ⟨S33, h33, hsh⟩ := Option.bind_eq_some_iff.mp hsh
  refine e_copy (t := 101) (t0 := 1) (rest := []) hx hb (hml.trans hl.size.symm) hown hts kl11_47 kM_acn kM_acs kM_aci hp hS h33 (by decide) (by decide) (by decide) rfl rfl (by have h9 := hS.1; have h8 := hp.2.2.1; omega) (Nat.le_of_ble_eq_true rfl) (Nat.le_trans (Nat.add_le_add_right (show _ ≤ 8 by simp [e_rv_cat, e_int_cat]) _) (Nat.le_trans (by decide +kernel : 8 + (nativeFrameWords "java/lang/System" "arraycopy" 5 + 11) ≤ 60) (Nat.le_of_ble_eq_true rfl))) dX11_copyOf_33 (fun H locs hp hS => ?_)
  refine e_aload_n (B := B) (x := x0) hx hb dX11_copyOf_36 rfl (hl.at 0 rfl) ?_
  refine e_aload_n (B := B) (x := x1) hx hb dX11_copyOf_37 rfl (hl.at 1 rfl) ?_
  obtain ⟨v38, h38, hsh⟩ := Option.bind_eq_some_iff.mp hsh
  refine e_getI (k := 5) hx hb hts in_X11 hown hp h38 rfl (by decide) (by decide) rfl (hts _ kf11_26) rfl dX11_copyOf_38 ?_
  obtain ⟨S41, h41, hsh⟩ := Option.bind_eq_some_iff.mp hsh
  refine e_putI (k := 5) hx hb hts in_X11 tyX11 tyX11_ok nmX11 hown hp hS h41 rfl (by decide) (by decide) rfl (hts _ kf11_26) rfl rfl (by decide +kernel) dX11_copyOf_41 (fun H locs hp hS => ?_)
  refine lv_iconst (v := iI (0)) hx hb dX11_copyOf_44 rfl ?_
  refine e_istore_n (lv' := [(2, .int (iI (0))), (0, e_rv B (x0)), (1, e_rv B (x1))]) hx hb dX11_copyOf_45 rfl hl (by decide) rfl (fun ls hl => ?_)
  exact w11_copyOf_l46 E 1000000 hp hS (hl.sub [1, 0] rfl) hsh
theorem ok0_init {S : HP} {x0 : Int} {r : HP} (h : s0_init S x0 = some r) : 0 ≤ x0 ∧ x0.toNat < e_n S ∧ e_g S x0.toNat = 0 := (gd_some h).1
set_option maxRecDepth 100000 in
set_option maxHeartbeats 4000000 in
theorem c0_init (l : Launch) (D : va_G) (cA : Nat → ClassId) (B : Nat) (S S' : HP) (x0 : Int) (hsh : s0_init S x0 = some S') : Met l yX0_init (e_wu yX0_init cX0_init 1 none) ({ frames := 2, cells := e_n S' - e_n S, slots := e_s S' - e_s S, locals := 33 } : Room) (va_Pc [e_rv B (x0)] (fun U => e_PU D cA B S U)) (e_Qv D cA B S') (e_n S' - e_n S) (e_s S' - e_s S) (e_A B) := by
  refine Met.ofW (cc := cX0_init) (maxL := 1) (ret := none) (by decide +kernel) rfl ?_
  intro p e s m args below meth c s₁ Bd hml hv
  obtain ⟨rfl, hp⟩ := hv
  have hp : e_Pic D cA B S s s.heap := hp
  have hx := Bd.exec
  have hb := Bd.bytes
  have hrt := Bd.returns
  have hlk := Bd.notSynchronized
  have hown : s.vm.findClass RX0 = some m.cls := findClass_of_methodNamed Bd.named
  have hts : ∀ w ∈ e_tb, w.before ([e_rv B (x0)] : List Value).toArray s = true := fun w h => atoms_spec (ws := (e_wu yX0_init cX0_init 1 none)) Bd.pre w (List.mem_cons_of_mem _ h)
  have E : e_En p s m ([e_rv B (x0)] : List Value).toArray meth c cX0_init RX0 1 none := ⟨hx, hb, hml, hown, hts, hlk, hrt⟩
  have hS : va_S (e_A B) s.heap s.heap [] := va_S.rf
  have hin2 : meth.name = "<init>" := (name_of_methodNamed Bd.named Bd.method).1
  have hB0 : s.heap.size = B + e_n S := hp.2.2.1
  refine e_cells (c' := e_n S - e_n S) (s' := e_s S - e_s S) (Nat.sub_self _).symm (Nat.sub_self _).symm ?_
  have hl := e_entry (vs := [e_rv B (x0)]) (n := 1) (Nat.le_of_ble_eq_true rfl) (e_cc (e_rv_cat _ _) e_cn)
  rw [lg_entry_eq]
  generalize (lg_sl [e_rv B (x0)] ++ List.replicate (1 - (lg_sl [e_rv B (x0)]).length) Slot.unset).toArray = ls at hl ⊢
  generalize ([e_rv B (x0)] : List Value).toArray = args at hts E ⊢
  have hl : e_lo ls 1 [(0, e_rv B (x0))] := hl
  have hok := (gd_some hsh).1
  have hsh := (gd_some hsh).2
  refine e_aload_n (B := B) (x := x0) hx hb dX0_init_0 rfl (hl.at 0 rfl) ?_
  refine e_objInit hx hb hml hown hts kl0_3 kM_oi kM_oc hl.size hok.1 dX0_init_1 (Nat.le_of_ble_eq_true rfl) (Nat.le_of_ble_eq_true rfl) ?_
  refine e_aload_n (B := B) (x := x0) hx hb dX0_init_4 rfl (hl.at 0 rfl) ?_
  obtain ⟨hsh, cc5⟩ := ckV_some hsh
  have cc5 : e_n S + 1 ≤ e_n S' ∧ e_s S + 3 ≤ e_s S' := cc5
  have nn5 : e_n (nO 10 S) = e_n S + 1 ∧ e_s (nO 10 S) = e_s S + 3 := nO_n _ _
  refine e_new (ci := 10) (N := 3) hx hb hts in_X10 tyX10 tyX10_ok hown kcl0_9 kn10 ki10 hp hS rfl (by decide) rfl (df_X10 B) (by show _ ≤ e_n S' - e_n S; omega) (by show _ ≤ e_s S' - e_s S; omega) dX0_init_5 (fun H hp hS => ?_)
  refine e_cells (c' := e_n (nO 10 S) - e_n S) (s' := e_s (nO 10 S) - e_s S) (by omega) (by omega) ?_
  refine lv_dup hx hb dX0_init_8 (e_rv_cat _ _) ?_
  refine lv_iconst (v := iI (0)) hx hb dX0_init_9 rfl ?_
  obtain ⟨S10, h10, hsh⟩ := Option.bind_eq_some_iff.mp hsh
  obtain ⟨hsh, cc10, cd10⟩ := smV_some hsh
  have cd10 : e_n S10 ≤ e_n S' ∧ e_s S10 ≤ e_s S' := cd10
  have ok10 := ok10_init h10
  refine e_callN (mc := e_n S10 - e_n (nO 10 S)) (ms := e_s S10 - e_s (nO 10 S)) (As := [.int (iI (0))]) (rest := [e_rv B (((e_n S : Nat) : Int)), e_rv B (x0)]) hx hb hml hown hts hp hS hl.size ok10.1 (c10_init l D cA B (nO 10 S) S10 (((e_n S : Nat) : Int)) (0) h10) rfl rfl kd10_init kl0_11 ks10_init rfl ki10 kh10_init ⟨Nat.le_of_ble_eq_true rfl, Nat.le_of_ble_eq_true rfl⟩ rfl (by simp [e_rv_cat, e_int_cat, e_long_cat]) ⟨(by show _ ≤ e_n S' - e_n S; omega), (by show _ ≤ e_s S' - e_s S; omega)⟩ dX0_init_10 rfl (fun H locs hp hS => ?_)
  refine e_cells (c' := e_n S10 - e_n S) (s' := e_s S10 - e_s S) (by omega) (by omega) ?_
  obtain ⟨S13, h13, hsh⟩ := Option.bind_eq_some_iff.mp hsh
  refine e_finR (ty := .object "ModalPad$Strip") (k := 0) hx hb hts in_X0 tyX0 tyX0_ok nmX0 hown hp hS h13 rfl (by decide) (by decide) rfl (hts _ kf0_14) rfl rfl hin2 rfl (by decide +kernel) (Or.inl ⟨_, rfl⟩) dX0_init_13 (fun H locs hp hS => ?_)
  have nn := pF_n h13
  refine e_cells (c' := e_n S13 - e_n S) (s' := e_s S13 - e_s S) (by omega) (by omega) ?_
  cases hsh
  exact e_vret hx hb hrt hlk hp hS dX0_init_16
theorem ok9_add {S : HP} {x0 : Int} {x1 : Int} {r : HP} (h : s9_add S x0 x1 = some r) : 0 ≤ x0 ∧ x0.toNat < e_n S ∧ e_g S x0.toNat = 9 := (gd_some h).1
set_option maxRecDepth 100000 in
set_option maxHeartbeats 4000000 in
theorem w9_add_b42 {p : Program} {l : Launch} {e : Env} {s : State} {m : MethodId} {args : Array Value} {below : List Frame} {meth : Method} {c : Code} {D : va_G} {cA : Nat → ClassId} {B : Nat} {res : HP} {S0 : HP} (hB0 : s.heap.size = B + e_n S0) (E : e_En p s m args meth c cX9_add RX9 2 none) {ls : Array Slot} {H : Heap} {locs : List Loc} {S : HP} {x0 : Int} {x1 : Int} (hp : e_Pic D cA B S s H) (hS : va_S (e_A B) s.heap H locs) (h0 : e_n S0 ≤ e_n S ∧ e_s S0 ≤ e_s S) (hl : e_lo ls 2 [(0, e_rv B (x0)), (1, e_rv B (x1))]) (hsh : s9_add_b42 S x0 x1 = some res) : W p l e ({ frames := 2, cells := e_n res - e_n S0, slots := e_s res - e_s S0, locals := 82 } : Room) s m args below meth c H locs (e_n S - e_n S0) (e_s S - e_s S0) (MQ below (e_Qv D cA B res) args s (e_n res - e_n S0) (e_s res - e_s S0) (e_A B)) (F0 m 42 ls []) := by
  obtain ⟨hx, hb, hml, hown, hts, hlk, hrt⟩ := id E
  unfold s9_add_b42 at hsh
  refine e_aload_n (B := B) (x := x0) hx hb dX9_add_42 rfl (hl.at 0 rfl) ?_
  obtain ⟨v43, h43, hsh⟩ := Option.bind_eq_some_iff.mp hsh
  refine e_getR (k := 0) hx hb hts in_X9 hown hp h43 rfl (by decide) (by decide) rfl (hts _ kf9_13) rfl dX9_add_43 ?_
  refine e_aload_n (B := B) (x := x0) hx hb dX9_add_46 rfl (hl.at 0 rfl) ?_
  obtain ⟨v47, h47, hsh⟩ := Option.bind_eq_some_iff.mp hsh
  refine e_getI (k := 2) hx hb hts in_X9 hown hp h47 rfl (by decide) (by decide) rfl (hts _ kf9_21) rfl dX9_add_47 ?_
  obtain ⟨v50, h50, hsh⟩ := Option.bind_eq_some_iff.mp hsh
  refine e_aald (t := 105) (t0 := 5) hx hb hp h50 (by decide) rfl dX9_add_50 ?_
  refine e_aload_n (B := B) (x := x1) hx hb dX9_add_51 rfl (hl.at 1 rfl) ?_
  obtain ⟨S52, h52, hsh⟩ := Option.bind_eq_some_iff.mp hsh
  obtain ⟨hsh, cc52, cd52⟩ := snV_some hsh
  have cd52 : e_n S52 ≤ e_n res ∧ e_s S52 ≤ e_s res := cd52
  have ok52 := ok11_copyOf h52
  refine e_callV (nL := 2) (mc := 0) (ms := 0) (T := TX11) (N := 6) (As := [e_rv B (x1)]) (rest := []) hx hb hml hown hts hp hS hl.size ok52.1 ok52.2.1 ok52.2.2 rfl (by decide) (c11_copyOf l D cA B S S52 (v50) (x1) h52) rfl rfl kd11_copyOf (kl9_34) ks11_copyOf kv11_copyOf ki11 kh11_copyOf ⟨Nat.le_of_ble_eq_true rfl, Nat.le_of_ble_eq_true rfl⟩ rfl (by simp [e_rv_cat, e_int_cat, e_long_cat]) ⟨(by show _ ≤ e_n res - e_n S0; omega), (by show _ ≤ e_s res - e_s S0; omega)⟩ dX9_add_52 rfl (fun H locs hp hS => ?_)
  refine e_cells (c' := e_n S52 - e_n S0) (s' := e_s S52 - e_s S0) (by omega) (by omega) ?_
  refine e_aload_n (B := B) (x := x0) hx hb dX9_add_55 rfl (hl.at 0 rfl) ?_
  obtain ⟨v56, h56, hsh⟩ := Option.bind_eq_some_iff.mp hsh
  refine e_getR (k := 1) hx hb hts in_X9 hown hp h56 rfl (by decide) (by decide) rfl (hts _ kf9_17) rfl dX9_add_56 ?_
  refine e_aload_n (B := B) (x := x0) hx hb dX9_add_59 rfl (hl.at 0 rfl) ?_
  obtain ⟨v60, h60, hsh⟩ := Option.bind_eq_some_iff.mp hsh
  refine e_getI (k := 2) hx hb hts in_X9 hown hp h60 rfl (by decide) (by decide) rfl (hts _ kf9_21) rfl dX9_add_60 ?_
  refine e_aload_n (B := B) (x := x0) hx hb dX9_add_63 rfl (hl.at 0 rfl) ?_
  obtain ⟨v64, h64, hsh⟩ := Option.bind_eq_some_iff.mp hsh
  refine e_getI (k := 3) hx hb hts in_X9 hown hp h64 rfl (by decide) (by decide) rfl (hts _ kf9_25) rfl dX9_add_64 ?_
  obtain ⟨S67, h67, hsh⟩ := Option.bind_eq_some_iff.mp hsh
  refine e_iast hx hb hp hS h67 dX9_add_67 (fun H locs hp hS => ?_)
  have nn := pA_n h67
  refine e_cells (c' := e_n S67 - e_n S0) (s' := e_s S67 - e_s S0) (by omega) (by omega) ?_
  refine e_aload_n (B := B) (x := x0) hx hb dX9_add_68 rfl (hl.at 0 rfl) ?_
  refine e_aload_n (B := B) (x := x0) hx hb dX9_add_69 rfl (hl.at 0 rfl) ?_
  obtain ⟨v70, h70, hsh⟩ := Option.bind_eq_some_iff.mp hsh
  refine e_getI (k := 2) hx hb hts in_X9 hown hp h70 rfl (by decide) (by decide) rfl (hts _ kf9_21) rfl dX9_add_70 ?_
  obtain ⟨S73, h73, hsh⟩ := Option.bind_eq_some_iff.mp hsh
  refine e_putI (k := 3) hx hb hts in_X9 tyX9 tyX9_ok nmX9 hown hp hS h73 rfl (by decide) (by decide) rfl (hts _ kf9_25) rfl rfl (by decide +kernel) dX9_add_73 (fun H locs hp hS => ?_)
  have nn := pF_n h73
  refine e_cells (c' := e_n S73 - e_n S0) (s' := e_s S73 - e_s S0) (by omega) (by omega) ?_
  refine e_aload_n (B := B) (x := x0) hx hb dX9_add_76 rfl (hl.at 0 rfl) ?_
  refine lv_dup hx hb dX9_add_77 (e_rv_cat _ _) ?_
  obtain ⟨v78, h78, hsh⟩ := Option.bind_eq_some_iff.mp hsh
  refine e_getI (k := 2) hx hb hts in_X9 hown hp h78 rfl (by decide) (by decide) rfl (hts _ kf9_21) rfl dX9_add_78 ?_
  refine lv_iconst (v := iI (1)) hx hb dX9_add_81 rfl ?_
  refine e_iadd hx hb dX9_add_82 ?_
  obtain ⟨S83, h83, hsh⟩ := Option.bind_eq_some_iff.mp hsh
  refine e_putI (k := 2) hx hb hts in_X9 tyX9 tyX9_ok nmX9 hown hp hS h83 rfl (by decide) (by decide) rfl (hts _ kf9_21) rfl rfl (by decide +kernel) dX9_add_83 (fun H locs hp hS => ?_)
  have nn := pF_n h83
  refine e_cells (c' := e_n S83 - e_n S0) (s' := e_s S83 - e_s S0) (by omega) (by omega) ?_
  cases hsh
  exact e_vret hx hb hrt hlk hp hS dX9_add_86
set_option maxRecDepth 100000 in
set_option maxHeartbeats 4000000 in
theorem w9_add_b13 {p : Program} {l : Launch} {e : Env} {s : State} {m : MethodId} {args : Array Value} {below : List Frame} {meth : Method} {c : Code} {D : va_G} {cA : Nat → ClassId} {B : Nat} {res : HP} {S0 : HP} (hB0 : s.heap.size = B + e_n S0) (E : e_En p s m args meth c cX9_add RX9 2 none) {ls : Array Slot} {H : Heap} {locs : List Loc} {S : HP} {x0 : Int} {x1 : Int} (hp : e_Pic D cA B S s H) (hS : va_S (e_A B) s.heap H locs) (h0 : e_n S0 ≤ e_n S ∧ e_s S0 ≤ e_s S) (hl : e_lo ls 2 [(0, e_rv B (x0)), (1, e_rv B (x1))]) (hsh : s9_add_b13 S x0 x1 = some res) : W p l e ({ frames := 2, cells := e_n res - e_n S0, slots := e_s res - e_s S0, locals := 82 } : Room) s m args below meth c H locs (e_n S - e_n S0) (e_s S - e_s S0) (MQ below (e_Qv D cA B res) args s (e_n res - e_n S0) (e_s res - e_s S0) (e_A B)) (F0 m 13 ls []) := by
  obtain ⟨hx, hb, hml, hown, hts, hlk, hrt⟩ := id E
  unfold s9_add_b13 at hsh
  refine e_aload_n (B := B) (x := x0) hx hb dX9_add_13 rfl (hl.at 0 rfl) ?_
  obtain ⟨v14, h14, hsh⟩ := Option.bind_eq_some_iff.mp hsh
  refine e_getR (k := 0) hx hb hts in_X9 hown hp h14 rfl (by decide) (by decide) rfl (hts _ kf9_13) rfl dX9_add_14 ?_
  refine e_aload_n (B := B) (x := x0) hx hb dX9_add_17 rfl (hl.at 0 rfl) ?_
  obtain ⟨v18, h18, hsh⟩ := Option.bind_eq_some_iff.mp hsh
  refine e_getI (k := 2) hx hb hts in_X9 hown hp h18 rfl (by decide) (by decide) rfl (hts _ kf9_21) rfl dX9_add_18 ?_
  obtain ⟨v21, h21, hsh⟩ := Option.bind_eq_some_iff.mp hsh
  refine e_aald (t := 105) (t0 := 5) hx hb hp h21 (by decide) rfl dX9_add_21 ?_
  refine e_ifnonnull (tgt := 42) hx hb dX9_add_22 (by decide) (fun c22 => ?_) (fun c22 => ?_)
  · rw [if_neg c22] at hsh
    exact w9_add_b42 (hB0 := hB0) E hp hS ⟨by omega, by omega⟩ (hl.sub [0, 1] rfl) hsh
  · rw [if_pos c22] at hsh
    refine e_aload_n (B := B) (x := x0) hx hb dX9_add_25 rfl (hl.at 0 rfl) ?_
    obtain ⟨v26, h26, hsh⟩ := Option.bind_eq_some_iff.mp hsh
    refine e_getR (k := 0) hx hb hts in_X9 hown hp h26 rfl (by decide) (by decide) rfl (hts _ kf9_13) rfl dX9_add_26 ?_
    refine e_aload_n (B := B) (x := x0) hx hb dX9_add_29 rfl (hl.at 0 rfl) ?_
    obtain ⟨v30, h30, hsh⟩ := Option.bind_eq_some_iff.mp hsh
    refine e_getI (k := 2) hx hb hts in_X9 hown hp h30 rfl (by decide) (by decide) rfl (hts _ kf9_21) rfl dX9_add_30 ?_
    obtain ⟨hsh, cc33⟩ := ckV_some hsh
    have cc33 : e_n S + 1 ≤ e_n res ∧ e_s S + 6 ≤ e_s res := cc33
    have nn33 : e_n (nO 11 S) = e_n S + 1 ∧ e_s (nO 11 S) = e_s S + 6 := nO_n _ _
    refine e_new (ci := 11) (N := 6) hx hb hts in_X11 tyX11 tyX11_ok hown kcl9_11 kn11 ki11 hp hS rfl (by decide) rfl (df_X11 B) (by show _ ≤ e_n res - e_n S0; omega) (by show _ ≤ e_s res - e_s S0; omega) dX9_add_33 (fun H hp hS => ?_)
    refine e_cells (c' := e_n (nO 11 S) - e_n S0) (s' := e_s (nO 11 S) - e_s S0) (by omega) (by omega) ?_
    refine lv_dup hx hb dX9_add_36 (e_rv_cat _ _) ?_
    refine e_null (B := B) hx hb dX9_add_37 ?_
    obtain ⟨S38, h38, hsh⟩ := Option.bind_eq_some_iff.mp hsh
    obtain ⟨hsh, cc38, cd38⟩ := smV_some hsh
    have cd38 : e_n S38 ≤ e_n res ∧ e_s S38 ≤ e_s res := cd38
    have ok38 := ok11_init h38
    refine e_callN (mc := e_n S38 - e_n (nO 11 S)) (ms := e_s S38 - e_s (nO 11 S)) (As := [e_rv B ((-1))]) (rest := [e_rv B (((e_n S : Nat) : Int)), .int (iI (v30)), e_rv B (v26)]) hx hb hml hown hts hp hS hl.size ok38.1 (c11_init l D cA B (nO 11 S) S38 (((e_n S : Nat) : Int)) ((-1)) h38) rfl rfl kd11_init kl9_31 ks11_init rfl ki11 kh11_init ⟨Nat.le_of_ble_eq_true rfl, Nat.le_of_ble_eq_true rfl⟩ rfl (by simp [e_rv_cat, e_int_cat, e_long_cat]) ⟨(by show _ ≤ e_n res - e_n S0; omega), (by show _ ≤ e_s res - e_s S0; omega)⟩ dX9_add_38 rfl (fun H locs hp hS => ?_)
    refine e_cells (c' := e_n S38 - e_n S0) (s' := e_s S38 - e_s S0) (by omega) (by omega) ?_
    obtain ⟨S41, h41, hsh⟩ := Option.bind_eq_some_iff.mp hsh
    refine e_aast (t0 := 5) (r := (RX11, TX11, 6)) hx hb hp hS h41 (by decide) rfl rfl (by decide) (by omega) dX9_add_41 (fun H locs hp hS => ?_)
    have nn := pR_n h41
    refine e_cells (c' := e_n S41 - e_n S0) (s' := e_s S41 - e_s S0) (by omega) (by omega) ?_
    exact w9_add_b42 (hB0 := hB0) E hp hS ⟨by omega, by omega⟩ (hl.sub [0, 1] rfl) hsh
set_option maxRecDepth 100000 in
set_option maxHeartbeats 4000000 in
theorem c9_add (l : Launch) (D : va_G) (cA : Nat → ClassId) (B : Nat) (S S' : HP) (x0 : Int) (x1 : Int) (hsh : s9_add S x0 x1 = some S') : Met l yX9_add (e_wu yX9_add cX9_add 2 none) ({ frames := 2, cells := e_n S' - e_n S, slots := e_s S' - e_s S, locals := 82 } : Room) (va_Pc [e_rv B (x0), e_rv B (x1)] (fun U => e_PU D cA B S U)) (e_Qv D cA B S') (e_n S' - e_n S) (e_s S' - e_s S) (e_A B) := by
  refine Met.ofW (cc := cX9_add) (maxL := 2) (ret := none) (by decide +kernel) rfl ?_
  intro p e s m args below meth c s₁ Bd hml hv
  obtain ⟨rfl, hp⟩ := hv
  have hp : e_Pic D cA B S s s.heap := hp
  have hx := Bd.exec
  have hb := Bd.bytes
  have hrt := Bd.returns
  have hlk := Bd.notSynchronized
  have hown : s.vm.findClass RX9 = some m.cls := findClass_of_methodNamed Bd.named
  have hts : ∀ w ∈ e_tb, w.before ([e_rv B (x0), e_rv B (x1)] : List Value).toArray s = true := fun w h => atoms_spec (ws := (e_wu yX9_add cX9_add 2 none)) Bd.pre w (List.mem_cons_of_mem _ h)
  have E : e_En p s m ([e_rv B (x0), e_rv B (x1)] : List Value).toArray meth c cX9_add RX9 2 none := ⟨hx, hb, hml, hown, hts, hlk, hrt⟩
  have hS : va_S (e_A B) s.heap s.heap [] := va_S.rf
  have hB0 : s.heap.size = B + e_n S := hp.2.2.1
  refine e_cells (c' := e_n S - e_n S) (s' := e_s S - e_s S) (Nat.sub_self _).symm (Nat.sub_self _).symm ?_
  have hl := e_entry (vs := [e_rv B (x0), e_rv B (x1)]) (n := 2) (Nat.le_of_ble_eq_true rfl) (e_cc (e_rv_cat _ _) (e_cc (e_rv_cat _ _) e_cn))
  rw [lg_entry_eq]
  generalize (lg_sl [e_rv B (x0), e_rv B (x1)] ++ List.replicate (2 - (lg_sl [e_rv B (x0), e_rv B (x1)]).length) Slot.unset).toArray = ls at hl ⊢
  generalize ([e_rv B (x0), e_rv B (x1)] : List Value).toArray = args at hts E ⊢
  have hl : e_lo ls 2 [(0, e_rv B (x0)), (1, e_rv B (x1))] := hl
  have hsh := (gd_some hsh).2
  refine e_aload_n (B := B) (x := x0) hx hb dX9_add_0 rfl (hl.at 0 rfl) ?_
  obtain ⟨v1, h1, hsh⟩ := Option.bind_eq_some_iff.mp hsh
  refine e_getI (k := 2) hx hb hts in_X9 hown hp h1 rfl (by decide) (by decide) rfl (hts _ kf9_21) rfl dX9_add_1 ?_
  refine lv_bipush (v := iI (99)) hx hb dX9_add_4 (by decide +kernel) ?_
  refine e_icmp_lt (tgt := 13) hx hb dX9_add_6 (by decide) (fun c6 => ?_) (fun c6 => ?_)
  · rw [if_pos c6] at hsh
    exact w9_add_b13 (hB0 := hB0) E hp hS ⟨by omega, by omega⟩ (hl.sub [0, 1] rfl) hsh
  · rw [if_neg c6] at hsh
    refine e_aload_n (B := B) (x := x0) hx hb dX9_add_9 rfl (hl.at 0 rfl) ?_
    obtain ⟨S10, h10, hsh⟩ := Option.bind_eq_some_iff.mp hsh
    obtain ⟨hsh, cc10, cd10⟩ := snV_some hsh
    have cd10 : e_n S10 ≤ e_n S' ∧ e_s S10 ≤ e_s S' := cd10
    have ok10 := ok9_clear h10
    refine e_callV (nL := 2) (mc := 0) (ms := 0) (T := TX9) (N := 4) (As := []) (rest := []) hx hb hml hown hts hp hS hl.size ok10.1 ok10.2.1 ok10.2.2 rfl (by decide) (c9_clear l D cA B S S10 (x0) h10) rfl rfl kd9_clear (kl9_28) ks9_clear kv9_clear ki9 kh9_clear ⟨Nat.le_of_ble_eq_true rfl, Nat.le_of_ble_eq_true rfl⟩ rfl (by simp [e_rv_cat, e_int_cat, e_long_cat]) ⟨(by show _ ≤ e_n S' - e_n S; omega), (by show _ ≤ e_s S' - e_s S; omega)⟩ dX9_add_10 rfl (fun H locs hp hS => ?_)
    refine e_cells (c' := e_n S10 - e_n S) (s' := e_s S10 - e_s S) (by omega) (by omega) ?_
    exact w9_add_b13 (hB0 := hB0) E hp hS ⟨by omega, by omega⟩ (hl.sub [0, 1] rfl) hsh
