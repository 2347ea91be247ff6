set_option maxRecDepth 100000 in
set_option maxHeartbeats 4000000 in
theorem w14_fill_l5 {p : Program} {l : Launch} {e : Env} {s : State} {m : MethodId} {args : Array Value} {below : List Frame} {meth : Method} {c : Code} {D : va_G} {cA : Nat → ClassId} {B : Nat} {res : HP} (E : e_En p s m args meth c cX14_fill RX14 4 none) : ∀ (f : Nat) {ls : Array Slot} {H : Heap} {locs : List Loc} {S : HP} {x0 : Int} {x1 : Int} {x2 : Int} {x3 : Int} (hp : e_Pic D cA B S s H) (hS : va_S (e_A B) s.heap H locs) (hl : e_lo ls 4 [(0, e_rv B (x0)), (1, .int (iI (x1))), (2, .int (iI (x2))), (3, .int (iI (x3)))]) (hsh : s14_fill_l5 f S x0 x1 x2 x3 = some res), W p l e ({ frames := 0, cells := 0, slots := 0, locals := 0 } : Room) s m args below meth c H locs 0 0 (MQ below (e_Qv D cA B res) args s 0 0 (e_A B)) (F0 m 5 ls []) := by
  obtain ⟨hx, hb, hml, hown, hts, hlk, hrt⟩ := id E
  intro f
  induction f with
  | zero => intro ls H locs S x0 x1 x2 x3 hp hS hl hsh; cases hsh
  | succ f ih =>
    intro ls H locs S x0 x1 x2 x3 hp hS hl hsh
    have hk5 : ∀ {ls : Array Slot} {H : Heap} {locs : List Loc} {S : HP} {x0 : Int} {x1 : Int} {x2 : Int} {x3 : Int} (hp : e_Pic D cA B S s H) (hS : va_S (e_A B) s.heap H locs) (hl : e_lo ls 4 [(0, e_rv B (x0)), (1, .int (iI (x1))), (2, .int (iI (x2))), (3, .int (iI (x3)))]) (hsh : (s14_fill_l5 f) S x0 x1 x2 x3 = some res), W p l e ({ frames := 0, cells := 0, slots := 0, locals := 0 } : Room) s m args below meth c H locs 0 0 (MQ below (e_Qv D cA B res) args s 0 0 (e_A B)) (F0 m 5 ls []) := ih
    generalize hkk : s14_fill_l5 f = k5 at hk5
    rw [s14_fill_l5] at hsh
    rw [hkk] at hsh
    try dsimp only at hsh
    refine lv_iload_n hx hb dX14_fill_5 rfl (hl.at 2 rfl) ?_
    refine lv_iload_n hx hb dX14_fill_6 rfl (hl.at 3 rfl) ?_
    refine e_icmp_ge (tgt := 20) hx hb dX14_fill_7 (by decide) (fun c7 => ?_) (fun c7 => ?_)
    · rw [if_pos c7] at hsh
      cases hsh
      exact e_vret hx hb hrt hlk hp hS dX14_fill_20
    · rw [if_neg c7] at hsh
      refine e_aload_n (B := B) (x := x0) hx hb dX14_fill_10 rfl (hl.at 0 rfl) ?_
      refine lv_iload_n hx hb dX14_fill_11 rfl (hl.at 2 rfl) ?_
      refine lv_iload_n hx hb dX14_fill_12 rfl (hl.at 1 rfl) ?_
      obtain ⟨S13, h13, hsh⟩ := Option.bind_eq_some_iff.mp hsh
      refine e_iast hx hb hp hS h13 dX14_fill_13 (fun H locs hp hS => ?_)
      refine e_iinc (n := 1) (x := x2) (lv' := [(2, .int (iI ((x2 + 1)))), (0, e_rv B (x0)), (1, .int (iI (x1))), (3, .int (iI (x3)))]) hx hb dX14_fill_14 hl (k := 2) rfl (by decide) rfl (fun ls hl => ?_)
      refine lv_goto (tgt := 5) hx hb dX14_fill_17 (by decide) ?_
      exact hk5 hp hS (hl.sub [1, 2, 0, 3] rfl) hsh
set_option maxRecDepth 100000 in
set_option maxHeartbeats 4000000 in
theorem c14_fill (l : Launch) (D : va_G) (cA : Nat → ClassId) (B : Nat) (S S' : HP) (x0 : Int) (x1 : Int) (hsh : s14_fill S x0 x1 = some S') : Met l yX14_fill (e_wu yX14_fill cX14_fill 4 none) ({ frames := 0, cells := 0, slots := 0, locals := 0 } : Room) (va_Pc [e_rv B (x0), .int (iI (x1))] (fun U => e_PU D cA B S U)) (e_Qv D cA B S') 0 0 (e_A B) := by
  refine Met.ofW (cc := cX14_fill) (maxL := 4) (ret := none) (by decide +kernel) rfl ?_
  intro p e s m args below meth c s₁ Bd hml hv
  obtain ⟨rfl, hp⟩ := hv
  have hp : e_Pic D cA B S s s.heap := hp
  have hx := Bd.exec
  have hb := Bd.bytes
  have hrt := Bd.returns
  have hlk := Bd.notSynchronized
  have hown : s.vm.findClass RX14 = some m.cls := findClass_of_methodNamed Bd.named
  have hts : ∀ w ∈ e_tb, w.before ([e_rv B (x0), .int (iI (x1))] : List Value).toArray s = true := fun w h => atoms_spec (ws := (e_wu yX14_fill cX14_fill 4 none)) Bd.pre w (List.mem_cons_of_mem _ h)
  have E : e_En p s m ([e_rv B (x0), .int (iI (x1))] : List Value).toArray meth c cX14_fill RX14 4 none := ⟨hx, hb, hml, hown, hts, hlk, hrt⟩
  have hS : va_S (e_A B) s.heap s.heap [] := va_S.rf
  have hl := e_entry (vs := [e_rv B (x0), .int (iI (x1))]) (n := 4) (Nat.le_of_ble_eq_true rfl) (e_cc (e_rv_cat _ _) (e_cc rfl e_cn))
  rw [lg_entry_eq]
  generalize (lg_sl [e_rv B (x0), .int (iI (x1))] ++ List.replicate (4 - (lg_sl [e_rv B (x0), .int (iI (x1))]).length) Slot.unset).toArray = ls at hl ⊢
  generalize ([e_rv B (x0), .int (iI (x1))] : List Value).toArray = args at hts E ⊢
  have hl : e_lo ls 4 [(0, e_rv B (x0)), (1, .int (iI (x1)))] := hl
  unfold s14_fill at hsh
  refine lv_iconst (v := iI (0)) hx hb dX14_fill_0 rfl ?_
  refine e_istore_n (lv' := [(2, .int (iI (0))), (0, e_rv B (x0)), (1, .int (iI (x1)))]) hx hb dX14_fill_1 rfl hl (by decide) rfl (fun ls hl => ?_)
  refine e_aload_n (B := B) (x := x0) hx hb dX14_fill_2 rfl (hl.at 1 rfl) ?_
  obtain ⟨v3, h3, hsh⟩ := Option.bind_eq_some_iff.mp hsh
  refine e_alen (t := 101) (t0 := 1) hx hb hp h3 (by decide) rfl dX14_fill_3 ?_
  refine e_istore_n (lv' := [(3, .int (iI (v3))), (2, .int (iI (0))), (0, e_rv B (x0)), (1, .int (iI (x1)))]) hx hb dX14_fill_4 rfl hl (by decide) rfl (fun ls hl => ?_)
  exact w14_fill_l5 E 1000000 hp hS (hl.sub [2, 3, 1, 0] rfl) hsh
theorem ok6_init {S : HP} {x0 : Int} {r : HP} (h : s6_init S x0 = some r) : 0 ≤ x0 ∧ x0.toNat < e_n S ∧ e_g S x0.toNat = 6 := (gd_some h).1
set_option maxRecDepth 100000 in
set_option maxHeartbeats 4000000 in
theorem c6_init (l : Launch) (D : va_G) (cA : Nat → ClassId) (B : Nat) (S S' : HP) (x0 : Int) (hsh : s6_init S x0 = some S') : Met l yX6_init (e_wu yX6_init cX6_init 1 none) ({ frames := 1, cells := e_n S' - e_n S, slots := e_s S' - e_s S, locals := 23 } : Room) (va_Pc [e_rv B (x0)] (fun U => e_PU D cA B S U)) (e_Qv D cA B S') (e_n S' - e_n S) (e_s S' - e_s S) (e_A B) := by
  refine Met.ofW (cc := cX6_init) (maxL := 1) (ret := none) (by decide +kernel) rfl ?_
  intro p e s m args below meth c s₁ Bd hml hv
  obtain ⟨rfl, hp⟩ := hv
  have hp : e_Pic D cA B S s s.heap := hp
  have hx := Bd.exec
  have hb := Bd.bytes
  have hrt := Bd.returns
  have hlk := Bd.notSynchronized
  have hown : s.vm.findClass RX6 = some m.cls := findClass_of_methodNamed Bd.named
  have hts : ∀ w ∈ e_tb, w.before ([e_rv B (x0)] : List Value).toArray s = true := fun w h => atoms_spec (ws := (e_wu yX6_init cX6_init 1 none)) Bd.pre w (List.mem_cons_of_mem _ h)
  have E : e_En p s m ([e_rv B (x0)] : List Value).toArray meth c cX6_init RX6 1 none := ⟨hx, hb, hml, hown, hts, hlk, hrt⟩
  have hS : va_S (e_A B) s.heap s.heap [] := va_S.rf
  have hin2 : meth.name = "<init>" := (name_of_methodNamed Bd.named Bd.method).1
  have hB0 : s.heap.size = B + e_n S := hp.2.2.1
  refine e_cells (c' := e_n S - e_n S) (s' := e_s S - e_s S) (Nat.sub_self _).symm (Nat.sub_self _).symm ?_
  have hl := e_entry (vs := [e_rv B (x0)]) (n := 1) (Nat.le_of_ble_eq_true rfl) (e_cc (e_rv_cat _ _) e_cn)
  rw [lg_entry_eq]
  generalize (lg_sl [e_rv B (x0)] ++ List.replicate (1 - (lg_sl [e_rv B (x0)]).length) Slot.unset).toArray = ls at hl ⊢
  generalize ([e_rv B (x0)] : List Value).toArray = args at hts E ⊢
  have hl : e_lo ls 1 [(0, e_rv B (x0))] := hl
  have hok := (gd_some hsh).1
  have hsh := (gd_some hsh).2
  refine e_aload_n (B := B) (x := x0) hx hb dX6_init_0 rfl (hl.at 0 rfl) ?_
  refine e_objInit hx hb hml hown hts kl6_3 kM_oi kM_oc hl.size hok.1 dX6_init_1 (Nat.le_of_ble_eq_true rfl) (Nat.le_of_ble_eq_true rfl) ?_
  refine e_aload_n (B := B) (x := x0) hx hb dX6_init_4 rfl (hl.at 0 rfl) ?_
  refine lv_iconst (v := iI (0)) hx hb dX6_init_5 rfl ?_
  obtain ⟨S6, h6, hsh⟩ := Option.bind_eq_some_iff.mp hsh
  refine e_putI (k := 0) hx hb hts in_X6 tyX6 tyX6_ok nmX6 hown hp hS h6 rfl (by decide) (by decide) rfl (hts _ kf6_9) rfl rfl (by decide +kernel) dX6_init_6 (fun H locs hp hS => ?_)
  have nn := pF_n h6
  refine e_cells (c' := e_n S6 - e_n S) (s' := e_s S6 - e_s S) (by omega) (by omega) ?_
  refine e_aload_n (B := B) (x := x0) hx hb dX6_init_9 rfl (hl.at 0 rfl) ?_
  refine lv_iconst (v := iI (0)) hx hb dX6_init_10 rfl ?_
  obtain ⟨S11, h11, hsh⟩ := Option.bind_eq_some_iff.mp hsh
  refine e_putI (k := 1) hx hb hts in_X6 tyX6 tyX6_ok nmX6 hown hp hS h11 rfl (by decide) (by decide) rfl (hts _ kf6_15) rfl rfl (by decide +kernel) dX6_init_11 (fun H locs hp hS => ?_)
  have nn := pF_n h11
  refine e_cells (c' := e_n S11 - e_n S) (s' := e_s S11 - e_s S) (by omega) (by omega) ?_
  refine e_aload_n (B := B) (x := x0) hx hb dX6_init_14 rfl (hl.at 0 rfl) ?_
  refine lv_iconst (v := iI (0)) hx hb dX6_init_15 rfl ?_
  obtain ⟨S16, h16, hsh⟩ := Option.bind_eq_some_iff.mp hsh
  refine e_putI (k := 2) hx hb hts in_X6 tyX6 tyX6_ok nmX6 hown hp hS h16 rfl (by decide) (by decide) rfl (hts _ kf6_18) rfl rfl (by decide +kernel) dX6_init_16 (fun H locs hp hS => ?_)
  have nn := pF_n h16
  refine e_cells (c' := e_n S16 - e_n S) (s' := e_s S16 - e_s S) (by omega) (by omega) ?_
  refine e_aload_n (B := B) (x := x0) hx hb dX6_init_19 rfl (hl.at 0 rfl) ?_
  refine lv_iconst (v := iI (0)) hx hb dX6_init_20 rfl ?_
  obtain ⟨S21, h21, hsh⟩ := Option.bind_eq_some_iff.mp hsh
  refine e_putI (k := 3) hx hb hts in_X6 tyX6 tyX6_ok nmX6 hown hp hS h21 rfl (by decide) (by decide) rfl (hts _ kf6_21) rfl rfl (by decide +kernel) dX6_init_21 (fun H locs hp hS => ?_)
  have nn := pF_n h21
  refine e_cells (c' := e_n S21 - e_n S) (s' := e_s S21 - e_s S) (by omega) (by omega) ?_
  refine e_aload_n (B := B) (x := x0) hx hb dX6_init_24 rfl (hl.at 0 rfl) ?_
  refine lv_bipush (v := iI (26)) hx hb dX6_init_25 (by decide +kernel) ?_
  obtain ⟨S27, h27, hsh⟩ := Option.bind_eq_some_iff.mp hsh
  obtain ⟨hsh, cc27⟩ := ckV_some hsh
  have cc27 : e_n S27 ≤ e_n S' ∧ e_s S27 ≤ e_s S' := cc27
  have nn := nA_n h27
  refine e_newa (t := 101) (t0 := 1) (atype := .int) (ty := .int) hx hb hts kA_int rfl hp hS h27 (by decide) rfl (fun h => h) (fun _ _ => rfl) (by decide) (by show _ ≤ e_n S' - e_n S; omega) (by show _ ≤ e_s S' - e_s S; omega) dX6_init_27 (fun H hp hS => ?_)
  refine e_cells (c' := e_n S27 - e_n S) (s' := e_s S27 - e_s S) (by omega) (by omega) ?_
  obtain ⟨S29, h29, hsh⟩ := Option.bind_eq_some_iff.mp hsh
  refine e_finR (ty := .array .int) (k := 4) hx hb hts in_X6 tyX6 tyX6_ok nmX6 hown hp hS h29 rfl (by decide) (by decide) rfl (hts _ kf6_24) rfl rfl hin2 rfl (by decide +kernel) (Or.inr ⟨_, rfl⟩) dX6_init_29 (fun H locs hp hS => ?_)
  have nn := pF_n h29
  refine e_cells (c' := e_n S29 - e_n S) (s' := e_s S29 - e_s S) (by omega) (by omega) ?_
  refine e_aload_n (B := B) (x := x0) hx hb dX6_init_32 rfl (hl.at 0 rfl) ?_
  refine lv_bipush (v := iI (10)) hx hb dX6_init_33 (by decide +kernel) ?_
  obtain ⟨S35, h35, hsh⟩ := Option.bind_eq_some_iff.mp hsh
  obtain ⟨hsh, cc35⟩ := ckV_some hsh
  have cc35 : e_n S35 ≤ e_n S' ∧ e_s S35 ≤ e_s S' := cc35
  have nn := nA_n h35
  refine e_newa (t := 101) (t0 := 1) (atype := .int) (ty := .int) hx hb hts kA_int rfl hp hS h35 (by decide) rfl (fun h => h) (fun _ _ => rfl) (by decide) (by show _ ≤ e_n S' - e_n S; omega) (by show _ ≤ e_s S' - e_s S; omega) dX6_init_35 (fun H hp hS => ?_)
  refine e_cells (c' := e_n S35 - e_n S) (s' := e_s S35 - e_s S) (by omega) (by omega) ?_
  obtain ⟨S37, h37, hsh⟩ := Option.bind_eq_some_iff.mp hsh
  refine e_finR (ty := .array .int) (k := 5) hx hb hts in_X6 tyX6 tyX6_ok nmX6 hown hp hS h37 rfl (by decide) (by decide) rfl (hts _ kf6_28) rfl rfl hin2 rfl (by decide +kernel) (Or.inr ⟨_, rfl⟩) dX6_init_37 (fun H locs hp hS => ?_)
  have nn := pF_n h37
  refine e_cells (c' := e_n S37 - e_n S) (s' := e_s S37 - e_s S) (by omega) (by omega) ?_
  refine e_aload_n (B := B) (x := x0) hx hb dX6_init_40 rfl (hl.at 0 rfl) ?_
  refine lv_iconst (v := iI (0)) hx hb dX6_init_41 rfl ?_
  obtain ⟨S42, h42, hsh⟩ := Option.bind_eq_some_iff.mp hsh
  refine e_putI (k := 6) hx hb hts in_X6 tyX6 tyX6_ok nmX6 hown hp hS h42 rfl (by decide) (by decide) rfl (hts _ kf6_31) rfl rfl (by decide +kernel) dX6_init_42 (fun H locs hp hS => ?_)
  have nn := pF_n h42
  refine e_cells (c' := e_n S42 - e_n S) (s' := e_s S42 - e_s S) (by omega) (by omega) ?_
  refine e_aload_n (B := B) (x := x0) hx hb dX6_init_45 rfl (hl.at 0 rfl) ?_
  refine lv_iconst (v := iI (-1)) hx hb dX6_init_46 rfl ?_
  obtain ⟨S47, h47, hsh⟩ := Option.bind_eq_some_iff.mp hsh
  refine e_putI (k := 7) hx hb hts in_X6 tyX6 tyX6_ok nmX6 hown hp hS h47 rfl (by decide) (by decide) rfl (hts _ kf6_34) rfl rfl (by decide +kernel) dX6_init_47 (fun H locs hp hS => ?_)
  have nn := pF_n h47
  refine e_cells (c' := e_n S47 - e_n S) (s' := e_s S47 - e_s S) (by omega) (by omega) ?_
  refine e_aload_n (B := B) (x := x0) hx hb dX6_init_50 rfl (hl.at 0 rfl) ?_
  refine lv_bipush (v := iI (9)) hx hb dX6_init_51 (by decide +kernel) ?_
  obtain ⟨S53, h53, hsh⟩ := Option.bind_eq_some_iff.mp hsh
  obtain ⟨hsh, cc53⟩ := ckV_some hsh
  have cc53 : e_n S53 ≤ e_n S' ∧ e_s S53 ≤ e_s S' := cc53
  have nn := nA_n h53
  refine e_newa (t := 101) (t0 := 1) (atype := .int) (ty := .int) hx hb hts kA_int rfl hp hS h53 (by decide) rfl (fun h => h) (fun _ _ => rfl) (by decide) (by show _ ≤ e_n S' - e_n S; omega) (by show _ ≤ e_s S' - e_s S; omega) dX6_init_53 (fun H hp hS => ?_)
  refine e_cells (c' := e_n S53 - e_n S) (s' := e_s S53 - e_s S) (by omega) (by omega) ?_
  obtain ⟨S55, h55, hsh⟩ := Option.bind_eq_some_iff.mp hsh
  refine e_finR (ty := .array .int) (k := 8) hx hb hts in_X6 tyX6 tyX6_ok nmX6 hown hp hS h55 rfl (by decide) (by decide) rfl (hts _ kf6_37) rfl rfl hin2 rfl (by decide +kernel) (Or.inr ⟨_, rfl⟩) dX6_init_55 (fun H locs hp hS => ?_)
  have nn := pF_n h55
  refine e_cells (c' := e_n S55 - e_n S) (s' := e_s S55 - e_s S) (by omega) (by omega) ?_
  refine e_aload_n (B := B) (x := x0) hx hb dX6_init_58 rfl (hl.at 0 rfl) ?_
  refine lv_iconst (v := iI (0)) hx hb dX6_init_59 rfl ?_
  obtain ⟨S60, h60, hsh⟩ := Option.bind_eq_some_iff.mp hsh
  refine e_putI (k := 9) hx hb hts in_X6 tyX6 tyX6_ok nmX6 hown hp hS h60 rfl (by decide) (by decide) rfl (hts _ kf6_40) rfl rfl (by decide +kernel) dX6_init_60 (fun H locs hp hS => ?_)
  have nn := pF_n h60
  refine e_cells (c' := e_n S60 - e_n S) (s' := e_s S60 - e_s S) (by omega) (by omega) ?_
  refine e_aload_n (B := B) (x := x0) hx hb dX6_init_63 rfl (hl.at 0 rfl) ?_
  refine lv_iconst (v := iI (-1)) hx hb dX6_init_64 rfl ?_
  obtain ⟨S65, h65, hsh⟩ := Option.bind_eq_some_iff.mp hsh
  refine e_putI (k := 10) hx hb hts in_X6 tyX6 tyX6_ok nmX6 hown hp hS h65 rfl (by decide) (by decide) rfl (hts _ kf6_43) rfl rfl (by decide +kernel) dX6_init_65 (fun H locs hp hS => ?_)
  have nn := pF_n h65
  refine e_cells (c' := e_n S65 - e_n S) (s' := e_s S65 - e_s S) (by omega) (by omega) ?_
  refine e_aload_n (B := B) (x := x0) hx hb dX6_init_68 rfl (hl.at 0 rfl) ?_
  refine lv_iconst (v := iI (0)) hx hb dX6_init_69 rfl ?_
  obtain ⟨S70, h70, hsh⟩ := Option.bind_eq_some_iff.mp hsh
  refine e_putI (k := 11) hx hb hts in_X6 tyX6 tyX6_ok nmX6 hown hp hS h70 rfl (by decide) (by decide) rfl (hts _ kf6_46) rfl rfl (by decide +kernel) dX6_init_70 (fun H locs hp hS => ?_)
  have nn := pF_n h70
  refine e_cells (c' := e_n S70 - e_n S) (s' := e_s S70 - e_s S) (by omega) (by omega) ?_
  refine e_aload_n (B := B) (x := x0) hx hb dX6_init_73 rfl (hl.at 0 rfl) ?_
  refine lv_sipush (v := iI (700)) hx hb dX6_init_74 (by decide +kernel) ?_
  obtain ⟨S77, h77, hsh⟩ := Option.bind_eq_some_iff.mp hsh
  obtain ⟨hsh, cc77⟩ := ckV_some hsh
  have cc77 : e_n S77 ≤ e_n S' ∧ e_s S77 ≤ e_s S' := cc77
  have nn := nA_n h77
  refine e_newa (t := 101) (t0 := 1) (atype := .int) (ty := .int) hx hb hts kA_int rfl hp hS h77 (by decide) rfl (fun h => h) (fun _ _ => rfl) (by decide) (by show _ ≤ e_n S' - e_n S; omega) (by show _ ≤ e_s S' - e_s S; omega) dX6_init_77 (fun H hp hS => ?_)
  refine e_cells (c' := e_n S77 - e_n S) (s' := e_s S77 - e_s S) (by omega) (by omega) ?_
  obtain ⟨S79, h79, hsh⟩ := Option.bind_eq_some_iff.mp hsh
  refine e_finR (ty := .array .int) (k := 12) hx hb hts in_X6 tyX6 tyX6_ok nmX6 hown hp hS h79 rfl (by decide) (by decide) rfl (hts _ kf6_49) rfl rfl hin2 rfl (by decide +kernel) (Or.inr ⟨_, rfl⟩) dX6_init_79 (fun H locs hp hS => ?_)
  have nn := pF_n h79
  refine e_cells (c' := e_n S79 - e_n S) (s' := e_s S79 - e_s S) (by omega) (by omega) ?_
  refine e_aload_n (B := B) (x := x0) hx hb dX6_init_82 rfl (hl.at 0 rfl) ?_
  refine lv_sipush (v := iI (700)) hx hb dX6_init_83 (by decide +kernel) ?_
  obtain ⟨S86, h86, hsh⟩ := Option.bind_eq_some_iff.mp hsh
  obtain ⟨hsh, cc86⟩ := ckV_some hsh
  have cc86 : e_n S86 ≤ e_n S' ∧ e_s S86 ≤ e_s S' := cc86
  have nn := nA_n h86
  refine e_newa (t := 101) (t0 := 1) (atype := .int) (ty := .int) hx hb hts kA_int rfl hp hS h86 (by decide) rfl (fun h => h) (fun _ _ => rfl) (by decide) (by show _ ≤ e_n S' - e_n S; omega) (by show _ ≤ e_s S' - e_s S; omega) dX6_init_86 (fun H hp hS => ?_)
  refine e_cells (c' := e_n S86 - e_n S) (s' := e_s S86 - e_s S) (by omega) (by omega) ?_
  obtain ⟨S88, h88, hsh⟩ := Option.bind_eq_some_iff.mp hsh
  refine e_finR (ty := .array .int) (k := 13) hx hb hts in_X6 tyX6 tyX6_ok nmX6 hown hp hS h88 rfl (by decide) (by decide) rfl (hts _ kf6_52) rfl rfl hin2 rfl (by decide +kernel) (Or.inr ⟨_, rfl⟩) dX6_init_88 (fun H locs hp hS => ?_)
  have nn := pF_n h88
  refine e_cells (c' := e_n S88 - e_n S) (s' := e_s S88 - e_s S) (by omega) (by omega) ?_
  refine e_aload_n (B := B) (x := x0) hx hb dX6_init_91 rfl (hl.at 0 rfl) ?_
  refine lv_sipush (v := iI (700)) hx hb dX6_init_92 (by decide +kernel) ?_
  obtain ⟨S95, h95, hsh⟩ := Option.bind_eq_some_iff.mp hsh
  obtain ⟨hsh, cc95⟩ := ckV_some hsh
  have cc95 : e_n S95 ≤ e_n S' ∧ e_s S95 ≤ e_s S' := cc95
  have nn := nA_n h95
  refine e_newa (t := 103) (t0 := 3) (atype := .boolean) (ty := .boolean) hx hb hts kA_boolean rfl hp hS h95 (by decide) rfl (fun h => h) (fun _ _ => rfl) (by decide) (by show _ ≤ e_n S' - e_n S; omega) (by show _ ≤ e_s S' - e_s S; omega) dX6_init_95 (fun H hp hS => ?_)
  refine e_cells (c' := e_n S95 - e_n S) (s' := e_s S95 - e_s S) (by omega) (by omega) ?_
  obtain ⟨S97, h97, hsh⟩ := Option.bind_eq_some_iff.mp hsh
  refine e_finR (ty := .array .boolean) (k := 14) hx hb hts in_X6 tyX6 tyX6_ok nmX6 hown hp hS h97 rfl (by decide) (by decide) rfl (hts _ kf6_55) rfl rfl hin2 rfl (by decide +kernel) (Or.inr ⟨_, rfl⟩) dX6_init_97 (fun H locs hp hS => ?_)
  have nn := pF_n h97
  refine e_cells (c' := e_n S97 - e_n S) (s' := e_s S97 - e_s S) (by omega) (by omega) ?_
  refine e_aload_n (B := B) (x := x0) hx hb dX6_init_100 rfl (hl.at 0 rfl) ?_
  refine lv_iconst (v := iI (0)) hx hb dX6_init_101 rfl ?_
  obtain ⟨S102, h102, hsh⟩ := Option.bind_eq_some_iff.mp hsh
  refine e_putI (k := 15) hx hb hts in_X6 tyX6 tyX6_ok nmX6 hown hp hS h102 rfl (by decide) (by decide) rfl (hts _ kf6_59) rfl rfl (by decide +kernel) dX6_init_102 (fun H locs hp hS => ?_)
  have nn := pF_n h102
  refine e_cells (c' := e_n S102 - e_n S) (s' := e_s S102 - e_s S) (by omega) (by omega) ?_
  refine e_aload_n (B := B) (x := x0) hx hb dX6_init_105 rfl (hl.at 0 rfl) ?_
  obtain ⟨v106, h106, hsh⟩ := Option.bind_eq_some_iff.mp hsh
  refine e_getR (k := 4) hx hb hts in_X6 hown hp h106 rfl (by decide) (by decide) rfl (hts _ kf6_24) rfl dX6_init_106 ?_
  refine lv_iconst (v := iI (-1)) hx hb dX6_init_109 rfl ?_
  obtain ⟨S110, h110, hsh⟩ := Option.bind_eq_some_iff.mp hsh
  obtain ⟨hsh, cc110, cd110⟩ := snV_some hsh
  have cd110 : e_n S110 ≤ e_n S' ∧ e_s S110 ≤ e_s S' := cd110
  refine e_callSV (nL := 1) (mc := 0) (ms := 0) (As := [e_rv B (v106), .int (iI ((-1)))]) (rest := []) hx hb hml hown hts hp hS hl.size (c14_fill l D cA B S102 S110 (v106) ((-1)) h110) rfl rfl kd14_fill (kl6_62) ks14_fill ki14 kh14_fill ⟨Nat.le_of_ble_eq_true rfl, Nat.le_of_ble_eq_true rfl⟩ rfl (by simp [e_rv_cat, e_int_cat, e_long_cat]) ⟨(by show _ ≤ e_n S' - e_n S; omega), (by show _ ≤ e_s S' - e_s S; omega)⟩ dX6_init_110 rfl (fun H locs hp hS => ?_)
  refine e_cells (c' := e_n S110 - e_n S) (s' := e_s S110 - e_s S) (by omega) (by omega) ?_
  cases hsh
  exact e_vret hx hb hrt hlk hp hS dX6_init_113
theorem ok6_clear {S : HP} {x0 : Int} {r : HP} (h : s6_clear S x0 = some r) : 0 ≤ x0 ∧ x0.toNat < e_n S ∧ e_g S x0.toNat = 6 := (gd_some h).1
set_option maxRecDepth 100000 in
set_option maxHeartbeats 4000000 in
theorem c6_clear (l : Launch) (D : va_G) (cA : Nat → ClassId) (B : Nat) (S S' : HP) (x0 : Int) (hsh : s6_clear S x0 = some S') : Met l yX6_clear (e_wu yX6_clear cX6_clear 1 none) ({ frames := 1, cells := 0, slots := 0, locals := 23 } : Room) (va_Pc [e_rv B (x0)] (fun U => e_PU D cA B S U)) (e_Qv D cA B S') 0 0 (e_A B) := by
  refine Met.ofW (cc := cX6_clear) (maxL := 1) (ret := none) (by decide +kernel) rfl ?_
  intro p e s m args below meth c s₁ Bd hml hv
  obtain ⟨rfl, hp⟩ := hv
  have hp : e_Pic D cA B S s s.heap := hp
  have hx := Bd.exec
  have hb := Bd.bytes
  have hrt := Bd.returns
  have hlk := Bd.notSynchronized
  have hown : s.vm.findClass RX6 = some m.cls := findClass_of_methodNamed Bd.named
  have hts : ∀ w ∈ e_tb, w.before ([e_rv B (x0)] : List Value).toArray s = true := fun w h => atoms_spec (ws := (e_wu yX6_clear cX6_clear 1 none)) Bd.pre w (List.mem_cons_of_mem _ h)
  have E : e_En p s m ([e_rv B (x0)] : List Value).toArray meth c cX6_clear RX6 1 none := ⟨hx, hb, hml, hown, hts, hlk, hrt⟩
  have hS : va_S (e_A B) s.heap s.heap [] := va_S.rf
  have hl := e_entry (vs := [e_rv B (x0)]) (n := 1) (Nat.le_of_ble_eq_true rfl) (e_cc (e_rv_cat _ _) e_cn)
  rw [lg_entry_eq]
  generalize (lg_sl [e_rv B (x0)] ++ List.replicate (1 - (lg_sl [e_rv B (x0)]).length) Slot.unset).toArray = ls at hl ⊢
  generalize ([e_rv B (x0)] : List Value).toArray = args at hts E ⊢
  have hl : e_lo ls 1 [(0, e_rv B (x0))] := hl
  have hsh := (gd_some hsh).2
  refine e_aload_n (B := B) (x := x0) hx hb dX6_clear_0 rfl (hl.at 0 rfl) ?_
  refine lv_iconst (v := iI (0)) hx hb dX6_clear_1 rfl ?_
  obtain ⟨S2, h2, hsh⟩ := Option.bind_eq_some_iff.mp hsh
  refine e_putI (k := 0) hx hb hts in_X6 tyX6 tyX6_ok nmX6 hown hp hS h2 rfl (by decide) (by decide) rfl (hts _ kf6_9) rfl rfl (by decide +kernel) dX6_clear_2 (fun H locs hp hS => ?_)
  refine e_aload_n (B := B) (x := x0) hx hb dX6_clear_5 rfl (hl.at 0 rfl) ?_
  refine lv_iconst (v := iI (0)) hx hb dX6_clear_6 rfl ?_
  obtain ⟨S7, h7, hsh⟩ := Option.bind_eq_some_iff.mp hsh
  refine e_putI (k := 1) hx hb hts in_X6 tyX6 tyX6_ok nmX6 hown hp hS h7 rfl (by decide) (by decide) rfl (hts _ kf6_15) rfl rfl (by decide +kernel) dX6_clear_7 (fun H locs hp hS => ?_)
  refine e_aload_n (B := B) (x := x0) hx hb dX6_clear_10 rfl (hl.at 0 rfl) ?_
  refine lv_iconst (v := iI (0)) hx hb dX6_clear_11 rfl ?_
  obtain ⟨S12, h12, hsh⟩ := Option.bind_eq_some_iff.mp hsh
  refine e_putI (k := 2) hx hb hts in_X6 tyX6 tyX6_ok nmX6 hown hp hS h12 rfl (by decide) (by decide) rfl (hts _ kf6_18) rfl rfl (by decide +kernel) dX6_clear_12 (fun H locs hp hS => ?_)
  refine e_aload_n (B := B) (x := x0) hx hb dX6_clear_15 rfl (hl.at 0 rfl) ?_
  obtain ⟨v16, h16, hsh⟩ := Option.bind_eq_some_iff.mp hsh
  refine e_getR (k := 4) hx hb hts in_X6 hown hp h16 rfl (by decide) (by decide) rfl (hts _ kf6_24) rfl dX6_clear_16 ?_
  refine lv_iconst (v := iI (-1)) hx hb dX6_clear_19 rfl ?_
  obtain ⟨S20, h20, hsh⟩ := Option.bind_eq_some_iff.mp hsh
  refine e_callSV (nL := 1) (mc := 0) (ms := 0) (As := [e_rv B (v16), .int (iI ((-1)))]) (rest := []) hx hb hml hown hts hp hS hl.size (c14_fill l D cA B S12 S20 (v16) ((-1)) h20) rfl rfl kd14_fill (kl6_62) ks14_fill ki14 kh14_fill ⟨Nat.le_of_ble_eq_true rfl, Nat.le_of_ble_eq_true rfl⟩ rfl (by simp [e_rv_cat, e_int_cat, e_long_cat]) ⟨Nat.le_refl _, Nat.le_refl _⟩ dX6_clear_20 rfl (fun H locs hp hS => ?_)
  refine e_aload_n (B := B) (x := x0) hx hb dX6_clear_23 rfl (hl.at 0 rfl) ?_
  refine lv_iconst (v := iI (0)) hx hb dX6_clear_24 rfl ?_
  obtain ⟨S25, h25, hsh⟩ := Option.bind_eq_some_iff.mp hsh
  refine e_putI (k := 6) hx hb hts in_X6 tyX6 tyX6_ok nmX6 hown hp hS h25 rfl (by decide) (by decide) rfl (hts _ kf6_31) rfl rfl (by decide +kernel) dX6_clear_25 (fun H locs hp hS => ?_)
  refine e_aload_n (B := B) (x := x0) hx hb dX6_clear_28 rfl (hl.at 0 rfl) ?_
  refine lv_iconst (v := iI (-1)) hx hb dX6_clear_29 rfl ?_
  obtain ⟨S30, h30, hsh⟩ := Option.bind_eq_some_iff.mp hsh
  refine e_putI (k := 7) hx hb hts in_X6 tyX6 tyX6_ok nmX6 hown hp hS h30 rfl (by decide) (by decide) rfl (hts _ kf6_34) rfl rfl (by decide +kernel) dX6_clear_30 (fun H locs hp hS => ?_)
  refine e_aload_n (B := B) (x := x0) hx hb dX6_clear_33 rfl (hl.at 0 rfl) ?_
  refine lv_iconst (v := iI (0)) hx hb dX6_clear_34 rfl ?_
  obtain ⟨S35, h35, hsh⟩ := Option.bind_eq_some_iff.mp hsh
  refine e_putI (k := 9) hx hb hts in_X6 tyX6 tyX6_ok nmX6 hown hp hS h35 rfl (by decide) (by decide) rfl (hts _ kf6_40) rfl rfl (by decide +kernel) dX6_clear_35 (fun H locs hp hS => ?_)
  refine e_aload_n (B := B) (x := x0) hx hb dX6_clear_38 rfl (hl.at 0 rfl) ?_
  refine lv_iconst (v := iI (-1)) hx hb dX6_clear_39 rfl ?_
  obtain ⟨S40, h40, hsh⟩ := Option.bind_eq_some_iff.mp hsh
  refine e_putI (k := 10) hx hb hts in_X6 tyX6 tyX6_ok nmX6 hown hp hS h40 rfl (by decide) (by decide) rfl (hts _ kf6_43) rfl rfl (by decide +kernel) dX6_clear_40 (fun H locs hp hS => ?_)
  refine e_aload_n (B := B) (x := x0) hx hb dX6_clear_43 rfl (hl.at 0 rfl) ?_
  refine lv_iconst (v := iI (0)) hx hb dX6_clear_44 rfl ?_
  obtain ⟨S45, h45, hsh⟩ := Option.bind_eq_some_iff.mp hsh
  refine e_putI (k := 15) hx hb hts in_X6 tyX6 tyX6_ok nmX6 hown hp hS h45 rfl (by decide) (by decide) rfl (hts _ kf6_59) rfl rfl (by decide +kernel) dX6_clear_45 (fun H locs hp hS => ?_)
  cases hsh
  exact e_vret hx hb hrt hlk hp hS dX6_clear_48
