theorem ok0_canBeDoneOnceMore {S : HP} {x0 : Int} {r : Int × HP} (h : s0_canBeDoneOnceMore S x0 = some r) : 0 ≤ x0 ∧ x0.toNat < e_n S ∧ e_g S x0.toNat = 0 := (gd_some h).1
set_option maxRecDepth 100000 in
set_option maxHeartbeats 4000000 in
theorem w0_canBeDoneOnceMore_b59 {p : Program} {l : Launch} {e : Env} {s : State} {m : MethodId} {args : Array Value} {below : List Frame} {meth : Method} {c : Code} {D : va_G} {cA : Nat → ClassId} {B : Nat} {res : Int × HP} (E : e_En p s m args meth c cX0_canBeDoneOnceMore RX0 1 (some .boolean)) {ls : Array Slot} {H : Heap} {locs : List Loc} {S : HP} {y0 : Int} (hp : e_Pic D cA B S s H) (hS : va_S (e_A B) s.heap H locs) (hl : e_lo ls 1 []) (hsh : s0_canBeDoneOnceMore_b59 S y0 = some res) : W p l e ({ frames := 0, cells := 0, slots := 0, locals := 0 } : Room) s m args below meth c H locs 0 0 (MQ below (e_Qi D cA B res.1 res.2) args s 0 0 (e_A B)) (F0 m 59 ls [.int (iI (y0))]) := by
  obtain ⟨hx, hb, hml, hown, hts, hlk, hrt⟩ := id E
  unfold s0_canBeDoneOnceMore_b59 at hsh
  obtain ⟨hz, hz1, hz2⟩ := zR_some hsh
  rw [← hz1, ← hz2]
  exact e_zret hx hb hrt hlk hp hS hz dX0_canBeDoneOnceMore_59
set_option maxRecDepth 100000 in
set_option maxHeartbeats 4000000 in
theorem w0_canBeDoneOnceMore_b58 {p : Program} {l : Launch} {e : Env} {s : State} {m : MethodId} {args : Array Value} {below : List Frame} {meth : Method} {c : Code} {D : va_G} {cA : Nat → ClassId} {B : Nat} {res : Int × HP} (E : e_En p s m args meth c cX0_canBeDoneOnceMore RX0 1 (some .boolean)) {ls : Array Slot} {H : Heap} {locs : List Loc} {S : HP} (hp : e_Pic D cA B S s H) (hS : va_S (e_A B) s.heap H locs) (hl : e_lo ls 1 []) (hsh : s0_canBeDoneOnceMore_b58 S  = some res) : W p l e ({ frames := 0, cells := 0, slots := 0, locals := 0 } : Room) s m args below meth c H locs 0 0 (MQ below (e_Qi D cA B res.1 res.2) args s 0 0 (e_A B)) (F0 m 58 ls []) := by
  obtain ⟨hx, hb, hml, hown, hts, hlk, hrt⟩ := id E
  unfold s0_canBeDoneOnceMore_b58 at hsh
  refine lv_iconst (v := iI (0)) hx hb dX0_canBeDoneOnceMore_58 rfl ?_
  exact w0_canBeDoneOnceMore_b59 E hp hS (hl.sub [] rfl) hsh
set_option maxRecDepth 100000 in
set_option maxHeartbeats 4000000 in
theorem c0_canBeDoneOnceMore (l : Launch) (D : va_G) (cA : Nat → ClassId) (B : Nat) (S S' : HP) (x0 : Int) (r : Int) (hsh : s0_canBeDoneOnceMore S x0 = some (r, S')) : Met l yX0_canBeDoneOnceMore (e_wu yX0_canBeDoneOnceMore cX0_canBeDoneOnceMore 1 (some .boolean)) ({ frames := 0, cells := 0, slots := 0, locals := 0 } : Room) (va_Pc [e_rv B (x0)] (fun U => e_PU D cA B S U)) (e_Qi D cA B r S') 0 0 (e_A B) := by
  refine Met.ofW (cc := cX0_canBeDoneOnceMore) (maxL := 1) (ret := (some .boolean)) (by decide +kernel) rfl ?_
  intro p e s m args below meth c s₁ Bd hml hv
  obtain ⟨rfl, hp⟩ := hv
  have hp : e_Pic D cA B S s s.heap := hp
  have hx := Bd.exec
  have hb := Bd.bytes
  have hrt := Bd.returns
  have hlk := Bd.notSynchronized
  have hown : s.vm.findClass RX0 = some m.cls := findClass_of_methodNamed Bd.named
  have hts : ∀ w ∈ e_tb, w.before ([e_rv B (x0)] : List Value).toArray s = true := fun w h => atoms_spec (ws := (e_wu yX0_canBeDoneOnceMore cX0_canBeDoneOnceMore 1 (some .boolean))) Bd.pre w (List.mem_cons_of_mem _ h)
  have E : e_En p s m ([e_rv B (x0)] : List Value).toArray meth c cX0_canBeDoneOnceMore RX0 1 (some .boolean) := ⟨hx, hb, hml, hown, hts, hlk, hrt⟩
  have hS : va_S (e_A B) s.heap s.heap [] := va_S.rf
  have hl := e_entry (vs := [e_rv B (x0)]) (n := 1) (Nat.le_of_ble_eq_true rfl) (e_cc (e_rv_cat _ _) e_cn)
  rw [lg_entry_eq]
  generalize (lg_sl [e_rv B (x0)] ++ List.replicate (1 - (lg_sl [e_rv B (x0)]).length) Slot.unset).toArray = ls at hl ⊢
  generalize ([e_rv B (x0)] : List Value).toArray = args at hts E ⊢
  have hl : e_lo ls 1 [(0, e_rv B (x0))] := hl
  have hsh := (gd_some hsh).2
  refine e_aload_n (B := B) (x := x0) hx hb dX0_canBeDoneOnceMore_0 rfl (hl.at 0 rfl) ?_
  obtain ⟨v1, h1, hsh⟩ := Option.bind_eq_some_iff.mp hsh
  refine e_getI (k := 16) hx hb hts in_X0 hown hp h1 rfl (by decide) (by decide) rfl (hts _ kf0_71) rfl dX0_canBeDoneOnceMore_1 ?_
  refine e_if_ne (tgt := 58) hx hb dX0_canBeDoneOnceMore_4 (by decide) (fun c4 => ?_) (fun c4 => ?_)
  · rw [if_neg c4] at hsh
    exact w0_canBeDoneOnceMore_b58 E hp hS (hl.sub [] rfl) hsh
  · rw [if_pos c4] at hsh
    refine e_aload_n (B := B) (x := x0) hx hb dX0_canBeDoneOnceMore_7 rfl (hl.at 0 rfl) ?_
    obtain ⟨v8, h8, hsh⟩ := Option.bind_eq_some_iff.mp hsh
    refine e_getI (k := 12) hx hb hts in_X0 hown hp h8 rfl (by decide) (by decide) rfl (hts _ kf0_54) rfl dX0_canBeDoneOnceMore_8 ?_
    refine lv_bipush (v := iI (117)) hx hb dX0_canBeDoneOnceMore_11 (by decide +kernel) ?_
    refine e_icmp_eq (tgt := 58) hx hb dX0_canBeDoneOnceMore_13 (by decide) (fun c13 => ?_) (fun c13 => ?_)
    · rw [if_pos c13] at hsh
      exact w0_canBeDoneOnceMore_b58 E hp hS (hl.sub [] rfl) hsh
    · rw [if_neg c13] at hsh
      refine e_aload_n (B := B) (x := x0) hx hb dX0_canBeDoneOnceMore_16 rfl (hl.at 0 rfl) ?_
      obtain ⟨v17, h17, hsh⟩ := Option.bind_eq_some_iff.mp hsh
      refine e_getI (k := 12) hx hb hts in_X0 hown hp h17 rfl (by decide) (by decide) rfl (hts _ kf0_54) rfl dX0_canBeDoneOnceMore_17 ?_
      refine lv_bipush (v := iI (18)) hx hb dX0_canBeDoneOnceMore_20 (by decide +kernel) ?_
      refine e_icmp_eq (tgt := 58) hx hb dX0_canBeDoneOnceMore_22 (by decide) (fun c22 => ?_) (fun c22 => ?_)
      · rw [if_pos c22] at hsh
        exact w0_canBeDoneOnceMore_b58 E hp hS (hl.sub [] rfl) hsh
      · rw [if_neg c22] at hsh
        refine e_aload_n (B := B) (x := x0) hx hb dX0_canBeDoneOnceMore_25 rfl (hl.at 0 rfl) ?_
        obtain ⟨v26, h26, hsh⟩ := Option.bind_eq_some_iff.mp hsh
        refine e_getI (k := 12) hx hb hts in_X0 hown hp h26 rfl (by decide) (by decide) rfl (hts _ kf0_54) rfl dX0_canBeDoneOnceMore_26 ?_
        refine lv_sipush (v := iI (26413)) hx hb dX0_canBeDoneOnceMore_29 (by decide +kernel) ?_
        refine e_icmp_eq (tgt := 58) hx hb dX0_canBeDoneOnceMore_32 (by decide) (fun c32 => ?_) (fun c32 => ?_)
        · rw [if_pos c32] at hsh
          exact w0_canBeDoneOnceMore_b58 E hp hS (hl.sub [] rfl) hsh
        · rw [if_neg c32] at hsh
          refine e_aload_n (B := B) (x := x0) hx hb dX0_canBeDoneOnceMore_35 rfl (hl.at 0 rfl) ?_
          obtain ⟨v36, h36, hsh⟩ := Option.bind_eq_some_iff.mp hsh
          refine e_getI (k := 12) hx hb hts in_X0 hown hp h36 rfl (by decide) (by decide) rfl (hts _ kf0_54) rfl dX0_canBeDoneOnceMore_36 ?_
          refine lv_sipush (v := iI (26411)) hx hb dX0_canBeDoneOnceMore_39 (by decide +kernel) ?_
          refine e_icmp_eq (tgt := 58) hx hb dX0_canBeDoneOnceMore_42 (by decide) (fun c42 => ?_) (fun c42 => ?_)
          · rw [if_pos c42] at hsh
            exact w0_canBeDoneOnceMore_b58 E hp hS (hl.sub [] rfl) hsh
          · rw [if_neg c42] at hsh
            refine e_aload_n (B := B) (x := x0) hx hb dX0_canBeDoneOnceMore_45 rfl (hl.at 0 rfl) ?_
            obtain ⟨v46, h46, hsh⟩ := Option.bind_eq_some_iff.mp hsh
            refine e_getI (k := 12) hx hb hts in_X0 hown hp h46 rfl (by decide) (by decide) rfl (hts _ kf0_54) rfl dX0_canBeDoneOnceMore_46 ?_
            refine lv_bipush (v := iI (46)) hx hb dX0_canBeDoneOnceMore_49 (by decide +kernel) ?_
            refine e_icmp_eq (tgt := 58) hx hb dX0_canBeDoneOnceMore_51 (by decide) (fun c51 => ?_) (fun c51 => ?_)
            · rw [if_pos c51] at hsh
              exact w0_canBeDoneOnceMore_b58 E hp hS (hl.sub [] rfl) hsh
            · rw [if_neg c51] at hsh
              refine lv_iconst (v := iI (1)) hx hb dX0_canBeDoneOnceMore_54 rfl ?_
              refine lv_goto (tgt := 59) hx hb dX0_canBeDoneOnceMore_55 (by decide) ?_
              exact w0_canBeDoneOnceMore_b59 E hp hS (hl.sub [] rfl) hsh
theorem ok6_closedOver {S : HP} {x0 : Int} {x1 : Int} {r : Int × HP} (h : s6_closedOver S x0 x1 = some r) : 0 ≤ x0 ∧ x0.toNat < e_n S ∧ e_g S x0.toNat = 6 := (gd_some h).1
set_option maxRecDepth 100000 in
set_option maxHeartbeats 4000000 in
theorem w6_closedOver_b77 {p : Program} {l : Launch} {e : Env} {s : State} {m : MethodId} {args : Array Value} {below : List Frame} {meth : Method} {c : Code} {D : va_G} {cA : Nat → ClassId} {B : Nat} {res : Int × HP} {k4 : HP → Int → Int → Int → Int → Option (Int × HP)} (hk4 : ∀ {ls : Array Slot} {H : Heap} {locs : List Loc} {S : HP} {x0 : Int} {x1 : Int} {x2 : Int} {x3 : Int} (hp : e_Pic D cA B S s H) (hS : va_S (e_A B) s.heap H locs) (hl : e_lo ls 4 [(0, e_rv B (x0)), (1, .int (iI (x1))), (2, .int (iI (x2))), (3, .int (iI (x3)))]) (hsh : k4 S x0 x1 x2 x3 = some res), W p l e ({ frames := 0, cells := 0, slots := 0, locals := 0 } : Room) s m args below meth c H locs 0 0 (MQ below (e_Qi D cA B res.1 res.2) args s 0 0 (e_A B)) (F0 m 4 ls [])) (E : e_En p s m args meth c cX6_closedOver RX6 4 (some .int)) {ls : Array Slot} {H : Heap} {locs : List Loc} {S : HP} {x0 : Int} {x1 : Int} {x2 : Int} {x3 : Int} (hp : e_Pic D cA B S s H) (hS : va_S (e_A B) s.heap H locs) (hl : e_lo ls 4 [(0, e_rv B (x0)), (1, .int (iI (x1))), (2, .int (iI (x2))), (3, .int (iI (x3)))]) (hsh : s6_closedOver_b77 k4 S x0 x1 x2 x3 = some res) : W p l e ({ frames := 0, cells := 0, slots := 0, locals := 0 } : Room) s m args below meth c H locs 0 0 (MQ below (e_Qi D cA B res.1 res.2) args s 0 0 (e_A B)) (F0 m 77 ls []) := by
  obtain ⟨hx, hb, hml, hown, hts, hlk, hrt⟩ := id E
  unfold s6_closedOver_b77 at hsh
  refine e_iinc (n := 1) (x := x3) (lv' := [(3, .int (iI ((x3 + 1)))), (0, e_rv B (x0)), (1, .int (iI (x1))), (2, .int (iI (x2)))]) hx hb dX6_closedOver_77 hl (k := 3) rfl (by decide) rfl (fun ls hl => ?_)
  refine lv_goto (tgt := 4) hx hb dX6_closedOver_80 (by decide) ?_
  exact hk4 hp hS (hl.sub [1, 2, 3, 0] rfl) hsh
set_option maxRecDepth 100000 in
set_option maxHeartbeats 4000000 in
theorem w6_closedOver_b75 {p : Program} {l : Launch} {e : Env} {s : State} {m : MethodId} {args : Array Value} {below : List Frame} {meth : Method} {c : Code} {D : va_G} {cA : Nat → ClassId} {B : Nat} {res : Int × HP} {k4 : HP → Int → Int → Int → Int → Option (Int × HP)} (hk4 : ∀ {ls : Array Slot} {H : Heap} {locs : List Loc} {S : HP} {x0 : Int} {x1 : Int} {x2 : Int} {x3 : Int} (hp : e_Pic D cA B S s H) (hS : va_S (e_A B) s.heap H locs) (hl : e_lo ls 4 [(0, e_rv B (x0)), (1, .int (iI (x1))), (2, .int (iI (x2))), (3, .int (iI (x3)))]) (hsh : k4 S x0 x1 x2 x3 = some res), W p l e ({ frames := 0, cells := 0, slots := 0, locals := 0 } : Room) s m args below meth c H locs 0 0 (MQ below (e_Qi D cA B res.1 res.2) args s 0 0 (e_A B)) (F0 m 4 ls [])) (E : e_En p s m args meth c cX6_closedOver RX6 4 (some .int)) {ls : Array Slot} {H : Heap} {locs : List Loc} {S : HP} {x0 : Int} {x1 : Int} {x3 : Int} (hp : e_Pic D cA B S s H) (hS : va_S (e_A B) s.heap H locs) (hl : e_lo ls 4 [(0, e_rv B (x0)), (1, .int (iI (x1))), (3, .int (iI (x3)))]) (hsh : s6_closedOver_b75 k4 S x0 x1 x3 = some res) : W p l e ({ frames := 0, cells := 0, slots := 0, locals := 0 } : Room) s m args below meth c H locs 0 0 (MQ below (e_Qi D cA B res.1 res.2) args s 0 0 (e_A B)) (F0 m 75 ls []) := by
  obtain ⟨hx, hb, hml, hown, hts, hlk, hrt⟩ := id E
  unfold s6_closedOver_b75 at hsh
  refine lv_iload_n hx hb dX6_closedOver_75 rfl (hl.at 2 rfl) ?_
  refine e_istore_n (lv' := [(2, .int (iI (x3))), (0, e_rv B (x0)), (1, .int (iI (x1))), (3, .int (iI (x3)))]) hx hb dX6_closedOver_76 rfl hl (by decide) rfl (fun ls hl => ?_)
  exact w6_closedOver_b77 (hk4 := hk4) E hp hS (hl.sub [1, 2, 0, 3] rfl) hsh
set_option maxRecDepth 100000 in
set_option maxHeartbeats 4000000 in
theorem w6_closedOver_l4 {p : Program} {l : Launch} {e : Env} {s : State} {m : MethodId} {args : Array Value} {below : List Frame} {meth : Method} {c : Code} {D : va_G} {cA : Nat → ClassId} {B : Nat} {res : Int × HP} (E : e_En p s m args meth c cX6_closedOver RX6 4 (some .int)) : ∀ (f : Nat) {ls : Array Slot} {H : Heap} {locs : List Loc} {S : HP} {x0 : Int} {x1 : Int} {x2 : Int} {x3 : Int} (hp : e_Pic D cA B S s H) (hS : va_S (e_A B) s.heap H locs) (hl : e_lo ls 4 [(0, e_rv B (x0)), (1, .int (iI (x1))), (2, .int (iI (x2))), (3, .int (iI (x3)))]) (hsh : s6_closedOver_l4 f S x0 x1 x2 x3 = some res), W p l e ({ frames := 0, cells := 0, slots := 0, locals := 0 } : Room) s m args below meth c H locs 0 0 (MQ below (e_Qi D cA B res.1 res.2) args s 0 0 (e_A B)) (F0 m 4 ls []) := by
  obtain ⟨hx, hb, hml, hown, hts, hlk, hrt⟩ := id E
  intro f
  induction f with
  | zero => intro ls H locs S x0 x1 x2 x3 hp hS hl hsh; cases hsh
  | succ f ih =>
    intro ls H locs S x0 x1 x2 x3 hp hS hl hsh
    have hk4 : ∀ {ls : Array Slot} {H : Heap} {locs : List Loc} {S : HP} {x0 : Int} {x1 : Int} {x2 : Int} {x3 : Int} (hp : e_Pic D cA B S s H) (hS : va_S (e_A B) s.heap H locs) (hl : e_lo ls 4 [(0, e_rv B (x0)), (1, .int (iI (x1))), (2, .int (iI (x2))), (3, .int (iI (x3)))]) (hsh : (s6_closedOver_l4 f) S x0 x1 x2 x3 = some res), W p l e ({ frames := 0, cells := 0, slots := 0, locals := 0 } : Room) s m args below meth c H locs 0 0 (MQ below (e_Qi D cA B res.1 res.2) args s 0 0 (e_A B)) (F0 m 4 ls []) := ih
    generalize hkk : s6_closedOver_l4 f = k4 at hk4
    rw [s6_closedOver_l4] at hsh
    rw [hkk] at hsh
    try dsimp only at hsh
    refine lv_iload_n hx hb dX6_closedOver_4 rfl (hl.at 3 rfl) ?_
    refine e_aload_n (B := B) (x := x0) hx hb dX6_closedOver_5 rfl (hl.at 0 rfl) ?_
    obtain ⟨v6, h6, hsh⟩ := Option.bind_eq_some_iff.mp hsh
    refine e_getI (k := 15) hx hb hts in_X6 hown hp h6 rfl (by decide) (by decide) rfl (hts _ kf6_59) rfl dX6_closedOver_6 ?_
    refine e_icmp_ge (tgt := 83) hx hb dX6_closedOver_9 (by decide) (fun c9 => ?_) (fun c9 => ?_)
    · rw [if_pos c9] at hsh
      refine lv_iload_n hx hb dX6_closedOver_83 rfl (hl.at 2 rfl) ?_
      cases hsh
      exact e_iret hx hb hrt hlk hp hS dX6_closedOver_84
    · rw [if_neg c9] at hsh
      refine e_aload_n (B := B) (x := x0) hx hb dX6_closedOver_12 rfl (hl.at 0 rfl) ?_
      obtain ⟨v13, h13, hsh⟩ := Option.bind_eq_some_iff.mp hsh
      refine e_getR (k := 14) hx hb hts in_X6 hown hp h13 rfl (by decide) (by decide) rfl (hts _ kf6_55) rfl dX6_closedOver_13 ?_
      refine lv_iload_n hx hb dX6_closedOver_16 rfl (hl.at 3 rfl) ?_
      obtain ⟨v17, h17, hsh⟩ := Option.bind_eq_some_iff.mp hsh
      refine e_bald hx hb hp h17 dX6_closedOver_17 ?_
      refine e_if_eq (tgt := 77) hx hb dX6_closedOver_18 (by decide) (fun c18 => ?_) (fun c18 => ?_)
      · rw [if_pos c18] at hsh
        exact w6_closedOver_b77 (hk4 := hk4) E hp hS (hl.sub [0, 1, 2, 3] rfl) hsh
      · rw [if_neg c18] at hsh
        refine e_aload_n (B := B) (x := x0) hx hb dX6_closedOver_21 rfl (hl.at 0 rfl) ?_
        obtain ⟨v22, h22, hsh⟩ := Option.bind_eq_some_iff.mp hsh
        refine e_getR (k := 12) hx hb hts in_X6 hown hp h22 rfl (by decide) (by decide) rfl (hts _ kf6_49) rfl dX6_closedOver_22 ?_
        refine lv_iload_n hx hb dX6_closedOver_25 rfl (hl.at 3 rfl) ?_
        obtain ⟨v26, h26, hsh⟩ := Option.bind_eq_some_iff.mp hsh
        refine e_iald hx hb hp h26 dX6_closedOver_26 ?_
        refine lv_iload_n hx hb dX6_closedOver_27 rfl (hl.at 1 rfl) ?_
        refine e_icmp_gt (tgt := 77) hx hb dX6_closedOver_28 (by decide) (fun c28 => ?_) (fun c28 => ?_)
        · rw [if_pos c28] at hsh
          exact w6_closedOver_b77 (hk4 := hk4) E hp hS (hl.sub [0, 1, 2, 3] rfl) hsh
        · rw [if_neg c28] at hsh
          refine lv_iload_n hx hb dX6_closedOver_31 rfl (hl.at 1 rfl) ?_
          refine e_aload_n (B := B) (x := x0) hx hb dX6_closedOver_32 rfl (hl.at 0 rfl) ?_
          obtain ⟨v33, h33, hsh⟩ := Option.bind_eq_some_iff.mp hsh
          refine e_getR (k := 13) hx hb hts in_X6 hown hp h33 rfl (by decide) (by decide) rfl (hts _ kf6_52) rfl dX6_closedOver_33 ?_
          refine lv_iload_n hx hb dX6_closedOver_36 rfl (hl.at 3 rfl) ?_
          obtain ⟨v37, h37, hsh⟩ := Option.bind_eq_some_iff.mp hsh
          refine e_iald hx hb hp h37 dX6_closedOver_37 ?_
          refine e_icmp_gt (tgt := 77) hx hb dX6_closedOver_38 (by decide) (fun c38 => ?_) (fun c38 => ?_)
          · rw [if_pos c38] at hsh
            exact w6_closedOver_b77 (hk4 := hk4) E hp hS (hl.sub [0, 1, 2, 3] rfl) hsh
          · rw [if_neg c38] at hsh
            refine lv_iload_n hx hb dX6_closedOver_41 rfl (hl.at 2 rfl) ?_
            refine lv_iconst (v := iI (-1)) hx hb dX6_closedOver_42 rfl ?_
            refine e_icmp_eq (tgt := 75) hx hb dX6_closedOver_43 (by decide) (fun c43 => ?_) (fun c43 => ?_)
            · rw [if_pos c43] at hsh
              exact w6_closedOver_b75 (hk4 := hk4) E hp hS (hl.sub [0, 1, 3] rfl) hsh
            · rw [if_neg c43] at hsh
              refine e_aload_n (B := B) (x := x0) hx hb dX6_closedOver_46 rfl (hl.at 0 rfl) ?_
              obtain ⟨v47, h47, hsh⟩ := Option.bind_eq_some_iff.mp hsh
              refine e_getR (k := 13) hx hb hts in_X6 hown hp h47 rfl (by decide) (by decide) rfl (hts _ kf6_52) rfl dX6_closedOver_47 ?_
              refine lv_iload_n hx hb dX6_closedOver_50 rfl (hl.at 3 rfl) ?_
              obtain ⟨v51, h51, hsh⟩ := Option.bind_eq_some_iff.mp hsh
              refine e_iald hx hb hp h51 dX6_closedOver_51 ?_
              refine e_aload_n (B := B) (x := x0) hx hb dX6_closedOver_52 rfl (hl.at 0 rfl) ?_
              obtain ⟨v53, h53, hsh⟩ := Option.bind_eq_some_iff.mp hsh
              refine e_getR (k := 12) hx hb hts in_X6 hown hp h53 rfl (by decide) (by decide) rfl (hts _ kf6_49) rfl dX6_closedOver_53 ?_
              refine lv_iload_n hx hb dX6_closedOver_56 rfl (hl.at 3 rfl) ?_
              obtain ⟨v57, h57, hsh⟩ := Option.bind_eq_some_iff.mp hsh
              refine e_iald hx hb hp h57 dX6_closedOver_57 ?_
              refine e_isub hx hb dX6_closedOver_58 ?_
              refine e_aload_n (B := B) (x := x0) hx hb dX6_closedOver_59 rfl (hl.at 0 rfl) ?_
              obtain ⟨v60, h60, hsh⟩ := Option.bind_eq_some_iff.mp hsh
              refine e_getR (k := 13) hx hb hts in_X6 hown hp h60 rfl (by decide) (by decide) rfl (hts _ kf6_52) rfl dX6_closedOver_60 ?_
              refine lv_iload_n hx hb dX6_closedOver_63 rfl (hl.at 2 rfl) ?_
              obtain ⟨v64, h64, hsh⟩ := Option.bind_eq_some_iff.mp hsh
              refine e_iald hx hb hp h64 dX6_closedOver_64 ?_
              refine e_aload_n (B := B) (x := x0) hx hb dX6_closedOver_65 rfl (hl.at 0 rfl) ?_
              obtain ⟨v66, h66, hsh⟩ := Option.bind_eq_some_iff.mp hsh
              refine e_getR (k := 12) hx hb hts in_X6 hown hp h66 rfl (by decide) (by decide) rfl (hts _ kf6_49) rfl dX6_closedOver_66 ?_
              refine lv_iload_n hx hb dX6_closedOver_69 rfl (hl.at 2 rfl) ?_
              obtain ⟨v70, h70, hsh⟩ := Option.bind_eq_some_iff.mp hsh
              refine e_iald hx hb hp h70 dX6_closedOver_70 ?_
              refine e_isub hx hb dX6_closedOver_71 ?_
              refine e_icmp_le (tgt := 77) hx hb dX6_closedOver_72 (by decide) (fun c72 => ?_) (fun c72 => ?_)
              · rw [if_pos c72] at hsh
                exact w6_closedOver_b77 (hk4 := hk4) E hp hS (hl.sub [0, 1, 2, 3] rfl) hsh
              · rw [if_neg c72] at hsh
                exact w6_closedOver_b75 (hk4 := hk4) E hp hS (hl.sub [0, 1, 3] rfl) hsh
set_option maxRecDepth 100000 in
set_option maxHeartbeats 4000000 in
theorem c6_closedOver (l : Launch) (D : va_G) (cA : Nat → ClassId) (B : Nat) (S S' : HP) (x0 : Int) (x1 : Int) (r : Int) (hsh : s6_closedOver S x0 x1 = some (r, S')) : Met l yX6_closedOver (e_wu yX6_closedOver cX6_closedOver 4 (some .int)) ({ frames := 0, cells := 0, slots := 0, locals := 0 } : Room) (va_Pc [e_rv B (x0), .int (iI (x1))] (fun U => e_PU D cA B S U)) (e_Qi D cA B r S') 0 0 (e_A B) := by
  refine Met.ofW (cc := cX6_closedOver) (maxL := 4) (ret := (some .int)) (by decide +kernel) rfl ?_
  intro p e s m args below meth c s₁ Bd hml hv
  obtain ⟨rfl, hp⟩ := hv
  have hp : e_Pic D cA B S s s.heap := hp
  have hx := Bd.exec
  have hb := Bd.bytes
  have hrt := Bd.returns
  have hlk := Bd.notSynchronized
  have hown : s.vm.findClass RX6 = some m.cls := findClass_of_methodNamed Bd.named
  have hts : ∀ w ∈ e_tb, w.before ([e_rv B (x0), .int (iI (x1))] : List Value).toArray s = true := fun w h => atoms_spec (ws := (e_wu yX6_closedOver cX6_closedOver 4 (some .int))) Bd.pre w (List.mem_cons_of_mem _ h)
  have E : e_En p s m ([e_rv B (x0), .int (iI (x1))] : List Value).toArray meth c cX6_closedOver RX6 4 (some .int) := ⟨hx, hb, hml, hown, hts, hlk, hrt⟩
  have hS : va_S (e_A B) s.heap s.heap [] := va_S.rf
  have hl := e_entry (vs := [e_rv B (x0), .int (iI (x1))]) (n := 4) (Nat.le_of_ble_eq_true rfl) (e_cc (e_rv_cat _ _) (e_cc rfl e_cn))
  rw [lg_entry_eq]
  generalize (lg_sl [e_rv B (x0), .int (iI (x1))] ++ List.replicate (4 - (lg_sl [e_rv B (x0), .int (iI (x1))]).length) Slot.unset).toArray = ls at hl ⊢
  generalize ([e_rv B (x0), .int (iI (x1))] : List Value).toArray = args at hts E ⊢
  have hl : e_lo ls 4 [(0, e_rv B (x0)), (1, .int (iI (x1)))] := hl
  have hsh := (gd_some hsh).2
  refine lv_iconst (v := iI (-1)) hx hb dX6_closedOver_0 rfl ?_
  refine e_istore_n (lv' := [(2, .int (iI ((-1)))), (0, e_rv B (x0)), (1, .int (iI (x1)))]) hx hb dX6_closedOver_1 rfl hl (by decide) rfl (fun ls hl => ?_)
  refine lv_iconst (v := iI (0)) hx hb dX6_closedOver_2 rfl ?_
  refine e_istore_n (lv' := [(3, .int (iI (0))), (2, .int (iI ((-1)))), (0, e_rv B (x0)), (1, .int (iI (x1)))]) hx hb dX6_closedOver_3 rfl hl (by decide) rfl (fun ls hl => ?_)
  exact w6_closedOver_l4 E 1000000 hp hS (hl.sub [2, 3, 1, 0] rfl) hsh
theorem ok6_topOf {S : HP} {x0 : Int} {x1 : Int} {r : Int × HP} (h : s6_topOf S x0 x1 = some r) : 0 ≤ x0 ∧ x0.toNat < e_n S ∧ e_g S x0.toNat = 6 := (gd_some h).1
set_option maxRecDepth 100000 in
set_option maxHeartbeats 4000000 in
theorem w6_topOf_b21 {p : Program} {l : Launch} {e : Env} {s : State} {m : MethodId} {args : Array Value} {below : List Frame} {meth : Method} {c : Code} {D : va_G} {cA : Nat → ClassId} {B : Nat} {res : Int × HP} (E : e_En p s m args meth c cX6_topOf RX6 3 (some .int)) {ls : Array Slot} {H : Heap} {locs : List Loc} {S : HP} {y0 : Int} (hp : e_Pic D cA B S s H) (hS : va_S (e_A B) s.heap H locs) (hl : e_lo ls 3 []) (hsh : s6_topOf_b21 S y0 = some res) : W p l e ({ frames := 1, cells := 0, slots := 0, locals := 23 } : Room) s m args below meth c H locs 0 0 (MQ below (e_Qi D cA B res.1 res.2) args s 0 0 (e_A B)) (F0 m 21 ls [.int (iI (y0))]) := by
  obtain ⟨hx, hb, hml, hown, hts, hlk, hrt⟩ := id E
  unfold s6_topOf_b21 at hsh
  cases hsh
  exact e_iret hx hb hrt hlk hp hS dX6_topOf_21
set_option maxRecDepth 100000 in
set_option maxHeartbeats 4000000 in
theorem c6_topOf (l : Launch) (D : va_G) (cA : Nat → ClassId) (B : Nat) (S S' : HP) (x0 : Int) (x1 : Int) (r : Int) (hsh : s6_topOf S x0 x1 = some (r, S')) : Met l yX6_topOf (e_wu yX6_topOf cX6_topOf 3 (some .int)) ({ frames := 1, cells := 0, slots := 0, locals := 23 } : Room) (va_Pc [e_rv B (x0), .int (iI (x1))] (fun U => e_PU D cA B S U)) (e_Qi D cA B r S') 0 0 (e_A B) := by
  refine Met.ofW (cc := cX6_topOf) (maxL := 3) (ret := (some .int)) (by decide +kernel) rfl ?_
  intro p e s m args below meth c s₁ Bd hml hv
  obtain ⟨rfl, hp⟩ := hv
  have hp : e_Pic D cA B S s s.heap := hp
  have hx := Bd.exec
  have hb := Bd.bytes
  have hrt := Bd.returns
  have hlk := Bd.notSynchronized
  have hown : s.vm.findClass RX6 = some m.cls := findClass_of_methodNamed Bd.named
  have hts : ∀ w ∈ e_tb, w.before ([e_rv B (x0), .int (iI (x1))] : List Value).toArray s = true := fun w h => atoms_spec (ws := (e_wu yX6_topOf cX6_topOf 3 (some .int))) Bd.pre w (List.mem_cons_of_mem _ h)
  have E : e_En p s m ([e_rv B (x0), .int (iI (x1))] : List Value).toArray meth c cX6_topOf RX6 3 (some .int) := ⟨hx, hb, hml, hown, hts, hlk, hrt⟩
  have hS : va_S (e_A B) s.heap s.heap [] := va_S.rf
  have hl := e_entry (vs := [e_rv B (x0), .int (iI (x1))]) (n := 3) (Nat.le_of_ble_eq_true rfl) (e_cc (e_rv_cat _ _) (e_cc rfl e_cn))
  rw [lg_entry_eq]
  generalize (lg_sl [e_rv B (x0), .int (iI (x1))] ++ List.replicate (3 - (lg_sl [e_rv B (x0), .int (iI (x1))]).length) Slot.unset).toArray = ls at hl ⊢
  generalize ([e_rv B (x0), .int (iI (x1))] : List Value).toArray = args at hts E ⊢
  have hl : e_lo ls 3 [(0, e_rv B (x0)), (1, .int (iI (x1)))] := hl
  have hsh := (gd_some hsh).2
  refine e_aload_n (B := B) (x := x0) hx hb dX6_topOf_0 rfl (hl.at 0 rfl) ?_
  refine lv_iload_n hx hb dX6_topOf_1 rfl (hl.at 1 rfl) ?_
  obtain ⟨⟨v2, S2⟩, h2, hsh⟩ := Option.bind_eq_some_iff.mp hsh
  have hsh : _ = _ := hsh
  try dsimp only at hsh
  have ok2 := ok6_closedOver h2
  refine e_callI (nL := 3) (mc := 0) (ms := 0) (T := TX6) (N := 16) (As := [.int (iI (x1))]) (rest := []) hx hb hml hown hts hp hS hl.size ok2.1 ok2.2.1 ok2.2.2 rfl (by decide) (c6_closedOver l D cA B S S2 (x0) (x1) v2 h2) rfl rfl kd6_closedOver (kl6_114) ks6_closedOver kv6_closedOver ki6 kh6_closedOver ⟨Nat.le_of_ble_eq_true rfl, Nat.le_of_ble_eq_true rfl⟩ rfl (by simp [e_rv_cat, e_int_cat, e_long_cat]) ⟨Nat.le_refl _, Nat.le_refl _⟩ dX6_topOf_2 rfl (fun H locs hp hS => ?_)
  refine e_istore_n (lv' := [(2, .int (iI (v2))), (0, e_rv B (x0)), (1, .int (iI (x1)))]) hx hb dX6_topOf_5 rfl hl (by decide) rfl (fun ls hl => ?_)
  refine lv_iload_n hx hb dX6_topOf_6 rfl (hl.at 0 rfl) ?_
  refine lv_iconst (v := iI (-1)) hx hb dX6_topOf_7 rfl ?_
  refine e_icmp_ne (tgt := 15) hx hb dX6_topOf_8 (by decide) (fun c8 => ?_) (fun c8 => ?_)
  · rw [if_neg c8] at hsh
    refine e_aload_n (B := B) (x := x0) hx hb dX6_topOf_15 rfl (hl.at 1 rfl) ?_
    obtain ⟨v16, h16, hsh⟩ := Option.bind_eq_some_iff.mp hsh
    refine e_getR (k := 12) hx hb hts in_X6 hown hp h16 rfl (by decide) (by decide) rfl (hts _ kf6_49) rfl dX6_topOf_16 ?_
    refine lv_iload_n hx hb dX6_topOf_19 rfl (hl.at 0 rfl) ?_
    obtain ⟨v20, h20, hsh⟩ := Option.bind_eq_some_iff.mp hsh
    refine e_iald hx hb hp h20 dX6_topOf_20 ?_
    exact w6_topOf_b21 E hp hS (hl.sub [] rfl) hsh
  · rw [if_pos c8] at hsh
    refine lv_iload_n hx hb dX6_topOf_11 rfl (hl.at 2 rfl) ?_
    refine lv_goto (tgt := 21) hx hb dX6_topOf_12 (by decide) ?_
    exact w6_topOf_b21 E hp hS (hl.sub [] rfl) hsh
theorem ok6_endOf {S : HP} {x0 : Int} {x1 : Int} {r : Int × HP} (h : s6_endOf S x0 x1 = some r) : 0 ≤ x0 ∧ x0.toNat < e_n S ∧ e_g S x0.toNat = 6 := (gd_some h).1
set_option maxRecDepth 100000 in
set_option maxHeartbeats 4000000 in
theorem w6_endOf_b21 {p : Program} {l : Launch} {e : Env} {s : State} {m : MethodId} {args : Array Value} {below : List Frame} {meth : Method} {c : Code} {D : va_G} {cA : Nat → ClassId} {B : Nat} {res : Int × HP} (E : e_En p s m args meth c cX6_endOf RX6 3 (some .int)) {ls : Array Slot} {H : Heap} {locs : List Loc} {S : HP} {y0 : Int} (hp : e_Pic D cA B S s H) (hS : va_S (e_A B) s.heap H locs) (hl : e_lo ls 3 []) (hsh : s6_endOf_b21 S y0 = some res) : W p l e ({ frames := 1, cells := 0, slots := 0, locals := 23 } : Room) s m args below meth c H locs 0 0 (MQ below (e_Qi D cA B res.1 res.2) args s 0 0 (e_A B)) (F0 m 21 ls [.int (iI (y0))]) := by
  obtain ⟨hx, hb, hml, hown, hts, hlk, hrt⟩ := id E
  unfold s6_endOf_b21 at hsh
  cases hsh
  exact e_iret hx hb hrt hlk hp hS dX6_endOf_21
set_option maxRecDepth 100000 in
set_option maxHeartbeats 4000000 in
theorem c6_endOf (l : Launch) (D : va_G) (cA : Nat → ClassId) (B : Nat) (S S' : HP) (x0 : Int) (x1 : Int) (r : Int) (hsh : s6_endOf S x0 x1 = some (r, S')) : Met l yX6_endOf (e_wu yX6_endOf cX6_endOf 3 (some .int)) ({ frames := 1, cells := 0, slots := 0, locals := 23 } : Room) (va_Pc [e_rv B (x0), .int (iI (x1))] (fun U => e_PU D cA B S U)) (e_Qi D cA B r S') 0 0 (e_A B) := by
  refine Met.ofW (cc := cX6_endOf) (maxL := 3) (ret := (some .int)) (by decide +kernel) rfl ?_
  intro p e s m args below meth c s₁ Bd hml hv
  obtain ⟨rfl, hp⟩ := hv
  have hp : e_Pic D cA B S s s.heap := hp
  have hx := Bd.exec
  have hb := Bd.bytes
  have hrt := Bd.returns
  have hlk := Bd.notSynchronized
  have hown : s.vm.findClass RX6 = some m.cls := findClass_of_methodNamed Bd.named
  have hts : ∀ w ∈ e_tb, w.before ([e_rv B (x0), .int (iI (x1))] : List Value).toArray s = true := fun w h => atoms_spec (ws := (e_wu yX6_endOf cX6_endOf 3 (some .int))) Bd.pre w (List.mem_cons_of_mem _ h)
  have E : e_En p s m ([e_rv B (x0), .int (iI (x1))] : List Value).toArray meth c cX6_endOf RX6 3 (some .int) := ⟨hx, hb, hml, hown, hts, hlk, hrt⟩
  have hS : va_S (e_A B) s.heap s.heap [] := va_S.rf
  have hl := e_entry (vs := [e_rv B (x0), .int (iI (x1))]) (n := 3) (Nat.le_of_ble_eq_true rfl) (e_cc (e_rv_cat _ _) (e_cc rfl e_cn))
  rw [lg_entry_eq]
  generalize (lg_sl [e_rv B (x0), .int (iI (x1))] ++ List.replicate (3 - (lg_sl [e_rv B (x0), .int (iI (x1))]).length) Slot.unset).toArray = ls at hl ⊢
  generalize ([e_rv B (x0), .int (iI (x1))] : List Value).toArray = args at hts E ⊢
  have hl : e_lo ls 3 [(0, e_rv B (x0)), (1, .int (iI (x1)))] := hl
  have hsh := (gd_some hsh).2
  refine e_aload_n (B := B) (x := x0) hx hb dX6_endOf_0 rfl (hl.at 0 rfl) ?_
  refine lv_iload_n hx hb dX6_endOf_1 rfl (hl.at 1 rfl) ?_
  obtain ⟨⟨v2, S2⟩, h2, hsh⟩ := Option.bind_eq_some_iff.mp hsh
  have hsh : _ = _ := hsh
  try dsimp only at hsh
  have ok2 := ok6_closedOver h2
  refine e_callI (nL := 3) (mc := 0) (ms := 0) (T := TX6) (N := 16) (As := [.int (iI (x1))]) (rest := []) hx hb hml hown hts hp hS hl.size ok2.1 ok2.2.1 ok2.2.2 rfl (by decide) (c6_closedOver l D cA B S S2 (x0) (x1) v2 h2) rfl rfl kd6_closedOver (kl6_114) ks6_closedOver kv6_closedOver ki6 kh6_closedOver ⟨Nat.le_of_ble_eq_true rfl, Nat.le_of_ble_eq_true rfl⟩ rfl (by simp [e_rv_cat, e_int_cat, e_long_cat]) ⟨Nat.le_refl _, Nat.le_refl _⟩ dX6_endOf_2 rfl (fun H locs hp hS => ?_)
  refine e_istore_n (lv' := [(2, .int (iI (v2))), (0, e_rv B (x0)), (1, .int (iI (x1)))]) hx hb dX6_endOf_5 rfl hl (by decide) rfl (fun ls hl => ?_)
  refine lv_iload_n hx hb dX6_endOf_6 rfl (hl.at 0 rfl) ?_
  refine lv_iconst (v := iI (-1)) hx hb dX6_endOf_7 rfl ?_
  refine e_icmp_ne (tgt := 15) hx hb dX6_endOf_8 (by decide) (fun c8 => ?_) (fun c8 => ?_)
  · rw [if_neg c8] at hsh
    refine e_aload_n (B := B) (x := x0) hx hb dX6_endOf_15 rfl (hl.at 1 rfl) ?_
    obtain ⟨v16, h16, hsh⟩ := Option.bind_eq_some_iff.mp hsh
    refine e_getR (k := 13) hx hb hts in_X6 hown hp h16 rfl (by decide) (by decide) rfl (hts _ kf6_52) rfl dX6_endOf_16 ?_
    refine lv_iload_n hx hb dX6_endOf_19 rfl (hl.at 0 rfl) ?_
    obtain ⟨v20, h20, hsh⟩ := Option.bind_eq_some_iff.mp hsh
    refine e_iald hx hb hp h20 dX6_endOf_20 ?_
    exact w6_endOf_b21 E hp hS (hl.sub [] rfl) hsh
  · rw [if_pos c8] at hsh
    refine lv_iload_n hx hb dX6_endOf_11 rfl (hl.at 2 rfl) ?_
    refine lv_goto (tgt := 21) hx hb dX6_endOf_12 (by decide) ?_
    exact w6_endOf_b21 E hp hS (hl.sub [] rfl) hsh
theorem ok6_linesPut {S : HP} {x0 : Int} {x1 : Int} {x2 : Int} {r : HP} (h : s6_linesPut S x0 x1 x2 = some r) : 0 ≤ x0 ∧ x0.toNat < e_n S ∧ e_g S x0.toNat = 6 := (gd_some h).1
set_option maxRecDepth 100000 in
set_option maxHeartbeats 4000000 in
theorem w6_linesPut_b223 {p : Program} {l : Launch} {e : Env} {s : State} {m : MethodId} {args : Array Value} {below : List Frame} {meth : Method} {c : Code} {D : va_G} {cA : Nat → ClassId} {B : Nat} {res : HP} {k169 : HP → Int → Int → Int → Int → Option (HP)} (hk169 : ∀ {ls : Array Slot} {H : Heap} {locs : List Loc} {S : HP} {x0 : Int} {x1 : Int} {x2 : Int} {x3 : Int} (hp : e_Pic D cA B S s H) (hS : va_S (e_A B) s.heap H locs) (hl : e_lo ls 4 [(0, e_rv B (x0)), (1, .int (iI (x1))), (2, .int (iI (x2))), (3, .int (iI (x3)))]) (hsh : k169 S x0 x1 x2 x3 = some res), W p l e ({ frames := 0, cells := 0, slots := 0, locals := 0 } : Room) s m args below meth c H locs 0 0 (MQ below (e_Qv D cA B res) args s 0 0 (e_A B)) (F0 m 169 ls [])) (E : e_En p s m args meth c cX6_linesPut RX6 4 none) {ls : Array Slot} {H : Heap} {locs : List Loc} {S : HP} {x0 : Int} {x1 : Int} {x2 : Int} {x3 : Int} {y0 : Int} {y1 : Int} {y2 : Int} {y3 : Int} (hp : e_Pic D cA B S s H) (hS : va_S (e_A B) s.heap H locs) (hl : e_lo ls 4 [(0, e_rv B (x0)), (1, .int (iI (x1))), (2, .int (iI (x2))), (3, .int (iI (x3)))]) (hsh : s6_linesPut_b223 k169 S x0 x1 x2 x3 y0 y1 y2 y3 = some res) : W p l e ({ frames := 0, cells := 0, slots := 0, locals := 0 } : Room) s m args below meth c H locs 0 0 (MQ below (e_Qv D cA B res) args s 0 0 (e_A B)) (F0 m 223 ls [.int (iI (y3)), .int (iI (y2)), .int (iI (y1)), e_rv B (y0)]) := by
  obtain ⟨hx, hb, hml, hown, hts, hlk, hrt⟩ := id E
  unfold s6_linesPut_b223 at hsh
  refine e_iadd hx hb dX6_linesPut_223 ?_
  obtain ⟨S224, h224, hsh⟩ := Option.bind_eq_some_iff.mp hsh
  refine e_iast hx hb hp hS h224 dX6_linesPut_224 (fun H locs hp hS => ?_)
  refine e_iinc (n := 1) (x := x3) (lv' := [(3, .int (iI ((x3 + 1)))), (0, e_rv B (x0)), (1, .int (iI (x1))), (2, .int (iI (x2)))]) hx hb dX6_linesPut_225 hl (k := 3) rfl (by decide) rfl (fun ls hl => ?_)
  refine lv_goto (tgt := 169) hx hb dX6_linesPut_228 (by decide) ?_
  exact hk169 hp hS (hl.sub [1, 2, 3, 0] rfl) hsh
set_option maxRecDepth 100000 in
set_option maxHeartbeats 4000000 in
theorem w6_linesPut_b199 {p : Program} {l : Launch} {e : Env} {s : State} {m : MethodId} {args : Array Value} {below : List Frame} {meth : Method} {c : Code} {D : va_G} {cA : Nat → ClassId} {B : Nat} {res : HP} {k169 : HP → Int → Int → Int → Int → Option (HP)} (hk169 : ∀ {ls : Array Slot} {H : Heap} {locs : List Loc} {S : HP} {x0 : Int} {x1 : Int} {x2 : Int} {x3 : Int} (hp : e_Pic D cA B S s H) (hS : va_S (e_A B) s.heap H locs) (hl : e_lo ls 4 [(0, e_rv B (x0)), (1, .int (iI (x1))), (2, .int (iI (x2))), (3, .int (iI (x3)))]) (hsh : k169 S x0 x1 x2 x3 = some res), W p l e ({ frames := 0, cells := 0, slots := 0, locals := 0 } : Room) s m args below meth c H locs 0 0 (MQ below (e_Qv D cA B res) args s 0 0 (e_A B)) (F0 m 169 ls [])) (E : e_En p s m args meth c cX6_linesPut RX6 4 none) {ls : Array Slot} {H : Heap} {locs : List Loc} {S : HP} {x0 : Int} {x1 : Int} {x2 : Int} {x3 : Int} {y0 : Int} {y1 : Int} {y2 : Int} {y3 : Int} (hp : e_Pic D cA B S s H) (hS : va_S (e_A B) s.heap H locs) (hl : e_lo ls 4 [(0, e_rv B (x0)), (1, .int (iI (x1))), (2, .int (iI (x2))), (3, .int (iI (x3)))]) (hsh : s6_linesPut_b199 k169 S x0 x1 x2 x3 y0 y1 y2 y3 = some res) : W p l e ({ frames := 0, cells := 0, slots := 0, locals := 0 } : Room) s m args below meth c H locs 0 0 (MQ below (e_Qv D cA B res) args s 0 0 (e_A B)) (F0 m 199 ls [.int (iI (y3)), .int (iI (y2)), .int (iI (y1)), e_rv B (y0)]) := by
  obtain ⟨hx, hb, hml, hown, hts, hlk, hrt⟩ := id E
  unfold s6_linesPut_b199 at hsh
  refine e_iadd hx hb dX6_linesPut_199 ?_
  obtain ⟨S200, h200, hsh⟩ := Option.bind_eq_some_iff.mp hsh
  refine e_iast hx hb hp hS h200 dX6_linesPut_200 (fun H locs hp hS => ?_)
  refine e_aload_n (B := B) (x := x0) hx hb dX6_linesPut_201 rfl (hl.at 0 rfl) ?_
  obtain ⟨v202, h202, hsh⟩ := Option.bind_eq_some_iff.mp hsh
  refine e_getR (k := 13) hx hb hts in_X6 hown hp h202 rfl (by decide) (by decide) rfl (hts _ kf6_52) rfl dX6_linesPut_202 ?_
  refine lv_iload_n hx hb dX6_linesPut_205 rfl (hl.at 3 rfl) ?_
  refine lv_dup2_11 hx hb dX6_linesPut_206 rfl (e_rv_cat _ _) ?_
  obtain ⟨v207, h207, hsh⟩ := Option.bind_eq_some_iff.mp hsh
  refine e_iald hx hb hp h207 dX6_linesPut_207 ?_
  refine e_aload_n (B := B) (x := x0) hx hb dX6_linesPut_208 rfl (hl.at 0 rfl) ?_
  obtain ⟨v209, h209, hsh⟩ := Option.bind_eq_some_iff.mp hsh
  refine e_getR (k := 13) hx hb hts in_X6 hown hp h209 rfl (by decide) (by decide) rfl (hts _ kf6_52) rfl dX6_linesPut_209 ?_
  refine lv_iload_n hx hb dX6_linesPut_212 rfl (hl.at 3 rfl) ?_
  obtain ⟨v213, h213, hsh⟩ := Option.bind_eq_some_iff.mp hsh
  refine e_iald hx hb hp h213 dX6_linesPut_213 ?_
  refine lv_iload_n hx hb dX6_linesPut_214 rfl (hl.at 1 rfl) ?_
  refine e_icmp_lt (tgt := 222) hx hb dX6_linesPut_215 (by decide) (fun c215 => ?_) (fun c215 => ?_)
  · rw [if_pos c215] at hsh
    refine lv_iconst (v := iI (0)) hx hb dX6_linesPut_222 rfl ?_
    exact w6_linesPut_b223 (hk169 := hk169) E hp hS (hl.sub [0, 1, 2, 3] rfl) hsh
  · rw [if_neg c215] at hsh
    refine lv_iload_n hx hb dX6_linesPut_218 rfl (hl.at 2 rfl) ?_
    refine lv_goto (tgt := 223) hx hb dX6_linesPut_219 (by decide) ?_
    exact w6_linesPut_b223 (hk169 := hk169) E hp hS (hl.sub [0, 1, 2, 3] rfl) hsh
set_option maxRecDepth 100000 in
set_option maxHeartbeats 4000000 in
theorem w6_linesPut_l169 {p : Program} {l : Launch} {e : Env} {s : State} {m : MethodId} {args : Array Value} {below : List Frame} {meth : Method} {c : Code} {D : va_G} {cA : Nat → ClassId} {B : Nat} {res : HP} (E : e_En p s m args meth c cX6_linesPut RX6 4 none) : ∀ (f : Nat) {ls : Array Slot} {H : Heap} {locs : List Loc} {S : HP} {x0 : Int} {x1 : Int} {x2 : Int} {x3 : Int} (hp : e_Pic D cA B S s H) (hS : va_S (e_A B) s.heap H locs) (hl : e_lo ls 4 [(0, e_rv B (x0)), (1, .int (iI (x1))), (2, .int (iI (x2))), (3, .int (iI (x3)))]) (hsh : s6_linesPut_l169 f S x0 x1 x2 x3 = some res), W p l e ({ frames := 0, cells := 0, slots := 0, locals := 0 } : Room) s m args below meth c H locs 0 0 (MQ below (e_Qv D cA B res) args s 0 0 (e_A B)) (F0 m 169 ls []) := by
  obtain ⟨hx, hb, hml, hown, hts, hlk, hrt⟩ := id E
  intro f
  induction f with
  | zero => intro ls H locs S x0 x1 x2 x3 hp hS hl hsh; cases hsh
  | succ f ih =>
    intro ls H locs S x0 x1 x2 x3 hp hS hl hsh
    have hk169 : ∀ {ls : Array Slot} {H : Heap} {locs : List Loc} {S : HP} {x0 : Int} {x1 : Int} {x2 : Int} {x3 : Int} (hp : e_Pic D cA B S s H) (hS : va_S (e_A B) s.heap H locs) (hl : e_lo ls 4 [(0, e_rv B (x0)), (1, .int (iI (x1))), (2, .int (iI (x2))), (3, .int (iI (x3)))]) (hsh : (s6_linesPut_l169 f) S x0 x1 x2 x3 = some res), W p l e ({ frames := 0, cells := 0, slots := 0, locals := 0 } : Room) s m args below meth c H locs 0 0 (MQ below (e_Qv D cA B res) args s 0 0 (e_A B)) (F0 m 169 ls []) := ih
    generalize hkk : s6_linesPut_l169 f = k169 at hk169
    rw [s6_linesPut_l169] at hsh
    rw [hkk] at hsh
    try dsimp only at hsh
    refine lv_iload_n hx hb dX6_linesPut_169 rfl (hl.at 3 rfl) ?_
    refine e_aload_n (B := B) (x := x0) hx hb dX6_linesPut_170 rfl (hl.at 0 rfl) ?_
    obtain ⟨v171, h171, hsh⟩ := Option.bind_eq_some_iff.mp hsh
    refine e_getI (k := 15) hx hb hts in_X6 hown hp h171 rfl (by decide) (by decide) rfl (hts _ kf6_59) rfl dX6_linesPut_171 ?_
    refine e_icmp_ge (tgt := 231) hx hb dX6_linesPut_174 (by decide) (fun c174 => ?_) (fun c174 => ?_)
    · rw [if_pos c174] at hsh
      cases hsh
      exact e_vret hx hb hrt hlk hp hS dX6_linesPut_231
    · rw [if_neg c174] at hsh
      refine e_aload_n (B := B) (x := x0) hx hb dX6_linesPut_177 rfl (hl.at 0 rfl) ?_
      obtain ⟨v178, h178, hsh⟩ := Option.bind_eq_some_iff.mp hsh
      refine e_getR (k := 12) hx hb hts in_X6 hown hp h178 rfl (by decide) (by decide) rfl (hts _ kf6_49) rfl dX6_linesPut_178 ?_
      refine lv_iload_n hx hb dX6_linesPut_181 rfl (hl.at 3 rfl) ?_
      refine lv_dup2_11 hx hb dX6_linesPut_182 rfl (e_rv_cat _ _) ?_
      obtain ⟨v183, h183, hsh⟩ := Option.bind_eq_some_iff.mp hsh
      refine e_iald hx hb hp h183 dX6_linesPut_183 ?_
      refine e_aload_n (B := B) (x := x0) hx hb dX6_linesPut_184 rfl (hl.at 0 rfl) ?_
      obtain ⟨v185, h185, hsh⟩ := Option.bind_eq_some_iff.mp hsh
      refine e_getR (k := 12) hx hb hts in_X6 hown hp h185 rfl (by decide) (by decide) rfl (hts _ kf6_49) rfl dX6_linesPut_185 ?_
      refine lv_iload_n hx hb dX6_linesPut_188 rfl (hl.at 3 rfl) ?_
      obtain ⟨v189, h189, hsh⟩ := Option.bind_eq_some_iff.mp hsh
      refine e_iald hx hb hp h189 dX6_linesPut_189 ?_
      refine lv_iload_n hx hb dX6_linesPut_190 rfl (hl.at 1 rfl) ?_
      refine e_icmp_lt (tgt := 198) hx hb dX6_linesPut_191 (by decide) (fun c191 => ?_) (fun c191 => ?_)
      · rw [if_pos c191] at hsh
        refine lv_iconst (v := iI (0)) hx hb dX6_linesPut_198 rfl ?_
        exact w6_linesPut_b199 (hk169 := hk169) E hp hS (hl.sub [0, 1, 2, 3] rfl) hsh
      · rw [if_neg c191] at hsh
        refine lv_iload_n hx hb dX6_linesPut_194 rfl (hl.at 2 rfl) ?_
        refine lv_goto (tgt := 199) hx hb dX6_linesPut_195 (by decide) ?_
        exact w6_linesPut_b199 (hk169 := hk169) E hp hS (hl.sub [0, 1, 2, 3] rfl) hsh
set_option maxRecDepth 100000 in
set_option maxHeartbeats 4000000 in
theorem w6_linesPut_b163 {p : Program} {l : Launch} {e : Env} {s : State} {m : MethodId} {args : Array Value} {below : List Frame} {meth : Method} {c : Code} {D : va_G} {cA : Nat → ClassId} {B : Nat} {res : HP} (E : e_En p s m args meth c cX6_linesPut RX6 4 none) {ls : Array Slot} {H : Heap} {locs : List Loc} {S : HP} {x0 : Int} {x1 : Int} {x2 : Int} {y0 : Int} {y1 : Int} {y2 : Int} (hp : e_Pic D cA B S s H) (hS : va_S (e_A B) s.heap H locs) (hl : e_lo ls 4 [(0, e_rv B (x0)), (1, .int (iI (x1))), (2, .int (iI (x2)))]) (hsh : s6_linesPut_b163 S x0 x1 x2 y0 y1 y2 = some res) : W p l e ({ frames := 0, cells := 0, slots := 0, locals := 0 } : Room) s m args below meth c H locs 0 0 (MQ below (e_Qv D cA B res) args s 0 0 (e_A B)) (F0 m 163 ls [.int (iI (y2)), .int (iI (y1)), e_rv B (y0)]) := by
  obtain ⟨hx, hb, hml, hown, hts, hlk, hrt⟩ := id E
  unfold s6_linesPut_b163 at hsh
  refine e_iadd hx hb dX6_linesPut_163 ?_
  obtain ⟨S164, h164, hsh⟩ := Option.bind_eq_some_iff.mp hsh
  refine e_putI (k := 10) hx hb hts in_X6 tyX6 tyX6_ok nmX6 hown hp hS h164 rfl (by decide) (by decide) rfl (hts _ kf6_43) rfl rfl (by decide +kernel) dX6_linesPut_164 (fun H locs hp hS => ?_)
  refine lv_iconst (v := iI (0)) hx hb dX6_linesPut_167 rfl ?_
  refine e_istore_n (lv' := [(3, .int (iI (0))), (0, e_rv B (x0)), (1, .int (iI (x1))), (2, .int (iI (x2)))]) hx hb dX6_linesPut_168 rfl hl (by decide) rfl (fun ls hl => ?_)
  exact w6_linesPut_l169 E 1000000 hp hS (hl.sub [1, 2, 3, 0] rfl) hsh
set_option maxRecDepth 100000 in
set_option maxHeartbeats 4000000 in
theorem w6_linesPut_b131 {p : Program} {l : Launch} {e : Env} {s : State} {m : MethodId} {args : Array Value} {below : List Frame} {meth : Method} {c : Code} {D : va_G} {cA : Nat → ClassId} {B : Nat} {res : HP} {k95 : HP → Int → Int → Int → Int → Option (HP)} (hk95 : ∀ {ls : Array Slot} {H : Heap} {locs : List Loc} {S : HP} {x0 : Int} {x1 : Int} {x2 : Int} {x3 : Int} (hp : e_Pic D cA B S s H) (hS : va_S (e_A B) s.heap H locs) (hl : e_lo ls 4 [(0, e_rv B (x0)), (1, .int (iI (x1))), (2, .int (iI (x2))), (3, .int (iI (x3)))]) (hsh : k95 S x0 x1 x2 x3 = some res), W p l e ({ frames := 0, cells := 0, slots := 0, locals := 0 } : Room) s m args below meth c H locs 0 0 (MQ below (e_Qv D cA B res) args s 0 0 (e_A B)) (F0 m 95 ls [])) (E : e_En p s m args meth c cX6_linesPut RX6 4 none) {ls : Array Slot} {H : Heap} {locs : List Loc} {S : HP} {x0 : Int} {x1 : Int} {x2 : Int} {x3 : Int} {y0 : Int} {y1 : Int} {y2 : Int} {y3 : Int} (hp : e_Pic D cA B S s H) (hS : va_S (e_A B) s.heap H locs) (hl : e_lo ls 4 [(0, e_rv B (x0)), (1, .int (iI (x1))), (2, .int (iI (x2))), (3, .int (iI (x3)))]) (hsh : s6_linesPut_b131 k95 S x0 x1 x2 x3 y0 y1 y2 y3 = some res) : W p l e ({ frames := 0, cells := 0, slots := 0, locals := 0 } : Room) s m args below meth c H locs 0 0 (MQ below (e_Qv D cA B res) args s 0 0 (e_A B)) (F0 m 131 ls [.int (iI (y3)), .int (iI (y2)), .int (iI (y1)), e_rv B (y0)]) := by
  obtain ⟨hx, hb, hml, hown, hts, hlk, hrt⟩ := id E
  unfold s6_linesPut_b131 at hsh
  refine e_iadd hx hb dX6_linesPut_131 ?_
  obtain ⟨S132, h132, hsh⟩ := Option.bind_eq_some_iff.mp hsh
  refine e_iast hx hb hp hS h132 dX6_linesPut_132 (fun H locs hp hS => ?_)
  refine e_iinc (n := 1) (x := x3) (lv' := [(3, .int (iI ((x3 + 1)))), (0, e_rv B (x0)), (1, .int (iI (x1))), (2, .int (iI (x2)))]) hx hb dX6_linesPut_133 hl (k := 3) rfl (by decide) rfl (fun ls hl => ?_)
  refine lv_goto (tgt := 95) hx hb dX6_linesPut_136 (by decide) ?_
  exact hk95 hp hS (hl.sub [1, 2, 3, 0] rfl) hsh
set_option maxRecDepth 100000 in
set_option maxHeartbeats 4000000 in
theorem w6_linesPut_l95 {p : Program} {l : Launch} {e : Env} {s : State} {m : MethodId} {args : Array Value} {below : List Frame} {meth : Method} {c : Code} {D : va_G} {cA : Nat → ClassId} {B : Nat} {res : HP} (E : e_En p s m args meth c cX6_linesPut RX6 4 none) : ∀ (f : Nat) {ls : Array Slot} {H : Heap} {locs : List Loc} {S : HP} {x0 : Int} {x1 : Int} {x2 : Int} {x3 : Int} (hp : e_Pic D cA B S s H) (hS : va_S (e_A B) s.heap H locs) (hl : e_lo ls 4 [(0, e_rv B (x0)), (1, .int (iI (x1))), (2, .int (iI (x2))), (3, .int (iI (x3)))]) (hsh : s6_linesPut_l95 f S x0 x1 x2 x3 = some res), W p l e ({ frames := 0, cells := 0, slots := 0, locals := 0 } : Room) s m args below meth c H locs 0 0 (MQ below (e_Qv D cA B res) args s 0 0 (e_A B)) (F0 m 95 ls []) := by
  obtain ⟨hx, hb, hml, hown, hts, hlk, hrt⟩ := id E
  intro f
  induction f with
  | zero => intro ls H locs S x0 x1 x2 x3 hp hS hl hsh; cases hsh
  | succ f ih =>
    intro ls H locs S x0 x1 x2 x3 hp hS hl hsh
    have hk95 : ∀ {ls : Array Slot} {H : Heap} {locs : List Loc} {S : HP} {x0 : Int} {x1 : Int} {x2 : Int} {x3 : Int} (hp : e_Pic D cA B S s H) (hS : va_S (e_A B) s.heap H locs) (hl : e_lo ls 4 [(0, e_rv B (x0)), (1, .int (iI (x1))), (2, .int (iI (x2))), (3, .int (iI (x3)))]) (hsh : (s6_linesPut_l95 f) S x0 x1 x2 x3 = some res), W p l e ({ frames := 0, cells := 0, slots := 0, locals := 0 } : Room) s m args below meth c H locs 0 0 (MQ below (e_Qv D cA B res) args s 0 0 (e_A B)) (F0 m 95 ls []) := ih
    generalize hkk : s6_linesPut_l95 f = k95 at hk95
    rw [s6_linesPut_l95] at hsh
    rw [hkk] at hsh
    try dsimp only at hsh
    refine lv_iload_n hx hb dX6_linesPut_95 rfl (hl.at 3 rfl) ?_
    refine e_aload_n (B := B) (x := x0) hx hb dX6_linesPut_96 rfl (hl.at 0 rfl) ?_
    obtain ⟨v97, h97, hsh⟩ := Option.bind_eq_some_iff.mp hsh
    refine e_getI (k := 9) hx hb hts in_X6 hown hp h97 rfl (by decide) (by decide) rfl (hts _ kf6_40) rfl dX6_linesPut_97 ?_
    refine e_icmp_ge (tgt := 139) hx hb dX6_linesPut_100 (by decide) (fun c100 => ?_) (fun c100 => ?_)
    · rw [if_pos c100] at hsh
      refine e_aload_n (B := B) (x := x0) hx hb dX6_linesPut_139 rfl (hl.at 0 rfl) ?_
      refine lv_dup hx hb dX6_linesPut_140 (e_rv_cat _ _) ?_
      obtain ⟨v141, h141, hsh⟩ := Option.bind_eq_some_iff.mp hsh
      refine e_getI (k := 10) hx hb hts in_X6 hown hp h141 rfl (by decide) (by decide) rfl (hts _ kf6_43) rfl dX6_linesPut_141 ?_
      refine e_aload_n (B := B) (x := x0) hx hb dX6_linesPut_144 rfl (hl.at 0 rfl) ?_
      obtain ⟨v145, h145, hsh⟩ := Option.bind_eq_some_iff.mp hsh
      refine e_getI (k := 10) hx hb hts in_X6 hown hp h145 rfl (by decide) (by decide) rfl (hts _ kf6_43) rfl dX6_linesPut_145 ?_
      refine lv_iload_n hx hb dX6_linesPut_148 rfl (hl.at 1 rfl) ?_
      refine lv_bipush (v := iI (100)) hx hb dX6_linesPut_149 (by decide +kernel) ?_
      refine e_imul hx hb dX6_linesPut_151 ?_
      refine e_icmp_lt (tgt := 162) hx hb dX6_linesPut_152 (by decide) (fun c152 => ?_) (fun c152 => ?_)
      · rw [if_pos c152] at hsh
        refine lv_iconst (v := iI (0)) hx hb dX6_linesPut_162 rfl ?_
        exact w6_linesPut_b163 E hp hS (hl.sub [0, 1, 2] rfl) hsh
      · rw [if_neg c152] at hsh
        refine lv_iload_n hx hb dX6_linesPut_155 rfl (hl.at 2 rfl) ?_
        refine lv_bipush (v := iI (100)) hx hb dX6_linesPut_156 (by decide +kernel) ?_
        refine e_imul hx hb dX6_linesPut_158 ?_
        refine lv_goto (tgt := 163) hx hb dX6_linesPut_159 (by decide) ?_
        exact w6_linesPut_b163 E hp hS (hl.sub [0, 1, 2] rfl) hsh
    · rw [if_neg c100] at hsh
      refine e_aload_n (B := B) (x := x0) hx hb dX6_linesPut_103 rfl (hl.at 0 rfl) ?_
      obtain ⟨v104, h104, hsh⟩ := Option.bind_eq_some_iff.mp hsh
      refine e_getR (k := 8) hx hb hts in_X6 hown hp h104 rfl (by decide) (by decide) rfl (hts _ kf6_37) rfl dX6_linesPut_104 ?_
      refine lv_iload_n hx hb dX6_linesPut_107 rfl (hl.at 3 rfl) ?_
      refine lv_dup2_11 hx hb dX6_linesPut_108 rfl (e_rv_cat _ _) ?_
      obtain ⟨v109, h109, hsh⟩ := Option.bind_eq_some_iff.mp hsh
      refine e_iald hx hb hp h109 dX6_linesPut_109 ?_
      refine e_aload_n (B := B) (x := x0) hx hb dX6_linesPut_110 rfl (hl.at 0 rfl) ?_
      obtain ⟨v111, h111, hsh⟩ := Option.bind_eq_some_iff.mp hsh
      refine e_getR (k := 8) hx hb hts in_X6 hown hp h111 rfl (by decide) (by decide) rfl (hts _ kf6_37) rfl dX6_linesPut_111 ?_
      refine lv_iload_n hx hb dX6_linesPut_114 rfl (hl.at 3 rfl) ?_
      obtain ⟨v115, h115, hsh⟩ := Option.bind_eq_some_iff.mp hsh
      refine e_iald hx hb hp h115 dX6_linesPut_115 ?_
      refine lv_iload_n hx hb dX6_linesPut_116 rfl (hl.at 1 rfl) ?_
      refine lv_bipush (v := iI (100)) hx hb dX6_linesPut_117 (by decide +kernel) ?_
      refine e_imul hx hb dX6_linesPut_119 ?_
      refine e_icmp_lt (tgt := 130) hx hb dX6_linesPut_120 (by decide) (fun c120 => ?_) (fun c120 => ?_)
      · rw [if_pos c120] at hsh
        refine lv_iconst (v := iI (0)) hx hb dX6_linesPut_130 rfl ?_
        exact w6_linesPut_b131 (hk95 := hk95) E hp hS (hl.sub [0, 1, 2, 3] rfl) hsh
      · rw [if_neg c120] at hsh
        refine lv_iload_n hx hb dX6_linesPut_123 rfl (hl.at 2 rfl) ?_
        refine lv_bipush (v := iI (100)) hx hb dX6_linesPut_124 (by decide +kernel) ?_
        refine e_imul hx hb dX6_linesPut_126 ?_
        refine lv_goto (tgt := 131) hx hb dX6_linesPut_127 (by decide) ?_
        exact w6_linesPut_b131 (hk95 := hk95) E hp hS (hl.sub [0, 1, 2, 3] rfl) hsh
set_option maxRecDepth 100000 in
set_option maxHeartbeats 4000000 in
theorem w6_linesPut_b85 {p : Program} {l : Launch} {e : Env} {s : State} {m : MethodId} {args : Array Value} {below : List Frame} {meth : Method} {c : Code} {D : va_G} {cA : Nat → ClassId} {B : Nat} {res : HP} {k49 : HP → Int → Int → Int → Int → Option (HP)} (hk49 : ∀ {ls : Array Slot} {H : Heap} {locs : List Loc} {S : HP} {x0 : Int} {x1 : Int} {x2 : Int} {x3 : Int} (hp : e_Pic D cA B S s H) (hS : va_S (e_A B) s.heap H locs) (hl : e_lo ls 4 [(0, e_rv B (x0)), (1, .int (iI (x1))), (2, .int (iI (x2))), (3, .int (iI (x3)))]) (hsh : k49 S x0 x1 x2 x3 = some res), W p l e ({ frames := 0, cells := 0, slots := 0, locals := 0 } : Room) s m args below meth c H locs 0 0 (MQ below (e_Qv D cA B res) args s 0 0 (e_A B)) (F0 m 49 ls [])) (E : e_En p s m args meth c cX6_linesPut RX6 4 none) {ls : Array Slot} {H : Heap} {locs : List Loc} {S : HP} {x0 : Int} {x1 : Int} {x2 : Int} {x3 : Int} {y0 : Int} {y1 : Int} {y2 : Int} {y3 : Int} (hp : e_Pic D cA B S s H) (hS : va_S (e_A B) s.heap H locs) (hl : e_lo ls 4 [(0, e_rv B (x0)), (1, .int (iI (x1))), (2, .int (iI (x2))), (3, .int (iI (x3)))]) (hsh : s6_linesPut_b85 k49 S x0 x1 x2 x3 y0 y1 y2 y3 = some res) : W p l e ({ frames := 0, cells := 0, slots := 0, locals := 0 } : Room) s m args below meth c H locs 0 0 (MQ below (e_Qv D cA B res) args s 0 0 (e_A B)) (F0 m 85 ls [.int (iI (y3)), .int (iI (y2)), .int (iI (y1)), e_rv B (y0)]) := by
  obtain ⟨hx, hb, hml, hown, hts, hlk, hrt⟩ := id E
  unfold s6_linesPut_b85 at hsh
  refine e_iadd hx hb dX6_linesPut_85 ?_
  obtain ⟨S86, h86, hsh⟩ := Option.bind_eq_some_iff.mp hsh
  refine e_iast hx hb hp hS h86 dX6_linesPut_86 (fun H locs hp hS => ?_)
  refine e_iinc (n := 1) (x := x3) (lv' := [(3, .int (iI ((x3 + 1)))), (0, e_rv B (x0)), (1, .int (iI (x1))), (2, .int (iI (x2)))]) hx hb dX6_linesPut_87 hl (k := 3) rfl (by decide) rfl (fun ls hl => ?_)
  refine lv_goto (tgt := 49) hx hb dX6_linesPut_90 (by decide) ?_
  exact hk49 hp hS (hl.sub [1, 2, 3, 0] rfl) hsh
set_option maxRecDepth 100000 in
set_option maxHeartbeats 4000000 in
theorem w6_linesPut_l49 {p : Program} {l : Launch} {e : Env} {s : State} {m : MethodId} {args : Array Value} {below : List Frame} {meth : Method} {c : Code} {D : va_G} {cA : Nat → ClassId} {B : Nat} {res : HP} (E : e_En p s m args meth c cX6_linesPut RX6 4 none) : ∀ (f : Nat) {ls : Array Slot} {H : Heap} {locs : List Loc} {S : HP} {x0 : Int} {x1 : Int} {x2 : Int} {x3 : Int} (hp : e_Pic D cA B S s H) (hS : va_S (e_A B) s.heap H locs) (hl : e_lo ls 4 [(0, e_rv B (x0)), (1, .int (iI (x1))), (2, .int (iI (x2))), (3, .int (iI (x3)))]) (hsh : s6_linesPut_l49 f S x0 x1 x2 x3 = some res), W p l e ({ frames := 0, cells := 0, slots := 0, locals := 0 } : Room) s m args below meth c H locs 0 0 (MQ below (e_Qv D cA B res) args s 0 0 (e_A B)) (F0 m 49 ls []) := by
  obtain ⟨hx, hb, hml, hown, hts, hlk, hrt⟩ := id E
  intro f
  induction f with
  | zero => intro ls H locs S x0 x1 x2 x3 hp hS hl hsh; cases hsh
  | succ f ih =>
    intro ls H locs S x0 x1 x2 x3 hp hS hl hsh
    have hk49 : ∀ {ls : Array Slot} {H : Heap} {locs : List Loc} {S : HP} {x0 : Int} {x1 : Int} {x2 : Int} {x3 : Int} (hp : e_Pic D cA B S s H) (hS : va_S (e_A B) s.heap H locs) (hl : e_lo ls 4 [(0, e_rv B (x0)), (1, .int (iI (x1))), (2, .int (iI (x2))), (3, .int (iI (x3)))]) (hsh : (s6_linesPut_l49 f) S x0 x1 x2 x3 = some res), W p l e ({ frames := 0, cells := 0, slots := 0, locals := 0 } : Room) s m args below meth c H locs 0 0 (MQ below (e_Qv D cA B res) args s 0 0 (e_A B)) (F0 m 49 ls []) := ih
    generalize hkk : s6_linesPut_l49 f = k49 at hk49
    rw [s6_linesPut_l49] at hsh
    rw [hkk] at hsh
    try dsimp only at hsh
    refine lv_iload_n hx hb dX6_linesPut_49 rfl (hl.at 3 rfl) ?_
    refine e_aload_n (B := B) (x := x0) hx hb dX6_linesPut_50 rfl (hl.at 0 rfl) ?_
    obtain ⟨v51, h51, hsh⟩ := Option.bind_eq_some_iff.mp hsh
    refine e_getI (k := 6) hx hb hts in_X6 hown hp h51 rfl (by decide) (by decide) rfl (hts _ kf6_31) rfl dX6_linesPut_51 ?_
    refine e_icmp_ge (tgt := 93) hx hb dX6_linesPut_54 (by decide) (fun c54 => ?_) (fun c54 => ?_)
    · rw [if_pos c54] at hsh
      refine lv_iconst (v := iI (0)) hx hb dX6_linesPut_93 rfl ?_
      refine e_istore_n (lv' := [(3, .int (iI (0))), (0, e_rv B (x0)), (1, .int (iI (x1))), (2, .int (iI (x2)))]) hx hb dX6_linesPut_94 rfl hl (by decide) rfl (fun ls hl => ?_)
      exact w6_linesPut_l95 E 1000000 hp hS (hl.sub [1, 2, 3, 0] rfl) hsh
    · rw [if_neg c54] at hsh
      refine e_aload_n (B := B) (x := x0) hx hb dX6_linesPut_57 rfl (hl.at 0 rfl) ?_
      obtain ⟨v58, h58, hsh⟩ := Option.bind_eq_some_iff.mp hsh
      refine e_getR (k := 5) hx hb hts in_X6 hown hp h58 rfl (by decide) (by decide) rfl (hts _ kf6_28) rfl dX6_linesPut_58 ?_
      refine lv_iload_n hx hb dX6_linesPut_61 rfl (hl.at 3 rfl) ?_
      refine lv_dup2_11 hx hb dX6_linesPut_62 rfl (e_rv_cat _ _) ?_
      obtain ⟨v63, h63, hsh⟩ := Option.bind_eq_some_iff.mp hsh
      refine e_iald hx hb hp h63 dX6_linesPut_63 ?_
      refine e_aload_n (B := B) (x := x0) hx hb dX6_linesPut_64 rfl (hl.at 0 rfl) ?_
      obtain ⟨v65, h65, hsh⟩ := Option.bind_eq_some_iff.mp hsh
      refine e_getR (k := 5) hx hb hts in_X6 hown hp h65 rfl (by decide) (by decide) rfl (hts _ kf6_28) rfl dX6_linesPut_65 ?_
      refine lv_iload_n hx hb dX6_linesPut_68 rfl (hl.at 3 rfl) ?_
      obtain ⟨v69, h69, hsh⟩ := Option.bind_eq_some_iff.mp hsh
      refine e_iald hx hb hp h69 dX6_linesPut_69 ?_
      refine lv_iload_n hx hb dX6_linesPut_70 rfl (hl.at 1 rfl) ?_
      refine lv_bipush (v := iI (100)) hx hb dX6_linesPut_71 (by decide +kernel) ?_
      refine e_imul hx hb dX6_linesPut_73 ?_
      refine e_icmp_lt (tgt := 84) hx hb dX6_linesPut_74 (by decide) (fun c74 => ?_) (fun c74 => ?_)
      · rw [if_pos c74] at hsh
        refine lv_iconst (v := iI (0)) hx hb dX6_linesPut_84 rfl ?_
        exact w6_linesPut_b85 (hk49 := hk49) E hp hS (hl.sub [0, 1, 2, 3] rfl) hsh
      · rw [if_neg c74] at hsh
        refine lv_iload_n hx hb dX6_linesPut_77 rfl (hl.at 2 rfl) ?_
        refine lv_bipush (v := iI (100)) hx hb dX6_linesPut_78 (by decide +kernel) ?_
        refine e_imul hx hb dX6_linesPut_80 ?_
        refine lv_goto (tgt := 85) hx hb dX6_linesPut_81 (by decide) ?_
        exact w6_linesPut_b85 (hk49 := hk49) E hp hS (hl.sub [0, 1, 2, 3] rfl) hsh
set_option maxRecDepth 100000 in
set_option maxHeartbeats 4000000 in
theorem w6_linesPut_b39 {p : Program} {l : Launch} {e : Env} {s : State} {m : MethodId} {args : Array Value} {below : List Frame} {meth : Method} {c : Code} {D : va_G} {cA : Nat → ClassId} {B : Nat} {res : HP} {k2 : HP → Int → Int → Int → Int → Option (HP)} (hk2 : ∀ {ls : Array Slot} {H : Heap} {locs : List Loc} {S : HP} {x0 : Int} {x1 : Int} {x2 : Int} {x3 : Int} (hp : e_Pic D cA B S s H) (hS : va_S (e_A B) s.heap H locs) (hl : e_lo ls 4 [(0, e_rv B (x0)), (1, .int (iI (x1))), (2, .int (iI (x2))), (3, .int (iI (x3)))]) (hsh : k2 S x0 x1 x2 x3 = some res), W p l e ({ frames := 0, cells := 0, slots := 0, locals := 0 } : Room) s m args below meth c H locs 0 0 (MQ below (e_Qv D cA B res) args s 0 0 (e_A B)) (F0 m 2 ls [])) (E : e_En p s m args meth c cX6_linesPut RX6 4 none) {ls : Array Slot} {H : Heap} {locs : List Loc} {S : HP} {x0 : Int} {x1 : Int} {x2 : Int} {x3 : Int} {y0 : Int} {y1 : Int} {y2 : Int} {y3 : Int} (hp : e_Pic D cA B S s H) (hS : va_S (e_A B) s.heap H locs) (hl : e_lo ls 4 [(0, e_rv B (x0)), (1, .int (iI (x1))), (2, .int (iI (x2))), (3, .int (iI (x3)))]) (hsh : s6_linesPut_b39 k2 S x0 x1 x2 x3 y0 y1 y2 y3 = some res) : W p l e ({ frames := 0, cells := 0, slots := 0, locals := 0 } : Room) s m args below meth c H locs 0 0 (MQ below (e_Qv D cA B res) args s 0 0 (e_A B)) (F0 m 39 ls [.int (iI (y3)), .int (iI (y2)), .int (iI (y1)), e_rv B (y0)]) := by
  obtain ⟨hx, hb, hml, hown, hts, hlk, hrt⟩ := id E
  unfold s6_linesPut_b39 at hsh
  refine e_iadd hx hb dX6_linesPut_39 ?_
  obtain ⟨S40, h40, hsh⟩ := Option.bind_eq_some_iff.mp hsh
  refine e_iast hx hb hp hS h40 dX6_linesPut_40 (fun H locs hp hS => ?_)
  refine e_iinc (n := 1) (x := x3) (lv' := [(3, .int (iI ((x3 + 1)))), (0, e_rv B (x0)), (1, .int (iI (x1))), (2, .int (iI (x2)))]) hx hb dX6_linesPut_41 hl (k := 3) rfl (by decide) rfl (fun ls hl => ?_)
  refine lv_goto (tgt := 2) hx hb dX6_linesPut_44 (by decide) ?_
  exact hk2 hp hS (hl.sub [1, 2, 3, 0] rfl) hsh
set_option maxRecDepth 100000 in
set_option maxHeartbeats 4000000 in
theorem w6_linesPut_l2 {p : Program} {l : Launch} {e : Env} {s : State} {m : MethodId} {args : Array Value} {below : List Frame} {meth : Method} {c : Code} {D : va_G} {cA : Nat → ClassId} {B : Nat} {res : HP} (E : e_En p s m args meth c cX6_linesPut RX6 4 none) : ∀ (f : Nat) {ls : Array Slot} {H : Heap} {locs : List Loc} {S : HP} {x0 : Int} {x1 : Int} {x2 : Int} {x3 : Int} (hp : e_Pic D cA B S s H) (hS : va_S (e_A B) s.heap H locs) (hl : e_lo ls 4 [(0, e_rv B (x0)), (1, .int (iI (x1))), (2, .int (iI (x2))), (3, .int (iI (x3)))]) (hsh : s6_linesPut_l2 f S x0 x1 x2 x3 = some res), W p l e ({ frames := 0, cells := 0, slots := 0, locals := 0 } : Room) s m args below meth c H locs 0 0 (MQ below (e_Qv D cA B res) args s 0 0 (e_A B)) (F0 m 2 ls []) := by
  obtain ⟨hx, hb, hml, hown, hts, hlk, hrt⟩ := id E
  intro f
  induction f with
  | zero => intro ls H locs S x0 x1 x2 x3 hp hS hl hsh; cases hsh
  | succ f ih =>
    intro ls H locs S x0 x1 x2 x3 hp hS hl hsh
    have hk2 : ∀ {ls : Array Slot} {H : Heap} {locs : List Loc} {S : HP} {x0 : Int} {x1 : Int} {x2 : Int} {x3 : Int} (hp : e_Pic D cA B S s H) (hS : va_S (e_A B) s.heap H locs) (hl : e_lo ls 4 [(0, e_rv B (x0)), (1, .int (iI (x1))), (2, .int (iI (x2))), (3, .int (iI (x3)))]) (hsh : (s6_linesPut_l2 f) S x0 x1 x2 x3 = some res), W p l e ({ frames := 0, cells := 0, slots := 0, locals := 0 } : Room) s m args below meth c H locs 0 0 (MQ below (e_Qv D cA B res) args s 0 0 (e_A B)) (F0 m 2 ls []) := ih
    generalize hkk : s6_linesPut_l2 f = k2 at hk2
    rw [s6_linesPut_l2] at hsh
    rw [hkk] at hsh
    try dsimp only at hsh
    refine lv_iload_n hx hb dX6_linesPut_2 rfl (hl.at 3 rfl) ?_
    refine e_aload_n (B := B) (x := x0) hx hb dX6_linesPut_3 rfl (hl.at 0 rfl) ?_
    obtain ⟨v4, h4, hsh⟩ := Option.bind_eq_some_iff.mp hsh
    refine e_getR (k := 4) hx hb hts in_X6 hown hp h4 rfl (by decide) (by decide) rfl (hts _ kf6_24) rfl dX6_linesPut_4 ?_
    obtain ⟨v7, h7, hsh⟩ := Option.bind_eq_some_iff.mp hsh
    refine e_alen (t := 101) (t0 := 1) hx hb hp h7 (by decide) rfl dX6_linesPut_7 ?_
    refine e_icmp_ge (tgt := 47) hx hb dX6_linesPut_8 (by decide) (fun c8 => ?_) (fun c8 => ?_)
    · rw [if_pos c8] at hsh
      refine lv_iconst (v := iI (0)) hx hb dX6_linesPut_47 rfl ?_
      refine e_istore_n (lv' := [(3, .int (iI (0))), (0, e_rv B (x0)), (1, .int (iI (x1))), (2, .int (iI (x2)))]) hx hb dX6_linesPut_48 rfl hl (by decide) rfl (fun ls hl => ?_)
      exact w6_linesPut_l49 E 1000000 hp hS (hl.sub [1, 2, 3, 0] rfl) hsh
    · rw [if_neg c8] at hsh
      refine e_aload_n (B := B) (x := x0) hx hb dX6_linesPut_11 rfl (hl.at 0 rfl) ?_
      obtain ⟨v12, h12, hsh⟩ := Option.bind_eq_some_iff.mp hsh
      refine e_getR (k := 4) hx hb hts in_X6 hown hp h12 rfl (by decide) (by decide) rfl (hts _ kf6_24) rfl dX6_linesPut_12 ?_
      refine lv_iload_n hx hb dX6_linesPut_15 rfl (hl.at 3 rfl) ?_
      refine lv_dup2_11 hx hb dX6_linesPut_16 rfl (e_rv_cat _ _) ?_
      obtain ⟨v17, h17, hsh⟩ := Option.bind_eq_some_iff.mp hsh
      refine e_iald hx hb hp h17 dX6_linesPut_17 ?_
      refine e_aload_n (B := B) (x := x0) hx hb dX6_linesPut_18 rfl (hl.at 0 rfl) ?_
      obtain ⟨v19, h19, hsh⟩ := Option.bind_eq_some_iff.mp hsh
      refine e_getR (k := 4) hx hb hts in_X6 hown hp h19 rfl (by decide) (by decide) rfl (hts _ kf6_24) rfl dX6_linesPut_19 ?_
      refine lv_iload_n hx hb dX6_linesPut_22 rfl (hl.at 3 rfl) ?_
      obtain ⟨v23, h23, hsh⟩ := Option.bind_eq_some_iff.mp hsh
      refine e_iald hx hb hp h23 dX6_linesPut_23 ?_
      refine lv_iload_n hx hb dX6_linesPut_24 rfl (hl.at 1 rfl) ?_
      refine lv_bipush (v := iI (100)) hx hb dX6_linesPut_25 (by decide +kernel) ?_
      refine e_imul hx hb dX6_linesPut_27 ?_
      refine e_icmp_lt (tgt := 38) hx hb dX6_linesPut_28 (by decide) (fun c28 => ?_) (fun c28 => ?_)
      · rw [if_pos c28] at hsh
        refine lv_iconst (v := iI (0)) hx hb dX6_linesPut_38 rfl ?_
        exact w6_linesPut_b39 (hk2 := hk2) E hp hS (hl.sub [0, 1, 2, 3] rfl) hsh
      · rw [if_neg c28] at hsh
        refine lv_iload_n hx hb dX6_linesPut_31 rfl (hl.at 2 rfl) ?_
        refine lv_bipush (v := iI (100)) hx hb dX6_linesPut_32 (by decide +kernel) ?_
        refine e_imul hx hb dX6_linesPut_34 ?_
        refine lv_goto (tgt := 39) hx hb dX6_linesPut_35 (by decide) ?_
        exact w6_linesPut_b39 (hk2 := hk2) E hp hS (hl.sub [0, 1, 2, 3] rfl) hsh
set_option maxRecDepth 100000 in
set_option maxHeartbeats 4000000 in
theorem c6_linesPut (l : Launch) (D : va_G) (cA : Nat → ClassId) (B : Nat) (S S' : HP) (x0 : Int) (x1 : Int) (x2 : Int) (hsh : s6_linesPut S x0 x1 x2 = some S') : Met l yX6_linesPut (e_wu yX6_linesPut cX6_linesPut 4 none) ({ frames := 0, cells := 0, slots := 0, locals := 0 } : Room) (va_Pc [e_rv B (x0), .int (iI (x1)), .int (iI (x2))] (fun U => e_PU D cA B S U)) (e_Qv D cA B S') 0 0 (e_A B) := by
  refine Met.ofW (cc := cX6_linesPut) (maxL := 4) (ret := none) (by decide +kernel) rfl ?_
  intro p e s m args below meth c s₁ Bd hml hv
  obtain ⟨rfl, hp⟩ := hv
  have hp : e_Pic D cA B S s s.heap := hp
  have hx := Bd.exec
  have hb := Bd.bytes
  have hrt := Bd.returns
  have hlk := Bd.notSynchronized
  have hown : s.vm.findClass RX6 = some m.cls := findClass_of_methodNamed Bd.named
  have hts : ∀ w ∈ e_tb, w.before ([e_rv B (x0), .int (iI (x1)), .int (iI (x2))] : List Value).toArray s = true := fun w h => atoms_spec (ws := (e_wu yX6_linesPut cX6_linesPut 4 none)) Bd.pre w (List.mem_cons_of_mem _ h)
  have E : e_En p s m ([e_rv B (x0), .int (iI (x1)), .int (iI (x2))] : List Value).toArray meth c cX6_linesPut RX6 4 none := ⟨hx, hb, hml, hown, hts, hlk, hrt⟩
  have hS : va_S (e_A B) s.heap s.heap [] := va_S.rf
  have hl := e_entry (vs := [e_rv B (x0), .int (iI (x1)), .int (iI (x2))]) (n := 4) (Nat.le_of_ble_eq_true rfl) (e_cc (e_rv_cat _ _) (e_cc rfl (e_cc rfl e_cn)))
  rw [lg_entry_eq]
  generalize (lg_sl [e_rv B (x0), .int (iI (x1)), .int (iI (x2))] ++ List.replicate (4 - (lg_sl [e_rv B (x0), .int (iI (x1)), .int (iI (x2))]).length) Slot.unset).toArray = ls at hl ⊢
  generalize ([e_rv B (x0), .int (iI (x1)), .int (iI (x2))] : List Value).toArray = args at hts E ⊢
  have hl : e_lo ls 4 [(0, e_rv B (x0)), (1, .int (iI (x1))), (2, .int (iI (x2)))] := hl
  have hsh := (gd_some hsh).2
  refine lv_iconst (v := iI (0)) hx hb dX6_linesPut_0 rfl ?_
  refine e_istore_n (lv' := [(3, .int (iI (0))), (0, e_rv B (x0)), (1, .int (iI (x1))), (2, .int (iI (x2)))]) hx hb dX6_linesPut_1 rfl hl (by decide) rfl (fun ls hl => ?_)
  exact w6_linesPut_l2 E 1000000 hp hS (hl.sub [1, 2, 3, 0] rfl) hsh
theorem ok6_linesGone {S : HP} {x0 : Int} {x1 : Int} {x2 : Int} {x3 : Int} {r : HP} (h : s6_linesGone S x0 x1 x2 x3 = some r) : 0 ≤ x0 ∧ x0.toNat < e_n S ∧ e_g S x0.toNat = 6 := (gd_some h).1
set_option maxRecDepth 100000 in
set_option maxHeartbeats 4000000 in
theorem w6_linesGone_b470 {p : Program} {l : Launch} {e : Env} {s : State} {m : MethodId} {args : Array Value} {below : List Frame} {meth : Method} {c : Code} {D : va_G} {cA : Nat → ClassId} {B : Nat} {res : HP} {k345 : HP → Int → Int → Int → Int → Int → Option (HP)} (hk345 : ∀ {ls : Array Slot} {H : Heap} {locs : List Loc} {S : HP} {x0 : Int} {x1 : Int} {x2 : Int} {x6 : Int} {x8 : Int} (hp : e_Pic D cA B S s H) (hS : va_S (e_A B) s.heap H locs) (hl : e_lo ls 11 [(0, e_rv B (x0)), (1, .int (iI (x1))), (2, .int (iI (x2))), (6, .int (iI (x6))), (8, .int (iI (x8)))]) (hsh : k345 S x0 x1 x2 x6 x8 = some res), W p l e ({ frames := 1, cells := 0, slots := 0, locals := 21 } : Room) s m args below meth c H locs 0 0 (MQ below (e_Qv D cA B res) args s 0 0 (e_A B)) (F0 m 345 ls [])) (E : e_En p s m args meth c cX6_linesGone RX6 11 none) {ls : Array Slot} {H : Heap} {locs : List Loc} {S : HP} {x0 : Int} {x1 : Int} {x2 : Int} {x6 : Int} {x8 : Int} (hp : e_Pic D cA B S s H) (hS : va_S (e_A B) s.heap H locs) (hl : e_lo ls 11 [(0, e_rv B (x0)), (1, .int (iI (x1))), (2, .int (iI (x2))), (6, .int (iI (x6))), (8, .int (iI (x8)))]) (hsh : s6_linesGone_b470 k345 S x0 x1 x2 x6 x8 = some res) : W p l e ({ frames := 1, cells := 0, slots := 0, locals := 21 } : Room) s m args below meth c H locs 0 0 (MQ below (e_Qv D cA B res) args s 0 0 (e_A B)) (F0 m 470 ls []) := by
  obtain ⟨hx, hb, hml, hown, hts, hlk, hrt⟩ := id E
  unfold s6_linesGone_b470 at hsh
  refine e_iinc (n := 1) (x := x8) (lv' := [(8, .int (iI ((x8 + 1)))), (0, e_rv B (x0)), (1, .int (iI (x1))), (2, .int (iI (x2))), (6, .int (iI (x6)))]) hx hb dX6_linesGone_470 hl (k := 4) rfl (by decide) rfl (fun ls hl => ?_)
  refine lv_goto (tgt := 345) hx hb dX6_linesGone_473 (by decide) ?_
  exact hk345 hp hS (hl.sub [1, 2, 3, 4, 0] rfl) hsh
set_option maxRecDepth 100000 in
set_option maxHeartbeats 4000000 in
theorem w6_linesGone_b426 {p : Program} {l : Launch} {e : Env} {s : State} {m : MethodId} {args : Array Value} {below : List Frame} {meth : Method} {c : Code} {D : va_G} {cA : Nat → ClassId} {B : Nat} {res : HP} {k345 : HP → Int → Int → Int → Int → Int → Option (HP)} (hk345 : ∀ {ls : Array Slot} {H : Heap} {locs : List Loc} {S : HP} {x0 : Int} {x1 : Int} {x2 : Int} {x6 : Int} {x8 : Int} (hp : e_Pic D cA B S s H) (hS : va_S (e_A B) s.heap H locs) (hl : e_lo ls 11 [(0, e_rv B (x0)), (1, .int (iI (x1))), (2, .int (iI (x2))), (6, .int (iI (x6))), (8, .int (iI (x8)))]) (hsh : k345 S x0 x1 x2 x6 x8 = some res), W p l e ({ frames := 1, cells := 0, slots := 0, locals := 21 } : Room) s m args below meth c H locs 0 0 (MQ below (e_Qv D cA B res) args s 0 0 (e_A B)) (F0 m 345 ls [])) (E : e_En p s m args meth c cX6_linesGone RX6 11 none) {ls : Array Slot} {H : Heap} {locs : List Loc} {S : HP} {x0 : Int} {x1 : Int} {x2 : Int} {x6 : Int} {x8 : Int} {x9 : Int} {y0 : Int} (hp : e_Pic D cA B S s H) (hS : va_S (e_A B) s.heap H locs) (hl : e_lo ls 11 [(0, e_rv B (x0)), (1, .int (iI (x1))), (2, .int (iI (x2))), (6, .int (iI (x6))), (8, .int (iI (x8))), (9, .int (iI (x9)))]) (hsh : s6_linesGone_b426 k345 S x0 x1 x2 x6 x8 x9 y0 = some res) : W p l e ({ frames := 1, cells := 0, slots := 0, locals := 21 } : Room) s m args below meth c H locs 0 0 (MQ below (e_Qv D cA B res) args s 0 0 (e_A B)) (F0 m 426 ls [.int (iI (y0))]) := by
  obtain ⟨hx, hb, hml, hown, hts, hlk, hrt⟩ := id E
  unfold s6_linesGone_b426 at hsh
  refine e_istore (lv' := [(10, .int (iI (y0))), (0, e_rv B (x0)), (1, .int (iI (x1))), (2, .int (iI (x2))), (6, .int (iI (x6))), (8, .int (iI (x8))), (9, .int (iI (x9)))]) hx hb dX6_linesGone_426 hl (by decide) rfl (fun ls hl => ?_)
  refine lv_iload hx hb dX6_linesGone_428 (hl.at 6 rfl) ?_
  refine lv_iload hx hb dX6_linesGone_430 (hl.at 0 rfl) ?_
  refine e_icmp_ge (tgt := 470) hx hb dX6_linesGone_432 (by decide) (fun c432 => ?_) (fun c432 => ?_)
  · rw [if_pos c432] at hsh
    exact w6_linesGone_b470 (hk345 := hk345) E hp hS (hl.sub [1, 2, 3, 4, 5] rfl) hsh
  · rw [if_neg c432] at hsh
    refine e_aload_n (B := B) (x := x0) hx hb dX6_linesGone_435 rfl (hl.at 1 rfl) ?_
    obtain ⟨v436, h436, hsh⟩ := Option.bind_eq_some_iff.mp hsh
    refine e_getR (k := 12) hx hb hts in_X6 hown hp h436 rfl (by decide) (by decide) rfl (hts _ kf6_49) rfl dX6_linesGone_436 ?_
    refine lv_iload hx hb dX6_linesGone_439 (hl.at 4 rfl) ?_
    refine lv_iload hx hb dX6_linesGone_441 (hl.at 6 rfl) ?_
    obtain ⟨S443, h443, hsh⟩ := Option.bind_eq_some_iff.mp hsh
    refine e_iast hx hb hp hS h443 dX6_linesGone_443 (fun H locs hp hS => ?_)
    refine e_aload_n (B := B) (x := x0) hx hb dX6_linesGone_444 rfl (hl.at 1 rfl) ?_
    obtain ⟨v445, h445, hsh⟩ := Option.bind_eq_some_iff.mp hsh
    refine e_getR (k := 13) hx hb hts in_X6 hown hp h445 rfl (by decide) (by decide) rfl (hts _ kf6_52) rfl dX6_linesGone_445 ?_
    refine lv_iload hx hb dX6_linesGone_448 (hl.at 4 rfl) ?_
    refine lv_iload hx hb dX6_linesGone_450 (hl.at 0 rfl) ?_
    obtain ⟨S452, h452, hsh⟩ := Option.bind_eq_some_iff.mp hsh
    refine e_iast hx hb hp hS h452 dX6_linesGone_452 (fun H locs hp hS => ?_)
    refine e_aload_n (B := B) (x := x0) hx hb dX6_linesGone_453 rfl (hl.at 1 rfl) ?_
    obtain ⟨v454, h454, hsh⟩ := Option.bind_eq_some_iff.mp hsh
    refine e_getR (k := 14) hx hb hts in_X6 hown hp h454 rfl (by decide) (by decide) rfl (hts _ kf6_55) rfl dX6_linesGone_454 ?_
    refine lv_iload hx hb dX6_linesGone_457 (hl.at 4 rfl) ?_
    refine e_aload_n (B := B) (x := x0) hx hb dX6_linesGone_459 rfl (hl.at 1 rfl) ?_
    obtain ⟨v460, h460, hsh⟩ := Option.bind_eq_some_iff.mp hsh
    refine e_getR (k := 14) hx hb hts in_X6 hown hp h460 rfl (by decide) (by decide) rfl (hts _ kf6_55) rfl dX6_linesGone_460 ?_
    refine lv_iload hx hb dX6_linesGone_463 (hl.at 5 rfl) ?_
    obtain ⟨v465, h465, hsh⟩ := Option.bind_eq_some_iff.mp hsh
    refine e_bald hx hb hp h465 dX6_linesGone_465 ?_
    obtain ⟨S466, h466, hsh⟩ := Option.bind_eq_some_iff.mp hsh
    refine e_bast hx hb hp hS h466 dX6_linesGone_466 (fun H locs hp hS => ?_)
    refine e_iinc (n := 1) (x := x6) (lv' := [(6, .int (iI ((x6 + 1)))), (10, .int (iI (y0))), (0, e_rv B (x0)), (1, .int (iI (x1))), (2, .int (iI (x2))), (8, .int (iI (x8))), (9, .int (iI (x9)))]) hx hb dX6_linesGone_467 hl (k := 4) rfl (by decide) rfl (fun ls hl => ?_)
    exact w6_linesGone_b470 (hk345 := hk345) E hp hS (hl.sub [2, 3, 4, 0, 5] rfl) hsh
set_option maxRecDepth 100000 in
set_option maxHeartbeats 4000000 in
theorem w6_linesGone_b388 {p : Program} {l : Launch} {e : Env} {s : State} {m : MethodId} {args : Array Value} {below : List Frame} {meth : Method} {c : Code} {D : va_G} {cA : Nat → ClassId} {B : Nat} {res : HP} {k345 : HP → Int → Int → Int → Int → Int → Option (HP)} (hk345 : ∀ {ls : Array Slot} {H : Heap} {locs : List Loc} {S : HP} {x0 : Int} {x1 : Int} {x2 : Int} {x6 : Int} {x8 : Int} (hp : e_Pic D cA B S s H) (hS : va_S (e_A B) s.heap H locs) (hl : e_lo ls 11 [(0, e_rv B (x0)), (1, .int (iI (x1))), (2, .int (iI (x2))), (6, .int (iI (x6))), (8, .int (iI (x8)))]) (hsh : k345 S x0 x1 x2 x6 x8 = some res), W p l e ({ frames := 1, cells := 0, slots := 0, locals := 21 } : Room) s m args below meth c H locs 0 0 (MQ below (e_Qv D cA B res) args s 0 0 (e_A B)) (F0 m 345 ls [])) (E : e_En p s m args meth c cX6_linesGone RX6 11 none) {ls : Array Slot} {H : Heap} {locs : List Loc} {S : HP} {x0 : Int} {x1 : Int} {x2 : Int} {x6 : Int} {x8 : Int} {y0 : Int} (hp : e_Pic D cA B S s H) (hS : va_S (e_A B) s.heap H locs) (hl : e_lo ls 11 [(0, e_rv B (x0)), (1, .int (iI (x1))), (2, .int (iI (x2))), (6, .int (iI (x6))), (8, .int (iI (x8)))]) (hsh : s6_linesGone_b388 k345 S x0 x1 x2 x6 x8 y0 = some res) : W p l e ({ frames := 1, cells := 0, slots := 0, locals := 21 } : Room) s m args below meth c H locs 0 0 (MQ below (e_Qv D cA B res) args s 0 0 (e_A B)) (F0 m 388 ls [.int (iI (y0))]) := by
  obtain ⟨hx, hb, hml, hown, hts, hlk, hrt⟩ := id E
  unfold s6_linesGone_b388 at hsh
  refine e_istore (lv' := [(9, .int (iI (y0))), (0, e_rv B (x0)), (1, .int (iI (x1))), (2, .int (iI (x2))), (6, .int (iI (x6))), (8, .int (iI (x8)))]) hx hb dX6_linesGone_388 hl (by decide) rfl (fun ls hl => ?_)
  refine e_aload_n (B := B) (x := x0) hx hb dX6_linesGone_390 rfl (hl.at 1 rfl) ?_
  obtain ⟨v391, h391, hsh⟩ := Option.bind_eq_some_iff.mp hsh
  refine e_getR (k := 13) hx hb hts in_X6 hown hp h391 rfl (by decide) (by decide) rfl (hts _ kf6_52) rfl dX6_linesGone_391 ?_
  refine lv_iload hx hb dX6_linesGone_394 (hl.at 5 rfl) ?_
  obtain ⟨v396, h396, hsh⟩ := Option.bind_eq_some_iff.mp hsh
  refine e_iald hx hb hp h396 dX6_linesGone_396 ?_
  refine lv_iload_n hx hb dX6_linesGone_397 rfl (hl.at 2 rfl) ?_
  refine e_icmp_ge (tgt := 411) hx hb dX6_linesGone_398 (by decide) (fun c398 => ?_) (fun c398 => ?_)
  · rw [if_pos c398] at hsh
    refine lv_iload_n hx hb dX6_linesGone_411 rfl (hl.at 2 rfl) ?_
    refine lv_iconst (v := iI (1)) hx hb dX6_linesGone_412 rfl ?_
    refine e_isub hx hb dX6_linesGone_413 ?_
    refine e_aload_n (B := B) (x := x0) hx hb dX6_linesGone_414 rfl (hl.at 1 rfl) ?_
    obtain ⟨v415, h415, hsh⟩ := Option.bind_eq_some_iff.mp hsh
    refine e_getR (k := 13) hx hb hts in_X6 hown hp h415 rfl (by decide) (by decide) rfl (hts _ kf6_52) rfl dX6_linesGone_415 ?_
    refine lv_iload hx hb dX6_linesGone_418 (hl.at 5 rfl) ?_
    obtain ⟨v420, h420, hsh⟩ := Option.bind_eq_some_iff.mp hsh
    refine e_iald hx hb hp h420 dX6_linesGone_420 ?_
    refine lv_iload_n hx hb dX6_linesGone_421 rfl (hl.at 3 rfl) ?_
    refine e_isub hx hb dX6_linesGone_422 ?_
    refine e_max (rest := []) hx hb (hml.trans hl.size.symm) hown hts kl6_79 kM_max_s kM_i kM_max_c (Nat.le_of_ble_eq_true rfl) (Nat.le_trans (Nat.add_le_add_right (show _ ≤ 8 by simp [e_rv_cat, e_int_cat]) 13) (Nat.le_of_ble_eq_true rfl)) (Nat.le_refl _) (Nat.le_refl _) dX6_linesGone_423 ?_
    exact w6_linesGone_b426 (hk345 := hk345) E hp hS (hl.sub [1, 2, 3, 4, 5, 0] rfl) hsh
  · rw [if_neg c398] at hsh
    refine e_aload_n (B := B) (x := x0) hx hb dX6_linesGone_401 rfl (hl.at 1 rfl) ?_
    obtain ⟨v402, h402, hsh⟩ := Option.bind_eq_some_iff.mp hsh
    refine e_getR (k := 13) hx hb hts in_X6 hown hp h402 rfl (by decide) (by decide) rfl (hts _ kf6_52) rfl dX6_linesGone_402 ?_
    refine lv_iload hx hb dX6_linesGone_405 (hl.at 5 rfl) ?_
    obtain ⟨v407, h407, hsh⟩ := Option.bind_eq_some_iff.mp hsh
    refine e_iald hx hb hp h407 dX6_linesGone_407 ?_
    refine lv_goto (tgt := 426) hx hb dX6_linesGone_408 (by decide) ?_
    exact w6_linesGone_b426 (hk345 := hk345) E hp hS (hl.sub [1, 2, 3, 4, 5, 0] rfl) hsh
set_option maxRecDepth 100000 in
set_option maxHeartbeats 4000000 in
theorem w6_linesGone_l345 {p : Program} {l : Launch} {e : Env} {s : State} {m : MethodId} {args : Array Value} {below : List Frame} {meth : Method} {c : Code} {D : va_G} {cA : Nat → ClassId} {B : Nat} {res : HP} (E : e_En p s m args meth c cX6_linesGone RX6 11 none) : ∀ (f : Nat) {ls : Array Slot} {H : Heap} {locs : List Loc} {S : HP} {x0 : Int} {x1 : Int} {x2 : Int} {x6 : Int} {x8 : Int} (hp : e_Pic D cA B S s H) (hS : va_S (e_A B) s.heap H locs) (hl : e_lo ls 11 [(0, e_rv B (x0)), (1, .int (iI (x1))), (2, .int (iI (x2))), (6, .int (iI (x6))), (8, .int (iI (x8)))]) (hsh : s6_linesGone_l345 f S x0 x1 x2 x6 x8 = some res), W p l e ({ frames := 1, cells := 0, slots := 0, locals := 21 } : Room) s m args below meth c H locs 0 0 (MQ below (e_Qv D cA B res) args s 0 0 (e_A B)) (F0 m 345 ls []) := by
  obtain ⟨hx, hb, hml, hown, hts, hlk, hrt⟩ := id E
  intro f
  induction f with
  | zero => intro ls H locs S x0 x1 x2 x6 x8 hp hS hl hsh; cases hsh
  | succ f ih =>
    intro ls H locs S x0 x1 x2 x6 x8 hp hS hl hsh
    have hk345 : ∀ {ls : Array Slot} {H : Heap} {locs : List Loc} {S : HP} {x0 : Int} {x1 : Int} {x2 : Int} {x6 : Int} {x8 : Int} (hp : e_Pic D cA B S s H) (hS : va_S (e_A B) s.heap H locs) (hl : e_lo ls 11 [(0, e_rv B (x0)), (1, .int (iI (x1))), (2, .int (iI (x2))), (6, .int (iI (x6))), (8, .int (iI (x8)))]) (hsh : (s6_linesGone_l345 f) S x0 x1 x2 x6 x8 = some res), W p l e ({ frames := 1, cells := 0, slots := 0, locals := 21 } : Room) s m args below meth c H locs 0 0 (MQ below (e_Qv D cA B res) args s 0 0 (e_A B)) (F0 m 345 ls []) := ih
    generalize hkk : s6_linesGone_l345 f = k345 at hk345
    rw [s6_linesGone_l345] at hsh
    rw [hkk] at hsh
    try dsimp only at hsh
    refine lv_iload hx hb dX6_linesGone_345 (hl.at 4 rfl) ?_
    refine e_aload_n (B := B) (x := x0) hx hb dX6_linesGone_347 rfl (hl.at 0 rfl) ?_
    obtain ⟨v348, h348, hsh⟩ := Option.bind_eq_some_iff.mp hsh
    refine e_getI (k := 15) hx hb hts in_X6 hown hp h348 rfl (by decide) (by decide) rfl (hts _ kf6_59) rfl dX6_linesGone_348 ?_
    refine e_icmp_ge (tgt := 476) hx hb dX6_linesGone_351 (by decide) (fun c351 => ?_) (fun c351 => ?_)
    · rw [if_pos c351] at hsh
      refine e_aload_n (B := B) (x := x0) hx hb dX6_linesGone_476 rfl (hl.at 0 rfl) ?_
      refine lv_iload hx hb dX6_linesGone_477 (hl.at 3 rfl) ?_
      obtain ⟨S479, h479, hsh⟩ := Option.bind_eq_some_iff.mp hsh
      refine e_putI (k := 15) hx hb hts in_X6 tyX6 tyX6_ok nmX6 hown hp hS h479 rfl (by decide) (by decide) rfl (hts _ kf6_59) rfl rfl (by decide +kernel) dX6_linesGone_479 (fun H locs hp hS => ?_)
      cases hsh
      exact e_vret hx hb hrt hlk hp hS dX6_linesGone_482
    · rw [if_neg c351] at hsh
      refine e_aload_n (B := B) (x := x0) hx hb dX6_linesGone_354 rfl (hl.at 0 rfl) ?_
      obtain ⟨v355, h355, hsh⟩ := Option.bind_eq_some_iff.mp hsh
      refine e_getR (k := 12) hx hb hts in_X6 hown hp h355 rfl (by decide) (by decide) rfl (hts _ kf6_49) rfl dX6_linesGone_355 ?_
      refine lv_iload hx hb dX6_linesGone_358 (hl.at 4 rfl) ?_
      obtain ⟨v360, h360, hsh⟩ := Option.bind_eq_some_iff.mp hsh
      refine e_iald hx hb hp h360 dX6_linesGone_360 ?_
      refine lv_iload_n hx hb dX6_linesGone_361 rfl (hl.at 1 rfl) ?_
      refine e_icmp_ge (tgt := 375) hx hb dX6_linesGone_362 (by decide) (fun c362 => ?_) (fun c362 => ?_)
      · rw [if_pos c362] at hsh
        refine lv_iload_n hx hb dX6_linesGone_375 rfl (hl.at 1 rfl) ?_
        refine e_aload_n (B := B) (x := x0) hx hb dX6_linesGone_376 rfl (hl.at 0 rfl) ?_
        obtain ⟨v377, h377, hsh⟩ := Option.bind_eq_some_iff.mp hsh
        refine e_getR (k := 12) hx hb hts in_X6 hown hp h377 rfl (by decide) (by decide) rfl (hts _ kf6_49) rfl dX6_linesGone_377 ?_
        refine lv_iload hx hb dX6_linesGone_380 (hl.at 4 rfl) ?_
        obtain ⟨v382, h382, hsh⟩ := Option.bind_eq_some_iff.mp hsh
        refine e_iald hx hb hp h382 dX6_linesGone_382 ?_
        refine lv_iload_n hx hb dX6_linesGone_383 rfl (hl.at 2 rfl) ?_
        refine e_isub hx hb dX6_linesGone_384 ?_
        refine e_max (rest := []) hx hb (hml.trans hl.size.symm) hown hts kl6_79 kM_max_s kM_i kM_max_c (Nat.le_of_ble_eq_true rfl) (Nat.le_trans (Nat.add_le_add_right (show _ ≤ 8 by simp [e_rv_cat, e_int_cat]) 13) (Nat.le_of_ble_eq_true rfl)) (Nat.le_refl _) (Nat.le_refl _) dX6_linesGone_385 ?_
        exact w6_linesGone_b388 (hk345 := hk345) E hp hS (hl.sub [0, 1, 2, 3, 4] rfl) hsh
      · rw [if_neg c362] at hsh
        refine e_aload_n (B := B) (x := x0) hx hb dX6_linesGone_365 rfl (hl.at 0 rfl) ?_
        obtain ⟨v366, h366, hsh⟩ := Option.bind_eq_some_iff.mp hsh
        refine e_getR (k := 12) hx hb hts in_X6 hown hp h366 rfl (by decide) (by decide) rfl (hts _ kf6_49) rfl dX6_linesGone_366 ?_
        refine lv_iload hx hb dX6_linesGone_369 (hl.at 4 rfl) ?_
        obtain ⟨v371, h371, hsh⟩ := Option.bind_eq_some_iff.mp hsh
        refine e_iald hx hb hp h371 dX6_linesGone_371 ?_
        refine lv_goto (tgt := 388) hx hb dX6_linesGone_372 (by decide) ?_
        exact w6_linesGone_b388 (hk345 := hk345) E hp hS (hl.sub [0, 1, 2, 3, 4] rfl) hsh
set_option maxRecDepth 100000 in
set_option maxHeartbeats 4000000 in
theorem w6_linesGone_b339 {p : Program} {l : Launch} {e : Env} {s : State} {m : MethodId} {args : Array Value} {below : List Frame} {meth : Method} {c : Code} {D : va_G} {cA : Nat → ClassId} {B : Nat} {res : HP} (E : e_En p s m args meth c cX6_linesGone RX6 11 none) {ls : Array Slot} {H : Heap} {locs : List Loc} {S : HP} {x0 : Int} {x1 : Int} {x2 : Int} (hp : e_Pic D cA B S s H) (hS : va_S (e_A B) s.heap H locs) (hl : e_lo ls 11 [(0, e_rv B (x0)), (1, .int (iI (x1))), (2, .int (iI (x2)))]) (hsh : s6_linesGone_b339 S x0 x1 x2 = some res) : W p l e ({ frames := 1, cells := 0, slots := 0, locals := 21 } : Room) s m args below meth c H locs 0 0 (MQ below (e_Qv D cA B res) args s 0 0 (e_A B)) (F0 m 339 ls []) := by
  obtain ⟨hx, hb, hml, hown, hts, hlk, hrt⟩ := id E
  unfold s6_linesGone_b339 at hsh
  refine lv_iconst (v := iI (0)) hx hb dX6_linesGone_339 rfl ?_
  refine e_istore (lv' := [(6, .int (iI (0))), (0, e_rv B (x0)), (1, .int (iI (x1))), (2, .int (iI (x2)))]) hx hb dX6_linesGone_340 hl (by decide) rfl (fun ls hl => ?_)
  refine lv_iconst (v := iI (0)) hx hb dX6_linesGone_342 rfl ?_
  refine e_istore (lv' := [(8, .int (iI (0))), (6, .int (iI (0))), (0, e_rv B (x0)), (1, .int (iI (x1))), (2, .int (iI (x2)))]) hx hb dX6_linesGone_343 hl (by decide) rfl (fun ls hl => ?_)
  exact w6_linesGone_l345 E 1000000 hp hS (hl.sub [2, 3, 4, 1, 0] rfl) hsh
set_option maxRecDepth 100000 in
set_option maxHeartbeats 4000000 in
theorem w6_linesGone_b336 {p : Program} {l : Launch} {e : Env} {s : State} {m : MethodId} {args : Array Value} {below : List Frame} {meth : Method} {c : Code} {D : va_G} {cA : Nat → ClassId} {B : Nat} {res : HP} (E : e_En p s m args meth c cX6_linesGone RX6 11 none) {ls : Array Slot} {H : Heap} {locs : List Loc} {S : HP} {x0 : Int} {x1 : Int} {x2 : Int} {y0 : Int} {y1 : Int} (hp : e_Pic D cA B S s H) (hS : va_S (e_A B) s.heap H locs) (hl : e_lo ls 11 [(0, e_rv B (x0)), (1, .int (iI (x1))), (2, .int (iI (x2)))]) (hsh : s6_linesGone_b336 S x0 x1 x2 y0 y1 = some res) : W p l e ({ frames := 1, cells := 0, slots := 0, locals := 21 } : Room) s m args below meth c H locs 0 0 (MQ below (e_Qv D cA B res) args s 0 0 (e_A B)) (F0 m 336 ls [.int (iI (y1)), e_rv B (y0)]) := by
  obtain ⟨hx, hb, hml, hown, hts, hlk, hrt⟩ := id E
  unfold s6_linesGone_b336 at hsh
  obtain ⟨S336, h336, hsh⟩ := Option.bind_eq_some_iff.mp hsh
  refine e_putI (k := 10) hx hb hts in_X6 tyX6 tyX6_ok nmX6 hown hp hS h336 rfl (by decide) (by decide) rfl (hts _ kf6_43) rfl rfl (by decide +kernel) dX6_linesGone_336 (fun H locs hp hS => ?_)
  exact w6_linesGone_b339 E hp hS (hl.sub [0, 1, 2] rfl) hsh
set_option maxRecDepth 100000 in
set_option maxHeartbeats 4000000 in
theorem w6_linesGone_b280 {p : Program} {l : Launch} {e : Env} {s : State} {m : MethodId} {args : Array Value} {below : List Frame} {meth : Method} {c : Code} {D : va_G} {cA : Nat → ClassId} {B : Nat} {res : HP} {k215 : HP → Int → Int → Int → Int → Int → Int → Int → Option (HP)} (hk215 : ∀ {ls : Array Slot} {H : Heap} {locs : List Loc} {S : HP} {x0 : Int} {x1 : Int} {x2 : Int} {x3 : Int} {x4 : Int} {x5 : Int} {x8 : Int} (hp : e_Pic D cA B S s H) (hS : va_S (e_A B) s.heap H locs) (hl : e_lo ls 11 [(0, e_rv B (x0)), (1, .int (iI (x1))), (2, .int (iI (x2))), (3, .int (iI (x3))), (4, .int (iI (x4))), (5, .int (iI (x5))), (8, .int (iI (x8)))]) (hsh : k215 S x0 x1 x2 x3 x4 x5 x8 = some res), W p l e ({ frames := 1, cells := 0, slots := 0, locals := 21 } : Room) s m args below meth c H locs 0 0 (MQ below (e_Qv D cA B res) args s 0 0 (e_A B)) (F0 m 215 ls [])) (E : e_En p s m args meth c cX6_linesGone RX6 11 none) {ls : Array Slot} {H : Heap} {locs : List Loc} {S : HP} {x0 : Int} {x1 : Int} {x2 : Int} {x3 : Int} {x4 : Int} {x5 : Int} {x8 : Int} {y0 : Int} {y1 : Int} {y2 : Int} (hp : e_Pic D cA B S s H) (hS : va_S (e_A B) s.heap H locs) (hl : e_lo ls 11 [(0, e_rv B (x0)), (1, .int (iI (x1))), (2, .int (iI (x2))), (3, .int (iI (x3))), (4, .int (iI (x4))), (5, .int (iI (x5))), (8, .int (iI (x8)))]) (hsh : s6_linesGone_b280 k215 S x0 x1 x2 x3 x4 x5 x8 y0 y1 y2 = some res) : W p l e ({ frames := 1, cells := 0, slots := 0, locals := 21 } : Room) s m args below meth c H locs 0 0 (MQ below (e_Qv D cA B res) args s 0 0 (e_A B)) (F0 m 280 ls [.int (iI (y2)), .int (iI (y1)), e_rv B (y0)]) := by
  obtain ⟨hx, hb, hml, hown, hts, hlk, hrt⟩ := id E
  unfold s6_linesGone_b280 at hsh
  obtain ⟨S280, h280, hsh⟩ := Option.bind_eq_some_iff.mp hsh
  refine e_iast hx hb hp hS h280 dX6_linesGone_280 (fun H locs hp hS => ?_)
  refine e_iinc (n := 1) (x := x8) (lv' := [(8, .int (iI ((x8 + 1)))), (0, e_rv B (x0)), (1, .int (iI (x1))), (2, .int (iI (x2))), (3, .int (iI (x3))), (4, .int (iI (x4))), (5, .int (iI (x5)))]) hx hb dX6_linesGone_281 hl (k := 6) rfl (by decide) rfl (fun ls hl => ?_)
  refine lv_goto (tgt := 215) hx hb dX6_linesGone_284 (by decide) ?_
  exact hk215 hp hS (hl.sub [1, 2, 3, 4, 5, 6, 0] rfl) hsh
set_option maxRecDepth 100000 in
set_option maxHeartbeats 4000000 in
theorem w6_linesGone_l215 {p : Program} {l : Launch} {e : Env} {s : State} {m : MethodId} {args : Array Value} {below : List Frame} {meth : Method} {c : Code} {D : va_G} {cA : Nat → ClassId} {B : Nat} {res : HP} (E : e_En p s m args meth c cX6_linesGone RX6 11 none) : ∀ (f : Nat) {ls : Array Slot} {H : Heap} {locs : List Loc} {S : HP} {x0 : Int} {x1 : Int} {x2 : Int} {x3 : Int} {x4 : Int} {x5 : Int} {x8 : Int} (hp : e_Pic D cA B S s H) (hS : va_S (e_A B) s.heap H locs) (hl : e_lo ls 11 [(0, e_rv B (x0)), (1, .int (iI (x1))), (2, .int (iI (x2))), (3, .int (iI (x3))), (4, .int (iI (x4))), (5, .int (iI (x5))), (8, .int (iI (x8)))]) (hsh : s6_linesGone_l215 f S x0 x1 x2 x3 x4 x5 x8 = some res), W p l e ({ frames := 1, cells := 0, slots := 0, locals := 21 } : Room) s m args below meth c H locs 0 0 (MQ below (e_Qv D cA B res) args s 0 0 (e_A B)) (F0 m 215 ls []) := by
  obtain ⟨hx, hb, hml, hown, hts, hlk, hrt⟩ := id E
  intro f
  induction f with
  | zero => intro ls H locs S x0 x1 x2 x3 x4 x5 x8 hp hS hl hsh; cases hsh
  | succ f ih =>
    intro ls H locs S x0 x1 x2 x3 x4 x5 x8 hp hS hl hsh
    have hk215 : ∀ {ls : Array Slot} {H : Heap} {locs : List Loc} {S : HP} {x0 : Int} {x1 : Int} {x2 : Int} {x3 : Int} {x4 : Int} {x5 : Int} {x8 : Int} (hp : e_Pic D cA B S s H) (hS : va_S (e_A B) s.heap H locs) (hl : e_lo ls 11 [(0, e_rv B (x0)), (1, .int (iI (x1))), (2, .int (iI (x2))), (3, .int (iI (x3))), (4, .int (iI (x4))), (5, .int (iI (x5))), (8, .int (iI (x8)))]) (hsh : (s6_linesGone_l215 f) S x0 x1 x2 x3 x4 x5 x8 = some res), W p l e ({ frames := 1, cells := 0, slots := 0, locals := 21 } : Room) s m args below meth c H locs 0 0 (MQ below (e_Qv D cA B res) args s 0 0 (e_A B)) (F0 m 215 ls []) := ih
    generalize hkk : s6_linesGone_l215 f = k215 at hk215
    rw [s6_linesGone_l215] at hsh
    rw [hkk] at hsh
    try dsimp only at hsh
    refine lv_iload hx hb dX6_linesGone_215 (hl.at 6 rfl) ?_
    refine e_aload_n (B := B) (x := x0) hx hb dX6_linesGone_217 rfl (hl.at 0 rfl) ?_
    obtain ⟨v218, h218, hsh⟩ := Option.bind_eq_some_iff.mp hsh
    refine e_getI (k := 9) hx hb hts in_X6 hown hp h218 rfl (by decide) (by decide) rfl (hts _ kf6_40) rfl dX6_linesGone_218 ?_
    refine e_icmp_ge (tgt := 287) hx hb dX6_linesGone_221 (by decide) (fun c221 => ?_) (fun c221 => ?_)
    · rw [if_pos c221] at hsh
      refine e_aload_n (B := B) (x := x0) hx hb dX6_linesGone_287 rfl (hl.at 0 rfl) ?_
      obtain ⟨v288, h288, hsh⟩ := Option.bind_eq_some_iff.mp hsh
      refine e_getI (k := 10) hx hb hts in_X6 hown hp h288 rfl (by decide) (by decide) rfl (hts _ kf6_43) rfl dX6_linesGone_288 ?_
      refine lv_iload hx hb dX6_linesGone_291 (hl.at 4 rfl) ?_
      refine e_icmp_lt (tgt := 339) hx hb dX6_linesGone_293 (by decide) (fun c293 => ?_) (fun c293 => ?_)
      · rw [if_pos c293] at hsh
        exact w6_linesGone_b339 E hp hS (hl.sub [0, 1, 2] rfl) hsh
      · rw [if_neg c293] at hsh
        refine e_aload_n (B := B) (x := x0) hx hb dX6_linesGone_296 rfl (hl.at 0 rfl) ?_
        refine e_aload_n (B := B) (x := x0) hx hb dX6_linesGone_297 rfl (hl.at 0 rfl) ?_
        obtain ⟨v298, h298, hsh⟩ := Option.bind_eq_some_iff.mp hsh
        refine e_getI (k := 10) hx hb hts in_X6 hown hp h298 rfl (by decide) (by decide) rfl (hts _ kf6_43) rfl dX6_linesGone_298 ?_
        refine lv_iload hx hb dX6_linesGone_301 (hl.at 5 rfl) ?_
        refine e_icmp_ge (tgt := 327) hx hb dX6_linesGone_303 (by decide) (fun c303 => ?_) (fun c303 => ?_)
        · rw [if_pos c303] at hsh
          refine e_aload_n (B := B) (x := x0) hx hb dX6_linesGone_327 rfl (hl.at 0 rfl) ?_
          obtain ⟨v328, h328, hsh⟩ := Option.bind_eq_some_iff.mp hsh
          refine e_getI (k := 10) hx hb hts in_X6 hown hp h328 rfl (by decide) (by decide) rfl (hts _ kf6_43) rfl dX6_linesGone_328 ?_
          refine lv_iload_n hx hb dX6_linesGone_331 rfl (hl.at 2 rfl) ?_
          refine lv_bipush (v := iI (100)) hx hb dX6_linesGone_332 (by decide +kernel) ?_
          refine e_imul hx hb dX6_linesGone_334 ?_
          refine e_isub hx hb dX6_linesGone_335 ?_
          exact w6_linesGone_b336 E hp hS (hl.sub [0, 1, 2] rfl) hsh
        · rw [if_neg c303] at hsh
          refine lv_iload_n hx hb dX6_linesGone_306 rfl (hl.at 1 rfl) ?_
          refine lv_iload_n hx hb dX6_linesGone_307 rfl (hl.at 3 rfl) ?_
          refine lv_iconst (v := iI (1)) hx hb dX6_linesGone_308 rfl ?_
          refine e_isub hx hb dX6_linesGone_309 ?_
          refine e_min (rest := [e_rv B (x0)]) hx hb (hml.trans hl.size.symm) hown hts kl6_73 kM_min_s kM_i kM_min_c (Nat.le_of_ble_eq_true rfl) (Nat.le_trans (Nat.add_le_add_right (show _ ≤ 8 by simp [e_rv_cat, e_int_cat]) 13) (Nat.le_of_ble_eq_true rfl)) (Nat.le_refl _) (Nat.le_refl _) dX6_linesGone_310 ?_
          refine lv_bipush (v := iI (100)) hx hb dX6_linesGone_313 (by decide +kernel) ?_
          refine e_imul hx hb dX6_linesGone_315 ?_
          refine e_aload_n (B := B) (x := x0) hx hb dX6_linesGone_316 rfl (hl.at 0 rfl) ?_
          obtain ⟨v317, h317, hsh⟩ := Option.bind_eq_some_iff.mp hsh
          refine e_getI (k := 10) hx hb hts in_X6 hown hp h317 rfl (by decide) (by decide) rfl (hts _ kf6_43) rfl dX6_linesGone_317 ?_
          refine lv_bipush (v := iI (100)) hx hb dX6_linesGone_320 (by decide +kernel) ?_
          obtain ⟨v322, h322, hsh⟩ := Option.bind_eq_some_iff.mp hsh
          refine e_irem hx hb h322 dX6_linesGone_322 ?_
          refine e_iadd hx hb dX6_linesGone_323 ?_
          refine lv_goto (tgt := 336) hx hb dX6_linesGone_324 (by decide) ?_
          exact w6_linesGone_b336 E hp hS (hl.sub [0, 1, 2] rfl) hsh
    · rw [if_neg c221] at hsh
      refine e_aload_n (B := B) (x := x0) hx hb dX6_linesGone_224 rfl (hl.at 0 rfl) ?_
      obtain ⟨v225, h225, hsh⟩ := Option.bind_eq_some_iff.mp hsh
      refine e_getR (k := 8) hx hb hts in_X6 hown hp h225 rfl (by decide) (by decide) rfl (hts _ kf6_37) rfl dX6_linesGone_225 ?_
      refine lv_iload hx hb dX6_linesGone_228 (hl.at 6 rfl) ?_
      refine e_aload_n (B := B) (x := x0) hx hb dX6_linesGone_230 rfl (hl.at 0 rfl) ?_
      obtain ⟨v231, h231, hsh⟩ := Option.bind_eq_some_iff.mp hsh
      refine e_getR (k := 8) hx hb hts in_X6 hown hp h231 rfl (by decide) (by decide) rfl (hts _ kf6_37) rfl dX6_linesGone_231 ?_
      refine lv_iload hx hb dX6_linesGone_234 (hl.at 6 rfl) ?_
      obtain ⟨v236, h236, hsh⟩ := Option.bind_eq_some_iff.mp hsh
      refine e_iald hx hb hp h236 dX6_linesGone_236 ?_
      refine lv_iload hx hb dX6_linesGone_237 (hl.at 4 rfl) ?_
      refine e_icmp_ge (tgt := 252) hx hb dX6_linesGone_239 (by decide) (fun c239 => ?_) (fun c239 => ?_)
      · rw [if_pos c239] at hsh
        refine e_aload_n (B := B) (x := x0) hx hb dX6_linesGone_252 rfl (hl.at 0 rfl) ?_
        obtain ⟨v253, h253, hsh⟩ := Option.bind_eq_some_iff.mp hsh
        refine e_getR (k := 8) hx hb hts in_X6 hown hp h253 rfl (by decide) (by decide) rfl (hts _ kf6_37) rfl dX6_linesGone_253 ?_
        refine lv_iload hx hb dX6_linesGone_256 (hl.at 6 rfl) ?_
        obtain ⟨v258, h258, hsh⟩ := Option.bind_eq_some_iff.mp hsh
        refine e_iald hx hb hp h258 dX6_linesGone_258 ?_
        refine lv_iload hx hb dX6_linesGone_259 (hl.at 5 rfl) ?_
        refine e_icmp_ge (tgt := 268) hx hb dX6_linesGone_261 (by decide) (fun c261 => ?_) (fun c261 => ?_)
        · rw [if_pos c261] at hsh
          refine e_aload_n (B := B) (x := x0) hx hb dX6_linesGone_268 rfl (hl.at 0 rfl) ?_
          obtain ⟨v269, h269, hsh⟩ := Option.bind_eq_some_iff.mp hsh
          refine e_getR (k := 8) hx hb hts in_X6 hown hp h269 rfl (by decide) (by decide) rfl (hts _ kf6_37) rfl dX6_linesGone_269 ?_
          refine lv_iload hx hb dX6_linesGone_272 (hl.at 6 rfl) ?_
          obtain ⟨v274, h274, hsh⟩ := Option.bind_eq_some_iff.mp hsh
          refine e_iald hx hb hp h274 dX6_linesGone_274 ?_
          refine lv_iload_n hx hb dX6_linesGone_275 rfl (hl.at 2 rfl) ?_
          refine lv_bipush (v := iI (100)) hx hb dX6_linesGone_276 (by decide +kernel) ?_
          refine e_imul hx hb dX6_linesGone_278 ?_
          refine e_isub hx hb dX6_linesGone_279 ?_
          exact w6_linesGone_b280 (hk215 := hk215) E hp hS (hl.sub [0, 1, 2, 3, 4, 5, 6] rfl) hsh
        · rw [if_neg c261] at hsh
          refine lv_iconst (v := iI (-1)) hx hb dX6_linesGone_264 rfl ?_
          refine lv_goto (tgt := 280) hx hb dX6_linesGone_265 (by decide) ?_
          exact w6_linesGone_b280 (hk215 := hk215) E hp hS (hl.sub [0, 1, 2, 3, 4, 5, 6] rfl) hsh
      · rw [if_neg c239] at hsh
        refine e_aload_n (B := B) (x := x0) hx hb dX6_linesGone_242 rfl (hl.at 0 rfl) ?_
        obtain ⟨v243, h243, hsh⟩ := Option.bind_eq_some_iff.mp hsh
        refine e_getR (k := 8) hx hb hts in_X6 hown hp h243 rfl (by decide) (by decide) rfl (hts _ kf6_37) rfl dX6_linesGone_243 ?_
        refine lv_iload hx hb dX6_linesGone_246 (hl.at 6 rfl) ?_
        obtain ⟨v248, h248, hsh⟩ := Option.bind_eq_some_iff.mp hsh
        refine e_iald hx hb hp h248 dX6_linesGone_248 ?_
        refine lv_goto (tgt := 280) hx hb dX6_linesGone_249 (by decide) ?_
        exact w6_linesGone_b280 (hk215 := hk215) E hp hS (hl.sub [0, 1, 2, 3, 4, 5, 6] rfl) hsh
set_option maxRecDepth 100000 in
set_option maxHeartbeats 4000000 in
theorem w6_linesGone_b194 {p : Program} {l : Launch} {e : Env} {s : State} {m : MethodId} {args : Array Value} {below : List Frame} {meth : Method} {c : Code} {D : va_G} {cA : Nat → ClassId} {B : Nat} {res : HP} {k99 : HP → Int → Int → Int → Int → Int → Int → Int → Int → Int → Option (HP)} (hk99 : ∀ {ls : Array Slot} {H : Heap} {locs : List Loc} {S : HP} {x0 : Int} {x1 : Int} {x2 : Int} {x3 : Int} {x4 : Int} {x5 : Int} {x6 : Int} {x7 : Int} {x8 : Int} (hp : e_Pic D cA B S s H) (hS : va_S (e_A B) s.heap H locs) (hl : e_lo ls 11 [(0, e_rv B (x0)), (1, .int (iI (x1))), (2, .int (iI (x2))), (3, .int (iI (x3))), (4, .int (iI (x4))), (5, .int (iI (x5))), (6, .int (iI (x6))), (7, .int (iI (x7))), (8, .int (iI (x8)))]) (hsh : k99 S x0 x1 x2 x3 x4 x5 x6 x7 x8 = some res), W p l e ({ frames := 1, cells := 0, slots := 0, locals := 21 } : Room) s m args below meth c H locs 0 0 (MQ below (e_Qv D cA B res) args s 0 0 (e_A B)) (F0 m 99 ls [])) (E : e_En p s m args meth c cX6_linesGone RX6 11 none) {ls : Array Slot} {H : Heap} {locs : List Loc} {S : HP} {x0 : Int} {x1 : Int} {x2 : Int} {x3 : Int} {x4 : Int} {x5 : Int} {x6 : Int} {x7 : Int} {x8 : Int} (hp : e_Pic D cA B S s H) (hS : va_S (e_A B) s.heap H locs) (hl : e_lo ls 11 [(0, e_rv B (x0)), (1, .int (iI (x1))), (2, .int (iI (x2))), (3, .int (iI (x3))), (4, .int (iI (x4))), (5, .int (iI (x5))), (6, .int (iI (x6))), (7, .int (iI (x7))), (8, .int (iI (x8)))]) (hsh : s6_linesGone_b194 k99 S x0 x1 x2 x3 x4 x5 x6 x7 x8 = some res) : W p l e ({ frames := 1, cells := 0, slots := 0, locals := 21 } : Room) s m args below meth c H locs 0 0 (MQ below (e_Qv D cA B res) args s 0 0 (e_A B)) (F0 m 194 ls []) := by
  obtain ⟨hx, hb, hml, hown, hts, hlk, hrt⟩ := id E
  unfold s6_linesGone_b194 at hsh
  refine e_iinc (n := 1) (x := x8) (lv' := [(8, .int (iI ((x8 + 1)))), (0, e_rv B (x0)), (1, .int (iI (x1))), (2, .int (iI (x2))), (3, .int (iI (x3))), (4, .int (iI (x4))), (5, .int (iI (x5))), (6, .int (iI (x6))), (7, .int (iI (x7)))]) hx hb dX6_linesGone_194 hl (k := 8) rfl (by decide) rfl (fun ls hl => ?_)
  refine lv_goto (tgt := 99) hx hb dX6_linesGone_197 (by decide) ?_
  exact hk99 hp hS (hl.sub [1, 2, 3, 4, 5, 6, 7, 8, 0] rfl) hsh
set_option maxRecDepth 100000 in
set_option maxHeartbeats 4000000 in
theorem w6_linesGone_b190 {p : Program} {l : Launch} {e : Env} {s : State} {m : MethodId} {args : Array Value} {below : List Frame} {meth : Method} {c : Code} {D : va_G} {cA : Nat → ClassId} {B : Nat} {res : HP} {k99 : HP → Int → Int → Int → Int → Int → Int → Int → Int → Int → Option (HP)} (hk99 : ∀ {ls : Array Slot} {H : Heap} {locs : List Loc} {S : HP} {x0 : Int} {x1 : Int} {x2 : Int} {x3 : Int} {x4 : Int} {x5 : Int} {x6 : Int} {x7 : Int} {x8 : Int} (hp : e_Pic D cA B S s H) (hS : va_S (e_A B) s.heap H locs) (hl : e_lo ls 11 [(0, e_rv B (x0)), (1, .int (iI (x1))), (2, .int (iI (x2))), (3, .int (iI (x3))), (4, .int (iI (x4))), (5, .int (iI (x5))), (6, .int (iI (x6))), (7, .int (iI (x7))), (8, .int (iI (x8)))]) (hsh : k99 S x0 x1 x2 x3 x4 x5 x6 x7 x8 = some res), W p l e ({ frames := 1, cells := 0, slots := 0, locals := 21 } : Room) s m args below meth c H locs 0 0 (MQ below (e_Qv D cA B res) args s 0 0 (e_A B)) (F0 m 99 ls [])) (E : e_En p s m args meth c cX6_linesGone RX6 11 none) {ls : Array Slot} {H : Heap} {locs : List Loc} {S : HP} {x0 : Int} {x1 : Int} {x2 : Int} {x3 : Int} {x4 : Int} {x5 : Int} {x6 : Int} {x7 : Int} {x8 : Int} {y0 : Int} {y1 : Int} {y2 : Int} (hp : e_Pic D cA B S s H) (hS : va_S (e_A B) s.heap H locs) (hl : e_lo ls 11 [(0, e_rv B (x0)), (1, .int (iI (x1))), (2, .int (iI (x2))), (3, .int (iI (x3))), (4, .int (iI (x4))), (5, .int (iI (x5))), (6, .int (iI (x6))), (7, .int (iI (x7))), (8, .int (iI (x8)))]) (hsh : s6_linesGone_b190 k99 S x0 x1 x2 x3 x4 x5 x6 x7 x8 y0 y1 y2 = some res) : W p l e ({ frames := 1, cells := 0, slots := 0, locals := 21 } : Room) s m args below meth c H locs 0 0 (MQ below (e_Qv D cA B res) args s 0 0 (e_A B)) (F0 m 190 ls [.int (iI (y2)), .int (iI (y1)), e_rv B (y0)]) := by
  obtain ⟨hx, hb, hml, hown, hts, hlk, hrt⟩ := id E
  unfold s6_linesGone_b190 at hsh
  obtain ⟨S190, h190, hsh⟩ := Option.bind_eq_some_iff.mp hsh
  refine e_iast hx hb hp hS h190 dX6_linesGone_190 (fun H locs hp hS => ?_)
  refine e_iinc (n := 1) (x := x6) (lv' := [(6, .int (iI ((x6 + 1)))), (0, e_rv B (x0)), (1, .int (iI (x1))), (2, .int (iI (x2))), (3, .int (iI (x3))), (4, .int (iI (x4))), (5, .int (iI (x5))), (7, .int (iI (x7))), (8, .int (iI (x8)))]) hx hb dX6_linesGone_191 hl (k := 6) rfl (by decide) rfl (fun ls hl => ?_)
  exact w6_linesGone_b194 (hk99 := hk99) E hp hS (hl.sub [1, 2, 3, 4, 5, 6, 0, 7, 8] rfl) hsh
set_option maxRecDepth 100000 in
set_option maxHeartbeats 4000000 in
theorem w6_linesGone_b148 {p : Program} {l : Launch} {e : Env} {s : State} {m : MethodId} {args : Array Value} {below : List Frame} {meth : Method} {c : Code} {D : va_G} {cA : Nat → ClassId} {B : Nat} {res : HP} {k99 : HP → Int → Int → Int → Int → Int → Int → Int → Int → Int → Option (HP)} (hk99 : ∀ {ls : Array Slot} {H : Heap} {locs : List Loc} {S : HP} {x0 : Int} {x1 : Int} {x2 : Int} {x3 : Int} {x4 : Int} {x5 : Int} {x6 : Int} {x7 : Int} {x8 : Int} (hp : e_Pic D cA B S s H) (hS : va_S (e_A B) s.heap H locs) (hl : e_lo ls 11 [(0, e_rv B (x0)), (1, .int (iI (x1))), (2, .int (iI (x2))), (3, .int (iI (x3))), (4, .int (iI (x4))), (5, .int (iI (x5))), (6, .int (iI (x6))), (7, .int (iI (x7))), (8, .int (iI (x8)))]) (hsh : k99 S x0 x1 x2 x3 x4 x5 x6 x7 x8 = some res), W p l e ({ frames := 1, cells := 0, slots := 0, locals := 21 } : Room) s m args below meth c H locs 0 0 (MQ below (e_Qv D cA B res) args s 0 0 (e_A B)) (F0 m 99 ls [])) (E : e_En p s m args meth c cX6_linesGone RX6 11 none) {ls : Array Slot} {H : Heap} {locs : List Loc} {S : HP} {x0 : Int} {x1 : Int} {x2 : Int} {x3 : Int} {x4 : Int} {x5 : Int} {x6 : Int} {x8 : Int} {y0 : Int} (hp : e_Pic D cA B S s H) (hS : va_S (e_A B) s.heap H locs) (hl : e_lo ls 11 [(0, e_rv B (x0)), (1, .int (iI (x1))), (2, .int (iI (x2))), (3, .int (iI (x3))), (4, .int (iI (x4))), (5, .int (iI (x5))), (6, .int (iI (x6))), (8, .int (iI (x8)))]) (hsh : s6_linesGone_b148 k99 S x0 x1 x2 x3 x4 x5 x6 x8 y0 = some res) : W p l e ({ frames := 1, cells := 0, slots := 0, locals := 21 } : Room) s m args below meth c H locs 0 0 (MQ below (e_Qv D cA B res) args s 0 0 (e_A B)) (F0 m 148 ls [.int (iI (y0))]) := by
  obtain ⟨hx, hb, hml, hown, hts, hlk, hrt⟩ := id E
  unfold s6_linesGone_b148 at hsh
  refine e_istore (lv' := [(7, .int (iI (y0))), (0, e_rv B (x0)), (1, .int (iI (x1))), (2, .int (iI (x2))), (3, .int (iI (x3))), (4, .int (iI (x4))), (5, .int (iI (x5))), (6, .int (iI (x6))), (8, .int (iI (x8)))]) hx hb dX6_linesGone_148 hl (by decide) rfl (fun ls hl => ?_)
  refine e_aload_n (B := B) (x := x0) hx hb dX6_linesGone_150 rfl (hl.at 1 rfl) ?_
  obtain ⟨v151, h151, hsh⟩ := Option.bind_eq_some_iff.mp hsh
  refine e_getR (k := 5) hx hb hts in_X6 hown hp h151 rfl (by decide) (by decide) rfl (hts _ kf6_28) rfl dX6_linesGone_151 ?_
  refine lv_iload hx hb dX6_linesGone_154 (hl.at 7 rfl) ?_
  refine e_aload_n (B := B) (x := x0) hx hb dX6_linesGone_156 rfl (hl.at 1 rfl) ?_
  obtain ⟨v157, h157, hsh⟩ := Option.bind_eq_some_iff.mp hsh
  refine e_getR (k := 5) hx hb hts in_X6 hown hp h157 rfl (by decide) (by decide) rfl (hts _ kf6_28) rfl dX6_linesGone_157 ?_
  refine lv_iload hx hb dX6_linesGone_160 (hl.at 8 rfl) ?_
  obtain ⟨v162, h162, hsh⟩ := Option.bind_eq_some_iff.mp hsh
  refine e_iald hx hb hp h162 dX6_linesGone_162 ?_
  refine lv_iload hx hb dX6_linesGone_163 (hl.at 5 rfl) ?_
  refine e_icmp_ge (tgt := 178) hx hb dX6_linesGone_165 (by decide) (fun c165 => ?_) (fun c165 => ?_)
  · rw [if_pos c165] at hsh
    refine e_aload_n (B := B) (x := x0) hx hb dX6_linesGone_178 rfl (hl.at 1 rfl) ?_
    obtain ⟨v179, h179, hsh⟩ := Option.bind_eq_some_iff.mp hsh
    refine e_getR (k := 5) hx hb hts in_X6 hown hp h179 rfl (by decide) (by decide) rfl (hts _ kf6_28) rfl dX6_linesGone_179 ?_
    refine lv_iload hx hb dX6_linesGone_182 (hl.at 8 rfl) ?_
    obtain ⟨v184, h184, hsh⟩ := Option.bind_eq_some_iff.mp hsh
    refine e_iald hx hb hp h184 dX6_linesGone_184 ?_
    refine lv_iload_n hx hb dX6_linesGone_185 rfl (hl.at 3 rfl) ?_
    refine lv_bipush (v := iI (100)) hx hb dX6_linesGone_186 (by decide +kernel) ?_
    refine e_imul hx hb dX6_linesGone_188 ?_
    refine e_isub hx hb dX6_linesGone_189 ?_
    exact w6_linesGone_b190 (hk99 := hk99) E hp hS (hl.sub [1, 2, 3, 4, 5, 6, 7, 0, 8] rfl) hsh
  · rw [if_neg c165] at hsh
    refine e_aload_n (B := B) (x := x0) hx hb dX6_linesGone_168 rfl (hl.at 1 rfl) ?_
    obtain ⟨v169, h169, hsh⟩ := Option.bind_eq_some_iff.mp hsh
    refine e_getR (k := 5) hx hb hts in_X6 hown hp h169 rfl (by decide) (by decide) rfl (hts _ kf6_28) rfl dX6_linesGone_169 ?_
    refine lv_iload hx hb dX6_linesGone_172 (hl.at 8 rfl) ?_
    obtain ⟨v174, h174, hsh⟩ := Option.bind_eq_some_iff.mp hsh
    refine e_iald hx hb hp h174 dX6_linesGone_174 ?_
    refine lv_goto (tgt := 190) hx hb dX6_linesGone_175 (by decide) ?_
    exact w6_linesGone_b190 (hk99 := hk99) E hp hS (hl.sub [1, 2, 3, 4, 5, 6, 7, 0, 8] rfl) hsh
set_option maxRecDepth 100000 in
set_option maxHeartbeats 4000000 in
theorem w6_linesGone_b132 {p : Program} {l : Launch} {e : Env} {s : State} {m : MethodId} {args : Array Value} {below : List Frame} {meth : Method} {c : Code} {D : va_G} {cA : Nat → ClassId} {B : Nat} {res : HP} {k99 : HP → Int → Int → Int → Int → Int → Int → Int → Int → Int → Option (HP)} (hk99 : ∀ {ls : Array Slot} {H : Heap} {locs : List Loc} {S : HP} {x0 : Int} {x1 : Int} {x2 : Int} {x3 : Int} {x4 : Int} {x5 : Int} {x6 : Int} {x7 : Int} {x8 : Int} (hp : e_Pic D cA B S s H) (hS : va_S (e_A B) s.heap H locs) (hl : e_lo ls 11 [(0, e_rv B (x0)), (1, .int (iI (x1))), (2, .int (iI (x2))), (3, .int (iI (x3))), (4, .int (iI (x4))), (5, .int (iI (x5))), (6, .int (iI (x6))), (7, .int (iI (x7))), (8, .int (iI (x8)))]) (hsh : k99 S x0 x1 x2 x3 x4 x5 x6 x7 x8 = some res), W p l e ({ frames := 1, cells := 0, slots := 0, locals := 21 } : Room) s m args below meth c H locs 0 0 (MQ below (e_Qv D cA B res) args s 0 0 (e_A B)) (F0 m 99 ls [])) (E : e_En p s m args meth c cX6_linesGone RX6 11 none) {ls : Array Slot} {H : Heap} {locs : List Loc} {S : HP} {x0 : Int} {x1 : Int} {x2 : Int} {x3 : Int} {x4 : Int} {x5 : Int} {x6 : Int} {x7 : Int} {x8 : Int} (hp : e_Pic D cA B S s H) (hS : va_S (e_A B) s.heap H locs) (hl : e_lo ls 11 [(0, e_rv B (x0)), (1, .int (iI (x1))), (2, .int (iI (x2))), (3, .int (iI (x3))), (4, .int (iI (x4))), (5, .int (iI (x5))), (6, .int (iI (x6))), (7, .int (iI (x7))), (8, .int (iI (x8)))]) (hsh : s6_linesGone_b132 k99 S x0 x1 x2 x3 x4 x5 x6 x7 x8 = some res) : W p l e ({ frames := 1, cells := 0, slots := 0, locals := 21 } : Room) s m args below meth c H locs 0 0 (MQ below (e_Qv D cA B res) args s 0 0 (e_A B)) (F0 m 132 ls []) := by
  obtain ⟨hx, hb, hml, hown, hts, hlk, hrt⟩ := id E
  unfold s6_linesGone_b132 at hsh
  refine lv_iload hx hb dX6_linesGone_132 (hl.at 8 rfl) ?_
  refine e_aload_n (B := B) (x := x0) hx hb dX6_linesGone_134 rfl (hl.at 0 rfl) ?_
  obtain ⟨v135, h135, hsh⟩ := Option.bind_eq_some_iff.mp hsh
  refine e_getI (k := 7) hx hb hts in_X6 hown hp h135 rfl (by decide) (by decide) rfl (hts _ kf6_34) rfl dX6_linesGone_135 ?_
  refine e_icmp_ne (tgt := 146) hx hb dX6_linesGone_138 (by decide) (fun c138 => ?_) (fun c138 => ?_)
  · rw [if_neg c138] at hsh
    refine lv_iload hx hb dX6_linesGone_146 (hl.at 7 rfl) ?_
    exact w6_linesGone_b148 (hk99 := hk99) E hp hS (hl.sub [0, 1, 2, 3, 4, 5, 6, 8] rfl) hsh
  · rw [if_pos c138] at hsh
    refine lv_iload hx hb dX6_linesGone_141 (hl.at 6 rfl) ?_
    refine lv_goto (tgt := 148) hx hb dX6_linesGone_143 (by decide) ?_
    exact w6_linesGone_b148 (hk99 := hk99) E hp hS (hl.sub [0, 1, 2, 3, 4, 5, 6, 8] rfl) hsh
set_option maxRecDepth 100000 in
set_option maxHeartbeats 4000000 in
theorem w6_linesGone_l99 {p : Program} {l : Launch} {e : Env} {s : State} {m : MethodId} {args : Array Value} {below : List Frame} {meth : Method} {c : Code} {D : va_G} {cA : Nat → ClassId} {B : Nat} {res : HP} (E : e_En p s m args meth c cX6_linesGone RX6 11 none) : ∀ (f : Nat) {ls : Array Slot} {H : Heap} {locs : List Loc} {S : HP} {x0 : Int} {x1 : Int} {x2 : Int} {x3 : Int} {x4 : Int} {x5 : Int} {x6 : Int} {x7 : Int} {x8 : Int} (hp : e_Pic D cA B S s H) (hS : va_S (e_A B) s.heap H locs) (hl : e_lo ls 11 [(0, e_rv B (x0)), (1, .int (iI (x1))), (2, .int (iI (x2))), (3, .int (iI (x3))), (4, .int (iI (x4))), (5, .int (iI (x5))), (6, .int (iI (x6))), (7, .int (iI (x7))), (8, .int (iI (x8)))]) (hsh : s6_linesGone_l99 f S x0 x1 x2 x3 x4 x5 x6 x7 x8 = some res), W p l e ({ frames := 1, cells := 0, slots := 0, locals := 21 } : Room) s m args below meth c H locs 0 0 (MQ below (e_Qv D cA B res) args s 0 0 (e_A B)) (F0 m 99 ls []) := by
  obtain ⟨hx, hb, hml, hown, hts, hlk, hrt⟩ := id E
  intro f
  induction f with
  | zero => intro ls H locs S x0 x1 x2 x3 x4 x5 x6 x7 x8 hp hS hl hsh; cases hsh
  | succ f ih =>
    intro ls H locs S x0 x1 x2 x3 x4 x5 x6 x7 x8 hp hS hl hsh
    have hk99 : ∀ {ls : Array Slot} {H : Heap} {locs : List Loc} {S : HP} {x0 : Int} {x1 : Int} {x2 : Int} {x3 : Int} {x4 : Int} {x5 : Int} {x6 : Int} {x7 : Int} {x8 : Int} (hp : e_Pic D cA B S s H) (hS : va_S (e_A B) s.heap H locs) (hl : e_lo ls 11 [(0, e_rv B (x0)), (1, .int (iI (x1))), (2, .int (iI (x2))), (3, .int (iI (x3))), (4, .int (iI (x4))), (5, .int (iI (x5))), (6, .int (iI (x6))), (7, .int (iI (x7))), (8, .int (iI (x8)))]) (hsh : (s6_linesGone_l99 f) S x0 x1 x2 x3 x4 x5 x6 x7 x8 = some res), W p l e ({ frames := 1, cells := 0, slots := 0, locals := 21 } : Room) s m args below meth c H locs 0 0 (MQ below (e_Qv D cA B res) args s 0 0 (e_A B)) (F0 m 99 ls []) := ih
    generalize hkk : s6_linesGone_l99 f = k99 at hk99
    rw [s6_linesGone_l99] at hsh
    rw [hkk] at hsh
    try dsimp only at hsh
    refine lv_iload hx hb dX6_linesGone_99 (hl.at 8 rfl) ?_
    refine e_aload_n (B := B) (x := x0) hx hb dX6_linesGone_101 rfl (hl.at 0 rfl) ?_
    obtain ⟨v102, h102, hsh⟩ := Option.bind_eq_some_iff.mp hsh
    refine e_getI (k := 6) hx hb hts in_X6 hown hp h102 rfl (by decide) (by decide) rfl (hts _ kf6_31) rfl dX6_linesGone_102 ?_
    refine e_icmp_ge (tgt := 200) hx hb dX6_linesGone_105 (by decide) (fun c105 => ?_) (fun c105 => ?_)
    · rw [if_pos c105] at hsh
      refine e_aload_n (B := B) (x := x0) hx hb dX6_linesGone_200 rfl (hl.at 0 rfl) ?_
      refine lv_iload hx hb dX6_linesGone_201 (hl.at 6 rfl) ?_
      obtain ⟨S203, h203, hsh⟩ := Option.bind_eq_some_iff.mp hsh
      refine e_putI (k := 6) hx hb hts in_X6 tyX6 tyX6_ok nmX6 hown hp hS h203 rfl (by decide) (by decide) rfl (hts _ kf6_31) rfl rfl (by decide +kernel) dX6_linesGone_203 (fun H locs hp hS => ?_)
      refine e_aload_n (B := B) (x := x0) hx hb dX6_linesGone_206 rfl (hl.at 0 rfl) ?_
      refine lv_iload hx hb dX6_linesGone_207 (hl.at 7 rfl) ?_
      obtain ⟨S209, h209, hsh⟩ := Option.bind_eq_some_iff.mp hsh
      refine e_putI (k := 7) hx hb hts in_X6 tyX6 tyX6_ok nmX6 hown hp hS h209 rfl (by decide) (by decide) rfl (hts _ kf6_34) rfl rfl (by decide +kernel) dX6_linesGone_209 (fun H locs hp hS => ?_)
      refine lv_iconst (v := iI (0)) hx hb dX6_linesGone_212 rfl ?_
      refine e_istore (lv' := [(8, .int (iI (0))), (0, e_rv B (x0)), (1, .int (iI (x1))), (2, .int (iI (x2))), (3, .int (iI (x3))), (4, .int (iI (x4))), (5, .int (iI (x5))), (6, .int (iI (x6))), (7, .int (iI (x7)))]) hx hb dX6_linesGone_213 hl (by decide) rfl (fun ls hl => ?_)
      exact w6_linesGone_l215 E 1000000 hp hS (hl.sub [1, 2, 3, 4, 5, 6, 0] rfl) hsh
    · rw [if_neg c105] at hsh
      refine e_aload_n (B := B) (x := x0) hx hb dX6_linesGone_108 rfl (hl.at 0 rfl) ?_
      obtain ⟨v109, h109, hsh⟩ := Option.bind_eq_some_iff.mp hsh
      refine e_getR (k := 5) hx hb hts in_X6 hown hp h109 rfl (by decide) (by decide) rfl (hts _ kf6_28) rfl dX6_linesGone_109 ?_
      refine lv_iload hx hb dX6_linesGone_112 (hl.at 8 rfl) ?_
      obtain ⟨v114, h114, hsh⟩ := Option.bind_eq_some_iff.mp hsh
      refine e_iald hx hb hp h114 dX6_linesGone_114 ?_
      refine lv_iload hx hb dX6_linesGone_115 (hl.at 4 rfl) ?_
      refine e_icmp_lt (tgt := 132) hx hb dX6_linesGone_117 (by decide) (fun c117 => ?_) (fun c117 => ?_)
      · rw [if_pos c117] at hsh
        exact w6_linesGone_b132 (hk99 := hk99) E hp hS (hl.sub [0, 1, 2, 3, 4, 5, 6, 7, 8] rfl) hsh
      · rw [if_neg c117] at hsh
        refine e_aload_n (B := B) (x := x0) hx hb dX6_linesGone_120 rfl (hl.at 0 rfl) ?_
        obtain ⟨v121, h121, hsh⟩ := Option.bind_eq_some_iff.mp hsh
        refine e_getR (k := 5) hx hb hts in_X6 hown hp h121 rfl (by decide) (by decide) rfl (hts _ kf6_28) rfl dX6_linesGone_121 ?_
        refine lv_iload hx hb dX6_linesGone_124 (hl.at 8 rfl) ?_
        obtain ⟨v126, h126, hsh⟩ := Option.bind_eq_some_iff.mp hsh
        refine e_iald hx hb hp h126 dX6_linesGone_126 ?_
        refine lv_iload hx hb dX6_linesGone_127 (hl.at 5 rfl) ?_
        refine e_icmp_lt (tgt := 194) hx hb dX6_linesGone_129 (by decide) (fun c129 => ?_) (fun c129 => ?_)
        · rw [if_pos c129] at hsh
          exact w6_linesGone_b194 (hk99 := hk99) E hp hS (hl.sub [0, 1, 2, 3, 4, 5, 6, 7, 8] rfl) hsh
        · rw [if_neg c129] at hsh
          exact w6_linesGone_b132 (hk99 := hk99) E hp hS (hl.sub [0, 1, 2, 3, 4, 5, 6, 7, 8] rfl) hsh
set_option maxRecDepth 100000 in
set_option maxHeartbeats 4000000 in
theorem w6_linesGone_b83 {p : Program} {l : Launch} {e : Env} {s : State} {m : MethodId} {args : Array Value} {below : List Frame} {meth : Method} {c : Code} {D : va_G} {cA : Nat → ClassId} {B : Nat} {res : HP} {k17 : HP → Int → Int → Int → Int → Int → Int → Int → Option (HP)} (hk17 : ∀ {ls : Array Slot} {H : Heap} {locs : List Loc} {S : HP} {x0 : Int} {x1 : Int} {x2 : Int} {x3 : Int} {x4 : Int} {x5 : Int} {x6 : Int} (hp : e_Pic D cA B S s H) (hS : va_S (e_A B) s.heap H locs) (hl : e_lo ls 11 [(0, e_rv B (x0)), (1, .int (iI (x1))), (2, .int (iI (x2))), (3, .int (iI (x3))), (4, .int (iI (x4))), (5, .int (iI (x5))), (6, .int (iI (x6)))]) (hsh : k17 S x0 x1 x2 x3 x4 x5 x6 = some res), W p l e ({ frames := 1, cells := 0, slots := 0, locals := 21 } : Room) s m args below meth c H locs 0 0 (MQ below (e_Qv D cA B res) args s 0 0 (e_A B)) (F0 m 17 ls [])) (E : e_En p s m args meth c cX6_linesGone RX6 11 none) {ls : Array Slot} {H : Heap} {locs : List Loc} {S : HP} {x0 : Int} {x1 : Int} {x2 : Int} {x3 : Int} {x4 : Int} {x5 : Int} {x6 : Int} {y0 : Int} {y1 : Int} {y2 : Int} (hp : e_Pic D cA B S s H) (hS : va_S (e_A B) s.heap H locs) (hl : e_lo ls 11 [(0, e_rv B (x0)), (1, .int (iI (x1))), (2, .int (iI (x2))), (3, .int (iI (x3))), (4, .int (iI (x4))), (5, .int (iI (x5))), (6, .int (iI (x6)))]) (hsh : s6_linesGone_b83 k17 S x0 x1 x2 x3 x4 x5 x6 y0 y1 y2 = some res) : W p l e ({ frames := 1, cells := 0, slots := 0, locals := 21 } : Room) s m args below meth c H locs 0 0 (MQ below (e_Qv D cA B res) args s 0 0 (e_A B)) (F0 m 83 ls [.int (iI (y2)), .int (iI (y1)), e_rv B (y0)]) := by
  obtain ⟨hx, hb, hml, hown, hts, hlk, hrt⟩ := id E
  unfold s6_linesGone_b83 at hsh
  obtain ⟨S83, h83, hsh⟩ := Option.bind_eq_some_iff.mp hsh
  refine e_iast hx hb hp hS h83 dX6_linesGone_83 (fun H locs hp hS => ?_)
  refine e_iinc (n := 1) (x := x6) (lv' := [(6, .int (iI ((x6 + 1)))), (0, e_rv B (x0)), (1, .int (iI (x1))), (2, .int (iI (x2))), (3, .int (iI (x3))), (4, .int (iI (x4))), (5, .int (iI (x5)))]) hx hb dX6_linesGone_84 hl (k := 6) rfl (by decide) rfl (fun ls hl => ?_)
  refine lv_goto (tgt := 17) hx hb dX6_linesGone_87 (by decide) ?_
  exact hk17 hp hS (hl.sub [1, 2, 3, 4, 5, 6, 0] rfl) hsh
set_option maxRecDepth 100000 in
set_option maxHeartbeats 4000000 in
theorem w6_linesGone_l17 {p : Program} {l : Launch} {e : Env} {s : State} {m : MethodId} {args : Array Value} {below : List Frame} {meth : Method} {c : Code} {D : va_G} {cA : Nat → ClassId} {B : Nat} {res : HP} (E : e_En p s m args meth c cX6_linesGone RX6 11 none) : ∀ (f : Nat) {ls : Array Slot} {H : Heap} {locs : List Loc} {S : HP} {x0 : Int} {x1 : Int} {x2 : Int} {x3 : Int} {x4 : Int} {x5 : Int} {x6 : Int} (hp : e_Pic D cA B S s H) (hS : va_S (e_A B) s.heap H locs) (hl : e_lo ls 11 [(0, e_rv B (x0)), (1, .int (iI (x1))), (2, .int (iI (x2))), (3, .int (iI (x3))), (4, .int (iI (x4))), (5, .int (iI (x5))), (6, .int (iI (x6)))]) (hsh : s6_linesGone_l17 f S x0 x1 x2 x3 x4 x5 x6 = some res), W p l e ({ frames := 1, cells := 0, slots := 0, locals := 21 } : Room) s m args below meth c H locs 0 0 (MQ below (e_Qv D cA B res) args s 0 0 (e_A B)) (F0 m 17 ls []) := by
  obtain ⟨hx, hb, hml, hown, hts, hlk, hrt⟩ := id E
  intro f
  induction f with
  | zero => intro ls H locs S x0 x1 x2 x3 x4 x5 x6 hp hS hl hsh; cases hsh
  | succ f ih =>
    intro ls H locs S x0 x1 x2 x3 x4 x5 x6 hp hS hl hsh
    have hk17 : ∀ {ls : Array Slot} {H : Heap} {locs : List Loc} {S : HP} {x0 : Int} {x1 : Int} {x2 : Int} {x3 : Int} {x4 : Int} {x5 : Int} {x6 : Int} (hp : e_Pic D cA B S s H) (hS : va_S (e_A B) s.heap H locs) (hl : e_lo ls 11 [(0, e_rv B (x0)), (1, .int (iI (x1))), (2, .int (iI (x2))), (3, .int (iI (x3))), (4, .int (iI (x4))), (5, .int (iI (x5))), (6, .int (iI (x6)))]) (hsh : (s6_linesGone_l17 f) S x0 x1 x2 x3 x4 x5 x6 = some res), W p l e ({ frames := 1, cells := 0, slots := 0, locals := 21 } : Room) s m args below meth c H locs 0 0 (MQ below (e_Qv D cA B res) args s 0 0 (e_A B)) (F0 m 17 ls []) := ih
    generalize hkk : s6_linesGone_l17 f = k17 at hk17
    rw [s6_linesGone_l17] at hsh
    rw [hkk] at hsh
    try dsimp only at hsh
    refine lv_iload hx hb dX6_linesGone_17 (hl.at 6 rfl) ?_
    refine e_aload_n (B := B) (x := x0) hx hb dX6_linesGone_19 rfl (hl.at 0 rfl) ?_
    obtain ⟨v20, h20, hsh⟩ := Option.bind_eq_some_iff.mp hsh
    refine e_getR (k := 4) hx hb hts in_X6 hown hp h20 rfl (by decide) (by decide) rfl (hts _ kf6_24) rfl dX6_linesGone_20 ?_
    obtain ⟨v23, h23, hsh⟩ := Option.bind_eq_some_iff.mp hsh
    refine e_alen (t := 101) (t0 := 1) hx hb hp h23 (by decide) rfl dX6_linesGone_23 ?_
    refine e_icmp_ge (tgt := 90) hx hb dX6_linesGone_24 (by decide) (fun c24 => ?_) (fun c24 => ?_)
    · rw [if_pos c24] at hsh
      refine lv_iconst (v := iI (0)) hx hb dX6_linesGone_90 rfl ?_
      refine e_istore (lv' := [(6, .int (iI (0))), (0, e_rv B (x0)), (1, .int (iI (x1))), (2, .int (iI (x2))), (3, .int (iI (x3))), (4, .int (iI (x4))), (5, .int (iI (x5)))]) hx hb dX6_linesGone_91 hl (by decide) rfl (fun ls hl => ?_)
      refine lv_iconst (v := iI (-1)) hx hb dX6_linesGone_93 rfl ?_
      refine e_istore (lv' := [(7, .int (iI ((-1)))), (6, .int (iI (0))), (0, e_rv B (x0)), (1, .int (iI (x1))), (2, .int (iI (x2))), (3, .int (iI (x3))), (4, .int (iI (x4))), (5, .int (iI (x5)))]) hx hb dX6_linesGone_94 hl (by decide) rfl (fun ls hl => ?_)
      refine lv_iconst (v := iI (0)) hx hb dX6_linesGone_96 rfl ?_
      refine e_istore (lv' := [(8, .int (iI (0))), (7, .int (iI ((-1)))), (6, .int (iI (0))), (0, e_rv B (x0)), (1, .int (iI (x1))), (2, .int (iI (x2))), (3, .int (iI (x3))), (4, .int (iI (x4))), (5, .int (iI (x5)))]) hx hb dX6_linesGone_97 hl (by decide) rfl (fun ls hl => ?_)
      exact w6_linesGone_l99 E 1000000 hp hS (hl.sub [3, 4, 5, 6, 7, 8, 2, 1, 0] rfl) hsh
    · rw [if_neg c24] at hsh
      refine e_aload_n (B := B) (x := x0) hx hb dX6_linesGone_27 rfl (hl.at 0 rfl) ?_
      obtain ⟨v28, h28, hsh⟩ := Option.bind_eq_some_iff.mp hsh
      refine e_getR (k := 4) hx hb hts in_X6 hown hp h28 rfl (by decide) (by decide) rfl (hts _ kf6_24) rfl dX6_linesGone_28 ?_
      refine lv_iload hx hb dX6_linesGone_31 (hl.at 6 rfl) ?_
      refine e_aload_n (B := B) (x := x0) hx hb dX6_linesGone_33 rfl (hl.at 0 rfl) ?_
      obtain ⟨v34, h34, hsh⟩ := Option.bind_eq_some_iff.mp hsh
      refine e_getR (k := 4) hx hb hts in_X6 hown hp h34 rfl (by decide) (by decide) rfl (hts _ kf6_24) rfl dX6_linesGone_34 ?_
      refine lv_iload hx hb dX6_linesGone_37 (hl.at 6 rfl) ?_
      obtain ⟨v39, h39, hsh⟩ := Option.bind_eq_some_iff.mp hsh
      refine e_iald hx hb hp h39 dX6_linesGone_39 ?_
      refine lv_iload hx hb dX6_linesGone_40 (hl.at 4 rfl) ?_
      refine e_icmp_ge (tgt := 55) hx hb dX6_linesGone_42 (by decide) (fun c42 => ?_) (fun c42 => ?_)
      · rw [if_pos c42] at hsh
        refine e_aload_n (B := B) (x := x0) hx hb dX6_linesGone_55 rfl (hl.at 0 rfl) ?_
        obtain ⟨v56, h56, hsh⟩ := Option.bind_eq_some_iff.mp hsh
        refine e_getR (k := 4) hx hb hts in_X6 hown hp h56 rfl (by decide) (by decide) rfl (hts _ kf6_24) rfl dX6_linesGone_56 ?_
        refine lv_iload hx hb dX6_linesGone_59 (hl.at 6 rfl) ?_
        obtain ⟨v61, h61, hsh⟩ := Option.bind_eq_some_iff.mp hsh
        refine e_iald hx hb hp h61 dX6_linesGone_61 ?_
        refine lv_iload hx hb dX6_linesGone_62 (hl.at 5 rfl) ?_
        refine e_icmp_ge (tgt := 71) hx hb dX6_linesGone_64 (by decide) (fun c64 => ?_) (fun c64 => ?_)
        · rw [if_pos c64] at hsh
          refine e_aload_n (B := B) (x := x0) hx hb dX6_linesGone_71 rfl (hl.at 0 rfl) ?_
          obtain ⟨v72, h72, hsh⟩ := Option.bind_eq_some_iff.mp hsh
          refine e_getR (k := 4) hx hb hts in_X6 hown hp h72 rfl (by decide) (by decide) rfl (hts _ kf6_24) rfl dX6_linesGone_72 ?_
          refine lv_iload hx hb dX6_linesGone_75 (hl.at 6 rfl) ?_
          obtain ⟨v77, h77, hsh⟩ := Option.bind_eq_some_iff.mp hsh
          refine e_iald hx hb hp h77 dX6_linesGone_77 ?_
          refine lv_iload_n hx hb dX6_linesGone_78 rfl (hl.at 2 rfl) ?_
          refine lv_bipush (v := iI (100)) hx hb dX6_linesGone_79 (by decide +kernel) ?_
          refine e_imul hx hb dX6_linesGone_81 ?_
          refine e_isub hx hb dX6_linesGone_82 ?_
          exact w6_linesGone_b83 (hk17 := hk17) E hp hS (hl.sub [0, 1, 2, 3, 4, 5, 6] rfl) hsh
        · rw [if_neg c64] at hsh
          refine lv_iconst (v := iI (-1)) hx hb dX6_linesGone_67 rfl ?_
          refine lv_goto (tgt := 83) hx hb dX6_linesGone_68 (by decide) ?_
          exact w6_linesGone_b83 (hk17 := hk17) E hp hS (hl.sub [0, 1, 2, 3, 4, 5, 6] rfl) hsh
      · rw [if_neg c42] at hsh
        refine e_aload_n (B := B) (x := x0) hx hb dX6_linesGone_45 rfl (hl.at 0 rfl) ?_
        obtain ⟨v46, h46, hsh⟩ := Option.bind_eq_some_iff.mp hsh
        refine e_getR (k := 4) hx hb hts in_X6 hown hp h46 rfl (by decide) (by decide) rfl (hts _ kf6_24) rfl dX6_linesGone_46 ?_
        refine lv_iload hx hb dX6_linesGone_49 (hl.at 6 rfl) ?_
        obtain ⟨v51, h51, hsh⟩ := Option.bind_eq_some_iff.mp hsh
        refine e_iald hx hb hp h51 dX6_linesGone_51 ?_
        refine lv_goto (tgt := 83) hx hb dX6_linesGone_52 (by decide) ?_
        exact w6_linesGone_b83 (hk17 := hk17) E hp hS (hl.sub [0, 1, 2, 3, 4, 5, 6] rfl) hsh
set_option maxRecDepth 100000 in
set_option maxHeartbeats 4000000 in
theorem c6_linesGone (l : Launch) (D : va_G) (cA : Nat → ClassId) (B : Nat) (S S' : HP) (x0 : Int) (x1 : Int) (x2 : Int) (x3 : Int) (hsh : s6_linesGone S x0 x1 x2 x3 = some S') : Met l yX6_linesGone (e_wu yX6_linesGone cX6_linesGone 11 none) ({ frames := 1, cells := 0, slots := 0, locals := 21 } : Room) (va_Pc [e_rv B (x0), .int (iI (x1)), .int (iI (x2)), .int (iI (x3))] (fun U => e_PU D cA B S U)) (e_Qv D cA B S') 0 0 (e_A B) := by
  refine Met.ofW (cc := cX6_linesGone) (maxL := 11) (ret := none) (by decide +kernel) rfl ?_
  intro p e s m args below meth c s₁ Bd hml hv
  obtain ⟨rfl, hp⟩ := hv
  have hp : e_Pic D cA B S s s.heap := hp
  have hx := Bd.exec
  have hb := Bd.bytes
  have hrt := Bd.returns
  have hlk := Bd.notSynchronized
  have hown : s.vm.findClass RX6 = some m.cls := findClass_of_methodNamed Bd.named
  have hts : ∀ w ∈ e_tb, w.before ([e_rv B (x0), .int (iI (x1)), .int (iI (x2)), .int (iI (x3))] : List Value).toArray s = true := fun w h => atoms_spec (ws := (e_wu yX6_linesGone cX6_linesGone 11 none)) Bd.pre w (List.mem_cons_of_mem _ h)
  have E : e_En p s m ([e_rv B (x0), .int (iI (x1)), .int (iI (x2)), .int (iI (x3))] : List Value).toArray meth c cX6_linesGone RX6 11 none := ⟨hx, hb, hml, hown, hts, hlk, hrt⟩
  have hS : va_S (e_A B) s.heap s.heap [] := va_S.rf
  have hl := e_entry (vs := [e_rv B (x0), .int (iI (x1)), .int (iI (x2)), .int (iI (x3))]) (n := 11) (Nat.le_of_ble_eq_true rfl) (e_cc (e_rv_cat _ _) (e_cc rfl (e_cc rfl (e_cc rfl e_cn))))
  rw [lg_entry_eq]
  generalize (lg_sl [e_rv B (x0), .int (iI (x1)), .int (iI (x2)), .int (iI (x3))] ++ List.replicate (11 - (lg_sl [e_rv B (x0), .int (iI (x1)), .int (iI (x2)), .int (iI (x3))]).length) Slot.unset).toArray = ls at hl ⊢
  generalize ([e_rv B (x0), .int (iI (x1)), .int (iI (x2)), .int (iI (x3))] : List Value).toArray = args at hts E ⊢
  have hl : e_lo ls 11 [(0, e_rv B (x0)), (1, .int (iI (x1))), (2, .int (iI (x2))), (3, .int (iI (x3)))] := hl
  have hsh := (gd_some hsh).2
  refine lv_iload_n hx hb dX6_linesGone_0 rfl (hl.at 1 rfl) ?_
  refine lv_bipush (v := iI (100)) hx hb dX6_linesGone_1 (by decide +kernel) ?_
  refine e_imul hx hb dX6_linesGone_3 ?_
  refine e_istore (lv' := [(4, .int (iI ((x1 * 100)))), (0, e_rv B (x0)), (1, .int (iI (x1))), (2, .int (iI (x2))), (3, .int (iI (x3)))]) hx hb dX6_linesGone_4 hl (by decide) rfl (fun ls hl => ?_)
  refine lv_iload_n hx hb dX6_linesGone_6 rfl (hl.at 2 rfl) ?_
  refine lv_iload_n hx hb dX6_linesGone_7 rfl (hl.at 3 rfl) ?_
  refine e_iadd hx hb dX6_linesGone_8 ?_
  refine lv_bipush (v := iI (100)) hx hb dX6_linesGone_9 (by decide +kernel) ?_
  refine e_imul hx hb dX6_linesGone_11 ?_
  refine e_istore (lv' := [(5, .int (iI (((x1 + x2) * 100)))), (4, .int (iI ((x1 * 100)))), (0, e_rv B (x0)), (1, .int (iI (x1))), (2, .int (iI (x2))), (3, .int (iI (x3)))]) hx hb dX6_linesGone_12 hl (by decide) rfl (fun ls hl => ?_)
  refine lv_iconst (v := iI (0)) hx hb dX6_linesGone_14 rfl ?_
  refine e_istore (lv' := [(6, .int (iI (0))), (5, .int (iI (((x1 + x2) * 100)))), (4, .int (iI ((x1 * 100)))), (0, e_rv B (x0)), (1, .int (iI (x1))), (2, .int (iI (x2))), (3, .int (iI (x3)))]) hx hb dX6_linesGone_15 hl (by decide) rfl (fun ls hl => ?_)
  exact w6_linesGone_l17 E 1000000 hp hS (hl.sub [3, 4, 5, 6, 2, 1, 0] rfl) hsh
theorem ok7_top {S : HP} {x0 : Int} {r : Int × HP} (h : s7_top S x0 = some r) : 0 ≤ x0 ∧ x0.toNat < e_n S ∧ e_g S x0.toNat = 7 := (gd_some h).1
set_option maxRecDepth 100000 in
set_option maxHeartbeats 4000000 in
theorem c7_top (l : Launch) (D : va_G) (cA : Nat → ClassId) (B : Nat) (S S' : HP) (x0 : Int) (r : Int) (hsh : s7_top S x0 = some (r, S')) : Met l yX7_top (e_wu yX7_top cX7_top 1 (some .int)) ({ frames := 1, cells := 0, slots := 0, locals := 21 } : Room) (va_Pc [e_rv B (x0)] (fun U => e_PU D cA B S U)) (e_Qi D cA B r S') 0 0 (e_A B) := by
  refine Met.ofW (cc := cX7_top) (maxL := 1) (ret := (some .int)) (by decide +kernel) rfl ?_
  intro p e s m args below meth c s₁ Bd hml hv
  obtain ⟨rfl, hp⟩ := hv
  have hp : e_Pic D cA B S s s.heap := hp
  have hx := Bd.exec
  have hb := Bd.bytes
  have hrt := Bd.returns
  have hlk := Bd.notSynchronized
  have hown : s.vm.findClass RX7 = some m.cls := findClass_of_methodNamed Bd.named
  have hts : ∀ w ∈ e_tb, w.before ([e_rv B (x0)] : List Value).toArray s = true := fun w h => atoms_spec (ws := (e_wu yX7_top cX7_top 1 (some .int))) Bd.pre w (List.mem_cons_of_mem _ h)
  have E : e_En p s m ([e_rv B (x0)] : List Value).toArray meth c cX7_top RX7 1 (some .int) := ⟨hx, hb, hml, hown, hts, hlk, hrt⟩
  have hS : va_S (e_A B) s.heap s.heap [] := va_S.rf
  have hl := e_entry (vs := [e_rv B (x0)]) (n := 1) (Nat.le_of_ble_eq_true rfl) (e_cc (e_rv_cat _ _) e_cn)
  rw [lg_entry_eq]
  generalize (lg_sl [e_rv B (x0)] ++ List.replicate (1 - (lg_sl [e_rv B (x0)]).length) Slot.unset).toArray = ls at hl ⊢
  generalize ([e_rv B (x0)] : List Value).toArray = args at hts E ⊢
  have hl : e_lo ls 1 [(0, e_rv B (x0))] := hl
  have hsh := (gd_some hsh).2
  refine lv_iconst (v := iI (0)) hx hb dX7_top_0 rfl ?_
  refine e_aload_n (B := B) (x := x0) hx hb dX7_top_1 rfl (hl.at 0 rfl) ?_
  obtain ⟨v2, h2, hsh⟩ := Option.bind_eq_some_iff.mp hsh
  refine e_getI (k := 8) hx hb hts in_X7 hown hp h2 rfl (by decide) (by decide) rfl (hts _ kf7_40) rfl dX7_top_2 ?_
  refine lv_bipush (v := iI (21)) hx hb dX7_top_5 (by decide +kernel) ?_
  refine e_min (rest := [.int (iI (0))]) hx hb (hml.trans hl.size.symm) hown hts kl7_53 kM_min_s kM_i kM_min_c (Nat.le_of_ble_eq_true rfl) (Nat.le_trans (Nat.add_le_add_right (show _ ≤ 8 by simp [e_rv_cat, e_int_cat]) 13) (Nat.le_of_ble_eq_true rfl)) (Nat.le_refl _) (Nat.le_refl _) dX7_top_7 ?_
  refine lv_iconst (v := iI (1)) hx hb dX7_top_10 rfl ?_
  refine e_isub hx hb dX7_top_11 ?_
  refine e_max (rest := []) hx hb (hml.trans hl.size.symm) hown hts kl7_59 kM_max_s kM_i kM_max_c (Nat.le_of_ble_eq_true rfl) (Nat.le_trans (Nat.add_le_add_right (show _ ≤ 8 by simp [e_rv_cat, e_int_cat]) 13) (Nat.le_of_ble_eq_true rfl)) (Nat.le_refl _) (Nat.le_refl _) dX7_top_12 ?_
  cases hsh
  exact e_iret hx hb hrt hlk hp hS dX7_top_15
theorem ok7_isOn {S : HP} {x0 : Int} {x1 : Int} {r : Int × HP} (h : s7_isOn S x0 x1 = some r) : 0 ≤ x0 ∧ x0.toNat < e_n S ∧ e_g S x0.toNat = 7 := (gd_some h).1
set_option maxRecDepth 100000 in
set_option maxHeartbeats 4000000 in
theorem w7_isOn_b25 {p : Program} {l : Launch} {e : Env} {s : State} {m : MethodId} {args : Array Value} {below : List Frame} {meth : Method} {c : Code} {D : va_G} {cA : Nat → ClassId} {B : Nat} {res : Int × HP} (E : e_En p s m args meth c cX7_isOn RX7 2 (some .boolean)) {ls : Array Slot} {H : Heap} {locs : List Loc} {S : HP} {y0 : Int} (hp : e_Pic D cA B S s H) (hS : va_S (e_A B) s.heap H locs) (hl : e_lo ls 2 []) (hsh : s7_isOn_b25 S y0 = some res) : W p l e ({ frames := 2, cells := 0, slots := 0, locals := 41 } : Room) s m args below meth c H locs 0 0 (MQ below (e_Qi D cA B res.1 res.2) args s 0 0 (e_A B)) (F0 m 25 ls [.int (iI (y0))]) := by
  obtain ⟨hx, hb, hml, hown, hts, hlk, hrt⟩ := id E
  unfold s7_isOn_b25 at hsh
  obtain ⟨hz, hz1, hz2⟩ := zR_some hsh
  rw [← hz1, ← hz2]
  exact e_zret hx hb hrt hlk hp hS hz dX7_isOn_25
set_option maxRecDepth 100000 in
set_option maxHeartbeats 4000000 in
theorem w7_isOn_b24 {p : Program} {l : Launch} {e : Env} {s : State} {m : MethodId} {args : Array Value} {below : List Frame} {meth : Method} {c : Code} {D : va_G} {cA : Nat → ClassId} {B : Nat} {res : Int × HP} (E : e_En p s m args meth c cX7_isOn RX7 2 (some .boolean)) {ls : Array Slot} {H : Heap} {locs : List Loc} {S : HP} (hp : e_Pic D cA B S s H) (hS : va_S (e_A B) s.heap H locs) (hl : e_lo ls 2 []) (hsh : s7_isOn_b24 S  = some res) : W p l e ({ frames := 2, cells := 0, slots := 0, locals := 41 } : Room) s m args below meth c H locs 0 0 (MQ below (e_Qi D cA B res.1 res.2) args s 0 0 (e_A B)) (F0 m 24 ls []) := by
  obtain ⟨hx, hb, hml, hown, hts, hlk, hrt⟩ := id E
  unfold s7_isOn_b24 at hsh
  refine lv_iconst (v := iI (0)) hx hb dX7_isOn_24 rfl ?_
  exact w7_isOn_b25 E hp hS (hl.sub [] rfl) hsh
set_option maxRecDepth 100000 in
set_option maxHeartbeats 4000000 in
theorem c7_isOn (l : Launch) (D : va_G) (cA : Nat → ClassId) (B : Nat) (S S' : HP) (x0 : Int) (x1 : Int) (r : Int) (hsh : s7_isOn S x0 x1 = some (r, S')) : Met l yX7_isOn (e_wu yX7_isOn cX7_isOn 2 (some .boolean)) ({ frames := 2, cells := 0, slots := 0, locals := 41 } : Room) (va_Pc [e_rv B (x0), .int (iI (x1))] (fun U => e_PU D cA B S U)) (e_Qi D cA B r S') 0 0 (e_A B) := by
  refine Met.ofW (cc := cX7_isOn) (maxL := 2) (ret := (some .boolean)) (by decide +kernel) rfl ?_
  intro p e s m args below meth c s₁ Bd hml hv
  obtain ⟨rfl, hp⟩ := hv
  have hp : e_Pic D cA B S s s.heap := hp
  have hx := Bd.exec
  have hb := Bd.bytes
  have hrt := Bd.returns
  have hlk := Bd.notSynchronized
  have hown : s.vm.findClass RX7 = some m.cls := findClass_of_methodNamed Bd.named
  have hts : ∀ w ∈ e_tb, w.before ([e_rv B (x0), .int (iI (x1))] : List Value).toArray s = true := fun w h => atoms_spec (ws := (e_wu yX7_isOn cX7_isOn 2 (some .boolean))) Bd.pre w (List.mem_cons_of_mem _ h)
  have E : e_En p s m ([e_rv B (x0), .int (iI (x1))] : List Value).toArray meth c cX7_isOn RX7 2 (some .boolean) := ⟨hx, hb, hml, hown, hts, hlk, hrt⟩
  have hS : va_S (e_A B) s.heap s.heap [] := va_S.rf
  have hl := e_entry (vs := [e_rv B (x0), .int (iI (x1))]) (n := 2) (Nat.le_of_ble_eq_true rfl) (e_cc (e_rv_cat _ _) (e_cc rfl e_cn))
  rw [lg_entry_eq]
  generalize (lg_sl [e_rv B (x0), .int (iI (x1))] ++ List.replicate (2 - (lg_sl [e_rv B (x0), .int (iI (x1))]).length) Slot.unset).toArray = ls at hl ⊢
  generalize ([e_rv B (x0), .int (iI (x1))] : List Value).toArray = args at hts E ⊢
  have hl : e_lo ls 2 [(0, e_rv B (x0)), (1, .int (iI (x1)))] := hl
  have hsh := (gd_some hsh).2
  refine e_aload_n (B := B) (x := x0) hx hb dX7_isOn_0 rfl (hl.at 0 rfl) ?_
  obtain ⟨v1, h1, hsh⟩ := Option.bind_eq_some_iff.mp hsh
  refine e_getI (k := 8) hx hb hts in_X7 hown hp h1 rfl (by decide) (by decide) rfl (hts _ kf7_40) rfl dX7_isOn_1 ?_
  refine e_if_le (tgt := 24) hx hb dX7_isOn_4 (by decide) (fun c4 => ?_) (fun c4 => ?_)
  · rw [if_pos c4] at hsh
    exact w7_isOn_b24 E hp hS (hl.sub [] rfl) hsh
  · rw [if_neg c4] at hsh
    refine e_aload_n (B := B) (x := x0) hx hb dX7_isOn_7 rfl (hl.at 0 rfl) ?_
    obtain ⟨v8, h8, hsh⟩ := Option.bind_eq_some_iff.mp hsh
    refine e_getR (k := 0) hx hb hts in_X7 hown hp h8 rfl (by decide) (by decide) rfl (hts _ kf7_11) rfl dX7_isOn_8 ?_
    refine e_aload_n (B := B) (x := x0) hx hb dX7_isOn_11 rfl (hl.at 0 rfl) ?_
    obtain ⟨⟨v12, S12⟩, h12, hsh⟩ := Option.bind_eq_some_iff.mp hsh
    have hsh : _ = _ := hsh
    try dsimp only at hsh
    have ok12 := ok7_top h12
    refine e_callI (nL := 2) (mc := 0) (ms := 0) (T := TX7) (N := 10) (As := []) (rest := [e_rv B (v8)]) hx hb hml hown hts hp hS hl.size ok12.1 ok12.2.1 ok12.2.2 rfl (by decide) (c7_top l D cA B S S12 (x0) v12 h12) rfl rfl kd7_top (kl7_62) ks7_top kv7_top ki7 kh7_top ⟨Nat.le_of_ble_eq_true rfl, Nat.le_of_ble_eq_true rfl⟩ rfl (by simp [e_rv_cat, e_int_cat, e_long_cat]) ⟨Nat.le_refl _, Nat.le_refl _⟩ dX7_isOn_12 rfl (fun H locs hp hS => ?_)
    obtain ⟨v15, h15, hsh⟩ := Option.bind_eq_some_iff.mp hsh
    refine e_iald hx hb hp h15 dX7_isOn_15 ?_
    refine lv_iload_n hx hb dX7_isOn_16 rfl (hl.at 1 rfl) ?_
    refine e_icmp_ne (tgt := 24) hx hb dX7_isOn_17 (by decide) (fun c17 => ?_) (fun c17 => ?_)
    · rw [if_neg c17] at hsh
      exact w7_isOn_b24 E hp hS (hl.sub [] rfl) hsh
    · rw [if_pos c17] at hsh
      refine lv_iconst (v := iI (1)) hx hb dX7_isOn_20 rfl ?_
      refine lv_goto (tgt := 25) hx hb dX7_isOn_21 (by decide) ?_
      exact w7_isOn_b25 E hp hS (hl.sub [] rfl) hsh
theorem ok10_clear {S : HP} {x0 : Int} {r : HP} (h : s10_clear S x0 = some r) : 0 ≤ x0 ∧ x0.toNat < e_n S ∧ e_g S x0.toNat = 10 := (gd_some h).1
set_option maxRecDepth 100000 in
set_option maxHeartbeats 4000000 in
theorem c10_clear (l : Launch) (D : va_G) (cA : Nat → ClassId) (B : Nat) (S S' : HP) (x0 : Int) (hsh : s10_clear S x0 = some S') : Met l yX10_clear (e_wu yX10_clear cX10_clear 1 none) ({ frames := 0, cells := 0, slots := 0, locals := 0 } : Room) (va_Pc [e_rv B (x0)] (fun U => e_PU D cA B S U)) (e_Qv D cA B S') 0 0 (e_A B) := by
  refine Met.ofW (cc := cX10_clear) (maxL := 1) (ret := none) (by decide +kernel) rfl ?_
  intro p e s m args below meth c s₁ Bd hml hv
  obtain ⟨rfl, hp⟩ := hv
  have hp : e_Pic D cA B S s s.heap := hp
  have hx := Bd.exec
  have hb := Bd.bytes
  have hrt := Bd.returns
  have hlk := Bd.notSynchronized
  have hown : s.vm.findClass RX10 = some m.cls := findClass_of_methodNamed Bd.named
  have hts : ∀ w ∈ e_tb, w.before ([e_rv B (x0)] : List Value).toArray s = true := fun w h => atoms_spec (ws := (e_wu yX10_clear cX10_clear 1 none)) Bd.pre w (List.mem_cons_of_mem _ h)
  have E : e_En p s m ([e_rv B (x0)] : List Value).toArray meth c cX10_clear RX10 1 none := ⟨hx, hb, hml, hown, hts, hlk, hrt⟩
  have hS : va_S (e_A B) s.heap s.heap [] := va_S.rf
  have hl := e_entry (vs := [e_rv B (x0)]) (n := 1) (Nat.le_of_ble_eq_true rfl) (e_cc (e_rv_cat _ _) e_cn)
  rw [lg_entry_eq]
  generalize (lg_sl [e_rv B (x0)] ++ List.replicate (1 - (lg_sl [e_rv B (x0)]).length) Slot.unset).toArray = ls at hl ⊢
  generalize ([e_rv B (x0)] : List Value).toArray = args at hts E ⊢
  have hl : e_lo ls 1 [(0, e_rv B (x0))] := hl
  have hsh := (gd_some hsh).2
  refine e_aload_n (B := B) (x := x0) hx hb dX10_clear_0 rfl (hl.at 0 rfl) ?_
  refine lv_iconst (v := iI (0)) hx hb dX10_clear_1 rfl ?_
  obtain ⟨S2, h2, hsh⟩ := Option.bind_eq_some_iff.mp hsh
  refine e_putI (k := 1) hx hb hts in_X10 tyX10 tyX10_ok nmX10 hown hp hS h2 rfl (by decide) (by decide) rfl (hts _ kf10_9) rfl rfl (by decide +kernel) dX10_clear_2 (fun H locs hp hS => ?_)
  refine e_aload_n (B := B) (x := x0) hx hb dX10_clear_5 rfl (hl.at 0 rfl) ?_
  refine lv_iconst (v := iI (0)) hx hb dX10_clear_6 rfl ?_
  obtain ⟨S7, h7, hsh⟩ := Option.bind_eq_some_iff.mp hsh
  refine e_putI (k := 2) hx hb hts in_X10 tyX10 tyX10_ok nmX10 hown hp hS h7 rfl (by decide) (by decide) rfl (hts _ kf10_15) rfl rfl (by decide +kernel) dX10_clear_7 (fun H locs hp hS => ?_)
  cases hsh
  exact e_vret hx hb hrt hlk hp hS dX10_clear_10
theorem ok10_add {S : HP} {x0 : Int} {x1 : Int} {r : Int × HP} (h : s10_add S x0 x1 = some r) : 0 ≤ x0 ∧ x0.toNat < e_n S ∧ e_g S x0.toNat = 10 := (gd_some h).1
set_option maxRecDepth 100000 in
set_option maxHeartbeats 4000000 in
theorem w10_add_b55 {p : Program} {l : Launch} {e : Env} {s : State} {m : MethodId} {args : Array Value} {below : List Frame} {meth : Method} {c : Code} {D : va_G} {cA : Nat → ClassId} {B : Nat} {res : Int × HP} {S0 : HP} (hB0 : s.heap.size = B + e_n S0) (E : e_En p s m args meth c cX10_add RX10 3 (some .boolean)) {ls : Array Slot} {H : Heap} {locs : List Loc} {S : HP} {x0 : Int} {x1 : Int} (hp : e_Pic D cA B S s H) (hS : va_S (e_A B) s.heap H locs) (h0 : e_n S0 ≤ e_n S ∧ e_s S0 ≤ e_s S) (hl : e_lo ls 3 [(0, e_rv B (x0)), (1, .int (iI (x1)))]) (hsh : s10_add_b55 S x0 x1 = some res) : W p l e ({ frames := 1, cells := e_n res.2 - e_n S0, slots := e_s res.2 - e_s S0, locals := 60 } : Room) s m args below meth c H locs (e_n S - e_n S0) (e_s S - e_s S0) (MQ below (e_Qi D cA B res.1 res.2) args s (e_n res.2 - e_n S0) (e_s res.2 - e_s S0) (e_A B)) (F0 m 55 ls []) := by
  obtain ⟨hx, hb, hml, hown, hts, hlk, hrt⟩ := id E
  unfold s10_add_b55 at hsh
  refine e_aload_n (B := B) (x := x0) hx hb dX10_add_55 rfl (hl.at 0 rfl) ?_
  obtain ⟨v56, h56, hsh⟩ := Option.bind_eq_some_iff.mp hsh
  refine e_getR (k := 0) hx hb hts in_X10 hown hp h56 rfl (by decide) (by decide) rfl (hts _ kf10_18) rfl dX10_add_56 ?_
  refine e_aload_n (B := B) (x := x0) hx hb dX10_add_59 rfl (hl.at 0 rfl) ?_
  obtain ⟨v60, h60, hsh⟩ := Option.bind_eq_some_iff.mp hsh
  refine e_getI (k := 1) hx hb hts in_X10 hown hp h60 rfl (by decide) (by decide) rfl (hts _ kf10_9) rfl dX10_add_60 ?_
  refine lv_iload_n hx hb dX10_add_63 rfl (hl.at 1 rfl) ?_
  refine e_i2c hx hb dX10_add_64 ?_
  obtain ⟨S65, h65, hsh⟩ := Option.bind_eq_some_iff.mp hsh
  refine e_cast hx hb hp hS h65 dX10_add_65 (fun H locs hp hS => ?_)
  have nn := pA_n h65
  refine e_cells (c' := e_n S65 - e_n S0) (s' := e_s S65 - e_s S0) (by omega) (by omega) ?_
  refine e_aload_n (B := B) (x := x0) hx hb dX10_add_66 rfl (hl.at 0 rfl) ?_
  refine lv_dup hx hb dX10_add_67 (e_rv_cat _ _) ?_
  obtain ⟨v68, h68, hsh⟩ := Option.bind_eq_some_iff.mp hsh
  refine e_getI (k := 1) hx hb hts in_X10 hown hp h68 rfl (by decide) (by decide) rfl (hts _ kf10_9) rfl dX10_add_68 ?_
  refine lv_iconst (v := iI (1)) hx hb dX10_add_71 rfl ?_
  refine e_iadd hx hb dX10_add_72 ?_
  obtain ⟨S73, h73, hsh⟩ := Option.bind_eq_some_iff.mp hsh
  refine e_putI (k := 1) hx hb hts in_X10 tyX10 tyX10_ok nmX10 hown hp hS h73 rfl (by decide) (by decide) rfl (hts _ kf10_9) rfl rfl (by decide +kernel) dX10_add_73 (fun H locs hp hS => ?_)
  have nn := pF_n h73
  refine e_cells (c' := e_n S73 - e_n S0) (s' := e_s S73 - e_s S0) (by omega) (by omega) ?_
  refine lv_iconst (v := iI (1)) hx hb dX10_add_76 rfl ?_
  obtain ⟨hz, hz1, hz2⟩ := zR_some hsh
  rw [← hz1, ← hz2]
  exact e_zret hx hb hrt hlk hp hS hz dX10_add_77
set_option maxRecDepth 100000 in
set_option maxHeartbeats 4000000 in
theorem c10_add (l : Launch) (D : va_G) (cA : Nat → ClassId) (B : Nat) (S S' : HP) (x0 : Int) (x1 : Int) (r : Int) (hsh : s10_add S x0 x1 = some (r, S')) : Met l yX10_add (e_wu yX10_add cX10_add 3 (some .boolean)) ({ frames := 1, cells := e_n S' - e_n S, slots := e_s S' - e_s S, locals := 60 } : Room) (va_Pc [e_rv B (x0), .int (iI (x1))] (fun U => e_PU D cA B S U)) (e_Qi D cA B r S') (e_n S' - e_n S) (e_s S' - e_s S) (e_A B) := by
  refine Met.ofW (cc := cX10_add) (maxL := 3) (ret := (some .boolean)) (by decide +kernel) rfl ?_
  intro p e s m args below meth c s₁ Bd hml hv
  obtain ⟨rfl, hp⟩ := hv
  have hp : e_Pic D cA B S s s.heap := hp
  have hx := Bd.exec
  have hb := Bd.bytes
  have hrt := Bd.returns
  have hlk := Bd.notSynchronized
  have hown : s.vm.findClass RX10 = some m.cls := findClass_of_methodNamed Bd.named
  have hts : ∀ w ∈ e_tb, w.before ([e_rv B (x0), .int (iI (x1))] : List Value).toArray s = true := fun w h => atoms_spec (ws := (e_wu yX10_add cX10_add 3 (some .boolean))) Bd.pre w (List.mem_cons_of_mem _ h)
  have E : e_En p s m ([e_rv B (x0), .int (iI (x1))] : List Value).toArray meth c cX10_add RX10 3 (some .boolean) := ⟨hx, hb, hml, hown, hts, hlk, hrt⟩
  have hS : va_S (e_A B) s.heap s.heap [] := va_S.rf
  have hB0 : s.heap.size = B + e_n S := hp.2.2.1
  refine e_cells (c' := e_n S - e_n S) (s' := e_s S - e_s S) (Nat.sub_self _).symm (Nat.sub_self _).symm ?_
  have hl := e_entry (vs := [e_rv B (x0), .int (iI (x1))]) (n := 3) (Nat.le_of_ble_eq_true rfl) (e_cc (e_rv_cat _ _) (e_cc rfl e_cn))
  rw [lg_entry_eq]
  generalize (lg_sl [e_rv B (x0), .int (iI (x1))] ++ List.replicate (3 - (lg_sl [e_rv B (x0), .int (iI (x1))]).length) Slot.unset).toArray = ls at hl ⊢
  generalize ([e_rv B (x0), .int (iI (x1))] : List Value).toArray = args at hts E ⊢
  have hl : e_lo ls 3 [(0, e_rv B (x0)), (1, .int (iI (x1)))] := hl
  have hsh := (gd_some hsh).2
  refine e_aload_n (B := B) (x := x0) hx hb dX10_add_0 rfl (hl.at 0 rfl) ?_
  obtain ⟨v1, h1, hsh⟩ := Option.bind_eq_some_iff.mp hsh
  refine e_getI (k := 1) hx hb hts in_X10 hown hp h1 rfl (by decide) (by decide) rfl (hts _ kf10_9) rfl dX10_add_1 ?_
  refine lv_sipush (v := iI (16384)) hx hb dX10_add_4 (by decide +kernel) ?_
  refine e_icmp_lt (tgt := 12) hx hb dX10_add_7 (by decide) (fun c7 => ?_) (fun c7 => ?_)
  · rw [if_pos c7] at hsh
    refine e_aload_n (B := B) (x := x0) hx hb dX10_add_12 rfl (hl.at 0 rfl) ?_
    obtain ⟨v13, h13, hsh⟩ := Option.bind_eq_some_iff.mp hsh
    refine e_getI (k := 1) hx hb hts in_X10 hown hp h13 rfl (by decide) (by decide) rfl (hts _ kf10_9) rfl dX10_add_13 ?_
    refine e_aload_n (B := B) (x := x0) hx hb dX10_add_16 rfl (hl.at 0 rfl) ?_
    obtain ⟨v17, h17, hsh⟩ := Option.bind_eq_some_iff.mp hsh
    refine e_getR (k := 0) hx hb hts in_X10 hown hp h17 rfl (by decide) (by decide) rfl (hts _ kf10_18) rfl dX10_add_17 ?_
    obtain ⟨v20, h20, hsh⟩ := Option.bind_eq_some_iff.mp hsh
    refine e_alen (t := 100) (t0 := 0) hx hb hp h20 (by decide) rfl dX10_add_20 ?_
    refine e_icmp_lt (tgt := 55) hx hb dX10_add_21 (by decide) (fun c21 => ?_) (fun c21 => ?_)
    · rw [if_pos c21] at hsh
      exact w10_add_b55 (hB0 := hB0) E hp hS ⟨by omega, by omega⟩ (hl.sub [0, 1] rfl) hsh
    · rw [if_neg c21] at hsh
      refine lv_iconst (v := iI (2)) hx hb dX10_add_24 rfl ?_
      refine e_aload_n (B := B) (x := x0) hx hb dX10_add_25 rfl (hl.at 0 rfl) ?_
      obtain ⟨v26, h26, hsh⟩ := Option.bind_eq_some_iff.mp hsh
      refine e_getI (k := 1) hx hb hts in_X10 hown hp h26 rfl (by decide) (by decide) rfl (hts _ kf10_9) rfl dX10_add_26 ?_
      refine e_imul hx hb dX10_add_29 ?_
      refine lv_bipush (v := iI (16)) hx hb dX10_add_30 (by decide +kernel) ?_
      refine e_iadd hx hb dX10_add_32 ?_
      obtain ⟨S33, h33, hsh⟩ := Option.bind_eq_some_iff.mp hsh
      obtain ⟨hsh, cc33⟩ := ckI_some hsh
      have cc33 : e_n S33 ≤ e_n S' ∧ e_s S33 ≤ e_s S' := cc33
      have nn := nA_n h33
      refine e_newa (t := 100) (t0 := 0) (atype := .char) (ty := .char) hx hb hts kA_char rfl hp hS h33 (by decide) rfl (fun h => h) (fun _ _ => rfl) (by decide) (by show _ ≤ e_n S' - e_n S; omega) (by show _ ≤ e_s S' - e_s S; omega) dX10_add_33 (fun H hp hS => ?_)
      refine e_cells (c' := e_n S33 - e_n S) (s' := e_s S33 - e_s S) (by omega) (by omega) ?_
      refine e_astore_n (lv' := [(2, e_rv B (((e_n S : Nat) : Int))), (0, e_rv B (x0)), (1, .int (iI (x1)))]) hx hb dX10_add_35 rfl hl (by decide) rfl (fun ls hl => ?_)
      refine e_aload_n (B := B) (x := x0) hx hb dX10_add_36 rfl (hl.at 1 rfl) ?_
      obtain ⟨v37, h37, hsh⟩ := Option.bind_eq_some_iff.mp hsh
      refine e_getR (k := 0) hx hb hts in_X10 hown hp h37 rfl (by decide) (by decide) rfl (hts _ kf10_18) rfl dX10_add_37 ?_
      refine lv_iconst (v := iI (0)) hx hb dX10_add_40 rfl ?_
      refine e_aload_n (B := B) (x := ((e_n S : Nat) : Int)) hx hb dX10_add_41 rfl (hl.at 0 rfl) ?_
      refine lv_iconst (v := iI (0)) hx hb dX10_add_42 rfl ?_
      refine e_aload_n (B := B) (x := x0) hx hb dX10_add_43 rfl (hl.at 1 rfl) ?_
      obtain ⟨v44, h44, hsh⟩ := Option.bind_eq_some_iff.mp hsh
      refine e_getI (k := 1) hx hb hts in_X10 hown hp h44 rfl (by decide) (by decide) rfl (hts _ kf10_9) rfl dX10_add_44 ?_
      obtain ⟨S47, h47, hsh⟩ := Option.bind_eq_some_iff.mp hsh
      refine e_copy (t := 100) (t0 := 0) (rest := []) hx hb (hml.trans hl.size.symm) hown hts kl10_22 kM_acn kM_acs kM_aci hp hS h47 (by decide) (by decide) (by decide) rfl rfl (by omega) (Nat.le_of_ble_eq_true rfl) (Nat.le_trans (Nat.add_le_add_right (show _ ≤ 8 by simp [e_rv_cat, e_int_cat]) _) (Nat.le_trans (by decide +kernel : 8 + (nativeFrameWords "java/lang/System" "arraycopy" 5 + 11) ≤ 60) (Nat.le_of_ble_eq_true rfl))) dX10_add_47 (fun H locs hp hS => ?_)
      have nn := cP_n h47
      refine e_cells (c' := e_n S47 - e_n S) (s' := e_s S47 - e_s S) (by omega) (by omega) ?_
      refine e_aload_n (B := B) (x := x0) hx hb dX10_add_50 rfl (hl.at 1 rfl) ?_
      refine e_aload_n (B := B) (x := ((e_n S : Nat) : Int)) hx hb dX10_add_51 rfl (hl.at 0 rfl) ?_
      obtain ⟨S52, h52, hsh⟩ := Option.bind_eq_some_iff.mp hsh
      refine e_putR (ty := .array .char) (k := 0) hx hb hts in_X10 tyX10 tyX10_ok nmX10 hown hp hS h52 rfl (by decide) (by decide) rfl (hts _ kf10_18) rfl rfl (by decide +kernel) (Or.inr ⟨_, rfl⟩) dX10_add_52 (fun H locs hp hS => ?_)
      have nn := pF_n h52
      refine e_cells (c' := e_n S52 - e_n S) (s' := e_s S52 - e_s S) (by omega) (by omega) ?_
      exact w10_add_b55 (hB0 := hB0) E hp hS ⟨by omega, by omega⟩ (hl.sub [1, 2] rfl) hsh
  · rw [if_neg c7] at hsh
    refine lv_iconst (v := iI (0)) hx hb dX10_add_10 rfl ?_
    obtain ⟨hz, hz1, hz2⟩ := zR_some hsh
    rw [← hz1, ← hz2]
    exact e_zret hx hb hrt hlk hp hS hz dX10_add_11
theorem ok10_copyOf {S : HP} {x0 : Int} {x1 : Int} {x2 : Int} {r : HP} (h : s10_copyOf S x0 x1 x2 = some r) : 0 ≤ x0 ∧ x0.toNat < e_n S ∧ e_g S x0.toNat = 10 := (gd_some h).1
set_option maxRecDepth 100000 in
set_option maxHeartbeats 4000000 in
theorem w10_copyOf_b29 {p : Program} {l : Launch} {e : Env} {s : State} {m : MethodId} {args : Array Value} {below : List Frame} {meth : Method} {c : Code} {D : va_G} {cA : Nat → ClassId} {B : Nat} {res : HP} {S0 : HP} (hB0 : s.heap.size = B + e_n S0) (E : e_En p s m args meth c cX10_copyOf RX10 4 none) {ls : Array Slot} {H : Heap} {locs : List Loc} {S : HP} {x0 : Int} {x1 : Int} {x3 : Int} (hp : e_Pic D cA B S s H) (hS : va_S (e_A B) s.heap H locs) (h0 : e_n S0 ≤ e_n S ∧ e_s S0 ≤ e_s S) (hl : e_lo ls 4 [(0, e_rv B (x0)), (1, e_rv B (x1)), (3, .int (iI (x3)))]) (hsh : s10_copyOf_b29 S x0 x1 x3 = some res) : W p l e ({ frames := 1, cells := e_n res - e_n S0, slots := e_s res - e_s S0, locals := 60 } : Room) s m args below meth c H locs (e_n S - e_n S0) (e_s S - e_s S0) (MQ below (e_Qv D cA B res) args s (e_n res - e_n S0) (e_s res - e_s S0) (e_A B)) (F0 m 29 ls []) := by
  obtain ⟨hx, hb, hml, hown, hts, hlk, hrt⟩ := id E
  unfold s10_copyOf_b29 at hsh
  refine e_aload_n (B := B) (x := x1) hx hb dX10_copyOf_29 rfl (hl.at 1 rfl) ?_
  obtain ⟨v30, h30, hsh⟩ := Option.bind_eq_some_iff.mp hsh
  refine e_getR (k := 0) hx hb hts in_X10 hown hp h30 rfl (by decide) (by decide) rfl (hts _ kf10_18) rfl dX10_copyOf_30 ?_
  refine lv_iconst (v := iI (0)) hx hb dX10_copyOf_33 rfl ?_
  refine e_aload_n (B := B) (x := x0) hx hb dX10_copyOf_34 rfl (hl.at 0 rfl) ?_
  obtain ⟨v35, h35, hsh⟩ := Option.bind_eq_some_iff.mp hsh
  refine e_getR (k := 0) hx hb hts in_X10 hown hp h35 rfl (by decide) (by decide) rfl (hts _ kf10_18) rfl dX10_copyOf_35 ?_
  refine lv_iconst (v := iI (0)) hx hb dX10_copyOf_38 rfl ?_
  refine lv_iload_n hx hb dX10_copyOf_39 rfl (hl.at 2 rfl) ?_
  obtain ⟨S40, h40, hsh⟩ := Option.bind_eq_some_iff.mp hsh
  refine e_copy (t := 100) (t0 := 0) (rest := []) hx hb (hml.trans hl.size.symm) hown hts kl10_22 kM_acn kM_acs kM_aci hp hS h40 (by decide) (by decide) (by decide) rfl rfl (by omega) (Nat.le_of_ble_eq_true rfl) (Nat.le_trans (Nat.add_le_add_right (show _ ≤ 8 by simp [e_rv_cat, e_int_cat]) _) (Nat.le_trans (by decide +kernel : 8 + (nativeFrameWords "java/lang/System" "arraycopy" 5 + 11) ≤ 60) (Nat.le_of_ble_eq_true rfl))) dX10_copyOf_40 (fun H locs hp hS => ?_)
  have nn := cP_n h40
  refine e_cells (c' := e_n S40 - e_n S0) (s' := e_s S40 - e_s S0) (by omega) (by omega) ?_
  refine e_aload_n (B := B) (x := x0) hx hb dX10_copyOf_43 rfl (hl.at 0 rfl) ?_
  refine lv_iload_n hx hb dX10_copyOf_44 rfl (hl.at 2 rfl) ?_
  obtain ⟨S45, h45, hsh⟩ := Option.bind_eq_some_iff.mp hsh
  refine e_putI (k := 1) hx hb hts in_X10 tyX10 tyX10_ok nmX10 hown hp hS h45 rfl (by decide) (by decide) rfl (hts _ kf10_9) rfl rfl (by decide +kernel) dX10_copyOf_45 (fun H locs hp hS => ?_)
  have nn := pF_n h45
  refine e_cells (c' := e_n S45 - e_n S0) (s' := e_s S45 - e_s S0) (by omega) (by omega) ?_
  refine e_aload_n (B := B) (x := x0) hx hb dX10_copyOf_48 rfl (hl.at 0 rfl) ?_
  refine e_aload_n (B := B) (x := x1) hx hb dX10_copyOf_49 rfl (hl.at 1 rfl) ?_
  obtain ⟨v50, h50, hsh⟩ := Option.bind_eq_some_iff.mp hsh
  refine e_getI (k := 2) hx hb hts in_X10 hown hp h50 rfl (by decide) (by decide) rfl (hts _ kf10_15) rfl dX10_copyOf_50 ?_
  obtain ⟨S53, h53, hsh⟩ := Option.bind_eq_some_iff.mp hsh
  refine e_putI (k := 2) hx hb hts in_X10 tyX10 tyX10_ok nmX10 hown hp hS h53 rfl (by decide) (by decide) rfl (hts _ kf10_15) rfl rfl (by decide +kernel) dX10_copyOf_53 (fun H locs hp hS => ?_)
  have nn := pF_n h53
  refine e_cells (c' := e_n S53 - e_n S0) (s' := e_s S53 - e_s S0) (by omega) (by omega) ?_
  cases hsh
  exact e_vret hx hb hrt hlk hp hS dX10_copyOf_56
set_option maxRecDepth 100000 in
set_option maxHeartbeats 4000000 in
theorem c10_copyOf (l : Launch) (D : va_G) (cA : Nat → ClassId) (B : Nat) (S S' : HP) (x0 : Int) (x1 : Int) (x2 : Int) (hsh : s10_copyOf S x0 x1 x2 = some S') : Met l yX10_copyOf (e_wu yX10_copyOf cX10_copyOf 4 none) ({ frames := 1, cells := e_n S' - e_n S, slots := e_s S' - e_s S, locals := 60 } : Room) (va_Pc [e_rv B (x0), e_rv B (x1), .int (iI (x2))] (fun U => e_PU D cA B S U)) (e_Qv D cA B S') (e_n S' - e_n S) (e_s S' - e_s S) (e_A B) := by
  refine Met.ofW (cc := cX10_copyOf) (maxL := 4) (ret := none) (by decide +kernel) rfl ?_
  intro p e s m args below meth c s₁ Bd hml hv
  obtain ⟨rfl, hp⟩ := hv
  have hp : e_Pic D cA B S s s.heap := hp
  have hx := Bd.exec
  have hb := Bd.bytes
  have hrt := Bd.returns
  have hlk := Bd.notSynchronized
  have hown : s.vm.findClass RX10 = some m.cls := findClass_of_methodNamed Bd.named
  have hts : ∀ w ∈ e_tb, w.before ([e_rv B (x0), e_rv B (x1), .int (iI (x2))] : List Value).toArray s = true := fun w h => atoms_spec (ws := (e_wu yX10_copyOf cX10_copyOf 4 none)) Bd.pre w (List.mem_cons_of_mem _ h)
  have E : e_En p s m ([e_rv B (x0), e_rv B (x1), .int (iI (x2))] : List Value).toArray meth c cX10_copyOf RX10 4 none := ⟨hx, hb, hml, hown, hts, hlk, hrt⟩
  have hS : va_S (e_A B) s.heap s.heap [] := va_S.rf
  have hB0 : s.heap.size = B + e_n S := hp.2.2.1
  refine e_cells (c' := e_n S - e_n S) (s' := e_s S - e_s S) (Nat.sub_self _).symm (Nat.sub_self _).symm ?_
  have hl := e_entry (vs := [e_rv B (x0), e_rv B (x1), .int (iI (x2))]) (n := 4) (Nat.le_of_ble_eq_true rfl) (e_cc (e_rv_cat _ _) (e_cc (e_rv_cat _ _) (e_cc rfl e_cn)))
  rw [lg_entry_eq]
  generalize (lg_sl [e_rv B (x0), e_rv B (x1), .int (iI (x2))] ++ List.replicate (4 - (lg_sl [e_rv B (x0), e_rv B (x1), .int (iI (x2))]).length) Slot.unset).toArray = ls at hl ⊢
  generalize ([e_rv B (x0), e_rv B (x1), .int (iI (x2))] : List Value).toArray = args at hts E ⊢
  have hl : e_lo ls 4 [(0, e_rv B (x0)), (1, e_rv B (x1)), (2, .int (iI (x2)))] := hl
  have hsh := (gd_some hsh).2
  refine lv_iconst (v := iI (0)) hx hb dX10_copyOf_0 rfl ?_
  refine e_aload_n (B := B) (x := x1) hx hb dX10_copyOf_1 rfl (hl.at 1 rfl) ?_
  obtain ⟨v2, h2, hsh⟩ := Option.bind_eq_some_iff.mp hsh
  refine e_getI (k := 1) hx hb hts in_X10 hown hp h2 rfl (by decide) (by decide) rfl (hts _ kf10_9) rfl dX10_copyOf_2 ?_
  refine lv_iload_n hx hb dX10_copyOf_5 rfl (hl.at 2 rfl) ?_
  obtain ⟨hsh, cc6⟩ := ckV_some hsh
  have cc6 : e_n S ≤ e_n S' ∧ e_s S ≤ e_s S' := cc6
  refine e_min (rest := [.int (iI (0))]) hx hb (hml.trans hl.size.symm) hown hts kl10_28 kM_min_s kM_i kM_min_c (Nat.le_of_ble_eq_true rfl) (Nat.le_trans (Nat.add_le_add_right (show _ ≤ 8 by simp [e_rv_cat, e_int_cat]) 13) (Nat.le_of_ble_eq_true rfl)) (by show _ ≤ e_n S' - e_n S; omega) (by show _ ≤ e_s S' - e_s S; omega) dX10_copyOf_6 ?_
  obtain ⟨hsh, cc9⟩ := ckV_some hsh
  have cc9 : e_n S ≤ e_n S' ∧ e_s S ≤ e_s S' := cc9
  refine e_max (rest := []) hx hb (hml.trans hl.size.symm) hown hts kl10_34 kM_max_s kM_i kM_max_c (Nat.le_of_ble_eq_true rfl) (Nat.le_trans (Nat.add_le_add_right (show _ ≤ 8 by simp [e_rv_cat, e_int_cat]) 13) (Nat.le_of_ble_eq_true rfl)) (by show _ ≤ e_n S' - e_n S; omega) (by show _ ≤ e_s S' - e_s S; omega) dX10_copyOf_9 ?_
  refine e_istore_n (lv' := [(3, .int (iI ((iMx (0) ((iMn (v2) (x2))))))), (0, e_rv B (x0)), (1, e_rv B (x1)), (2, .int (iI (x2)))]) hx hb dX10_copyOf_12 rfl hl (by decide) rfl (fun ls hl => ?_)
  refine e_aload_n (B := B) (x := x0) hx hb dX10_copyOf_13 rfl (hl.at 1 rfl) ?_
  obtain ⟨v14, h14, hsh⟩ := Option.bind_eq_some_iff.mp hsh
  refine e_getR (k := 0) hx hb hts in_X10 hown hp h14 rfl (by decide) (by decide) rfl (hts _ kf10_18) rfl dX10_copyOf_14 ?_
  obtain ⟨v17, h17, hsh⟩ := Option.bind_eq_some_iff.mp hsh
  refine e_alen (t := 100) (t0 := 0) hx hb hp h17 (by decide) rfl dX10_copyOf_17 ?_
  refine lv_iload_n hx hb dX10_copyOf_18 rfl (hl.at 0 rfl) ?_
  refine e_icmp_ge (tgt := 29) hx hb dX10_copyOf_19 (by decide) (fun c19 => ?_) (fun c19 => ?_)
  · rw [if_pos c19] at hsh
    exact w10_copyOf_b29 (hB0 := hB0) E hp hS ⟨by omega, by omega⟩ (hl.sub [1, 2, 0] rfl) hsh
  · rw [if_neg c19] at hsh
    refine e_aload_n (B := B) (x := x0) hx hb dX10_copyOf_22 rfl (hl.at 1 rfl) ?_
    refine lv_iload_n hx hb dX10_copyOf_23 rfl (hl.at 0 rfl) ?_
    obtain ⟨S24, h24, hsh⟩ := Option.bind_eq_some_iff.mp hsh
    obtain ⟨hsh, cc24⟩ := ckV_some hsh
    have cc24 : e_n S24 ≤ e_n S' ∧ e_s S24 ≤ e_s S' := cc24
    have nn := nA_n h24
    refine e_newa (t := 100) (t0 := 0) (atype := .char) (ty := .char) hx hb hts kA_char rfl hp hS h24 (by decide) rfl (fun h => h) (fun _ _ => rfl) (by decide) (by show _ ≤ e_n S' - e_n S; omega) (by show _ ≤ e_s S' - e_s S; omega) dX10_copyOf_24 (fun H hp hS => ?_)
    refine e_cells (c' := e_n S24 - e_n S) (s' := e_s S24 - e_s S) (by omega) (by omega) ?_
    obtain ⟨S26, h26, hsh⟩ := Option.bind_eq_some_iff.mp hsh
    refine e_putR (ty := .array .char) (k := 0) hx hb hts in_X10 tyX10 tyX10_ok nmX10 hown hp hS h26 rfl (by decide) (by decide) rfl (hts _ kf10_18) rfl rfl (by decide +kernel) (Or.inr ⟨_, rfl⟩) dX10_copyOf_26 (fun H locs hp hS => ?_)
    have nn := pF_n h26
    refine e_cells (c' := e_n S26 - e_n S) (s' := e_s S26 - e_s S) (by omega) (by omega) ?_
    exact w10_copyOf_b29 (hB0 := hB0) E hp hS ⟨by omega, by omega⟩ (hl.sub [1, 2, 0] rfl) hsh
theorem ok10_partOf {S : HP} {x0 : Int} {x1 : Int} {x2 : Int} {x3 : Int} {r : HP} (h : s10_partOf S x0 x1 x2 x3 = some r) : 0 ≤ x0 ∧ x0.toNat < e_n S ∧ e_g S x0.toNat = 10 := (gd_some h).1
set_option maxRecDepth 100000 in
set_option maxHeartbeats 4000000 in
theorem w10_partOf_b42 {p : Program} {l : Launch} {e : Env} {s : State} {m : MethodId} {args : Array Value} {below : List Frame} {meth : Method} {c : Code} {D : va_G} {cA : Nat → ClassId} {B : Nat} {res : HP} {S0 : HP} (hB0 : s.heap.size = B + e_n S0) (E : e_En p s m args meth c cX10_partOf RX10 6 none) {ls : Array Slot} {H : Heap} {locs : List Loc} {S : HP} {x0 : Int} {x1 : Int} {x4 : Int} {x5 : Int} (hp : e_Pic D cA B S s H) (hS : va_S (e_A B) s.heap H locs) (h0 : e_n S0 ≤ e_n S ∧ e_s S0 ≤ e_s S) (hl : e_lo ls 6 [(0, e_rv B (x0)), (1, e_rv B (x1)), (4, .int (iI (x4))), (5, .int (iI (x5)))]) (hsh : s10_partOf_b42 S x0 x1 x4 x5 = some res) : W p l e ({ frames := 1, cells := e_n res - e_n S0, slots := e_s res - e_s S0, locals := 60 } : Room) s m args below meth c H locs (e_n S - e_n S0) (e_s S - e_s S0) (MQ below (e_Qv D cA B res) args s (e_n res - e_n S0) (e_s res - e_s S0) (e_A B)) (F0 m 42 ls []) := by
  obtain ⟨hx, hb, hml, hown, hts, hlk, hrt⟩ := id E
  unfold s10_partOf_b42 at hsh
  refine e_aload_n (B := B) (x := x1) hx hb dX10_partOf_42 rfl (hl.at 1 rfl) ?_
  obtain ⟨v43, h43, hsh⟩ := Option.bind_eq_some_iff.mp hsh
  refine e_getR (k := 0) hx hb hts in_X10 hown hp h43 rfl (by decide) (by decide) rfl (hts _ kf10_18) rfl dX10_partOf_43 ?_
  refine lv_iload hx hb dX10_partOf_46 (hl.at 2 rfl) ?_
  refine e_aload_n (B := B) (x := x1) hx hb dX10_partOf_48 rfl (hl.at 1 rfl) ?_
  obtain ⟨v49, h49, hsh⟩ := Option.bind_eq_some_iff.mp hsh
  refine e_getI (k := 1) hx hb hts in_X10 hown hp h49 rfl (by decide) (by decide) rfl (hts _ kf10_9) rfl dX10_partOf_49 ?_
  obtain ⟨hsh, cc52⟩ := ckV_some hsh
  have cc52 : e_n S ≤ e_n res ∧ e_s S ≤ e_s res := cc52
  refine e_min (rest := [e_rv B (v43)]) hx hb (hml.trans hl.size.symm) hown hts kl10_28 kM_min_s kM_i kM_min_c (Nat.le_of_ble_eq_true rfl) (Nat.le_trans (Nat.add_le_add_right (show _ ≤ 8 by simp [e_rv_cat, e_int_cat]) 13) (Nat.le_of_ble_eq_true rfl)) (by show _ ≤ e_n res - e_n S0; omega) (by show _ ≤ e_s res - e_s S0; omega) dX10_partOf_52 ?_
  refine e_aload_n (B := B) (x := x0) hx hb dX10_partOf_55 rfl (hl.at 0 rfl) ?_
  obtain ⟨v56, h56, hsh⟩ := Option.bind_eq_some_iff.mp hsh
  refine e_getR (k := 0) hx hb hts in_X10 hown hp h56 rfl (by decide) (by decide) rfl (hts _ kf10_18) rfl dX10_partOf_56 ?_
  refine lv_iconst (v := iI (0)) hx hb dX10_partOf_59 rfl ?_
  refine lv_iload hx hb dX10_partOf_60 (hl.at 3 rfl) ?_
  obtain ⟨S62, h62, hsh⟩ := Option.bind_eq_some_iff.mp hsh
  refine e_copy (t := 100) (t0 := 0) (rest := []) hx hb (hml.trans hl.size.symm) hown hts kl10_22 kM_acn kM_acs kM_aci hp hS h62 (by decide) (by decide) (by decide) rfl rfl (by omega) (Nat.le_of_ble_eq_true rfl) (Nat.le_trans (Nat.add_le_add_right (show _ ≤ 8 by simp [e_rv_cat, e_int_cat]) _) (Nat.le_trans (by decide +kernel : 8 + (nativeFrameWords "java/lang/System" "arraycopy" 5 + 11) ≤ 60) (Nat.le_of_ble_eq_true rfl))) dX10_partOf_62 (fun H locs hp hS => ?_)
  have nn := cP_n h62
  refine e_cells (c' := e_n S62 - e_n S0) (s' := e_s S62 - e_s S0) (by omega) (by omega) ?_
  refine e_aload_n (B := B) (x := x0) hx hb dX10_partOf_65 rfl (hl.at 0 rfl) ?_
  refine lv_iload hx hb dX10_partOf_66 (hl.at 3 rfl) ?_
  obtain ⟨S68, h68, hsh⟩ := Option.bind_eq_some_iff.mp hsh
  refine e_putI (k := 1) hx hb hts in_X10 tyX10 tyX10_ok nmX10 hown hp hS h68 rfl (by decide) (by decide) rfl (hts _ kf10_9) rfl rfl (by decide +kernel) dX10_partOf_68 (fun H locs hp hS => ?_)
  have nn := pF_n h68
  refine e_cells (c' := e_n S68 - e_n S0) (s' := e_s S68 - e_s S0) (by omega) (by omega) ?_
  refine e_aload_n (B := B) (x := x0) hx hb dX10_partOf_71 rfl (hl.at 0 rfl) ?_
  refine lv_iconst (v := iI (0)) hx hb dX10_partOf_72 rfl ?_
  obtain ⟨S73, h73, hsh⟩ := Option.bind_eq_some_iff.mp hsh
  refine e_putI (k := 2) hx hb hts in_X10 tyX10 tyX10_ok nmX10 hown hp hS h73 rfl (by decide) (by decide) rfl (hts _ kf10_15) rfl rfl (by decide +kernel) dX10_partOf_73 (fun H locs hp hS => ?_)
  have nn := pF_n h73
  refine e_cells (c' := e_n S73 - e_n S0) (s' := e_s S73 - e_s S0) (by omega) (by omega) ?_
  cases hsh
  exact e_vret hx hb hrt hlk hp hS dX10_partOf_76
set_option maxRecDepth 100000 in
set_option maxHeartbeats 4000000 in
theorem c10_partOf (l : Launch) (D : va_G) (cA : Nat → ClassId) (B : Nat) (S S' : HP) (x0 : Int) (x1 : Int) (x2 : Int) (x3 : Int) (hsh : s10_partOf S x0 x1 x2 x3 = some S') : Met l yX10_partOf (e_wu yX10_partOf cX10_partOf 6 none) ({ frames := 1, cells := e_n S' - e_n S, slots := e_s S' - e_s S, locals := 60 } : Room) (va_Pc [e_rv B (x0), e_rv B (x1), .int (iI (x2)), .int (iI (x3))] (fun U => e_PU D cA B S U)) (e_Qv D cA B S') (e_n S' - e_n S) (e_s S' - e_s S) (e_A B) := by
  refine Met.ofW (cc := cX10_partOf) (maxL := 6) (ret := none) (by decide +kernel) rfl ?_
  intro p e s m args below meth c s₁ Bd hml hv
  obtain ⟨rfl, hp⟩ := hv
  have hp : e_Pic D cA B S s s.heap := hp
  have hx := Bd.exec
  have hb := Bd.bytes
  have hrt := Bd.returns
  have hlk := Bd.notSynchronized
  have hown : s.vm.findClass RX10 = some m.cls := findClass_of_methodNamed Bd.named
  have hts : ∀ w ∈ e_tb, w.before ([e_rv B (x0), e_rv B (x1), .int (iI (x2)), .int (iI (x3))] : List Value).toArray s = true := fun w h => atoms_spec (ws := (e_wu yX10_partOf cX10_partOf 6 none)) Bd.pre w (List.mem_cons_of_mem _ h)
  have E : e_En p s m ([e_rv B (x0), e_rv B (x1), .int (iI (x2)), .int (iI (x3))] : List Value).toArray meth c cX10_partOf RX10 6 none := ⟨hx, hb, hml, hown, hts, hlk, hrt⟩
  have hS : va_S (e_A B) s.heap s.heap [] := va_S.rf
  have hB0 : s.heap.size = B + e_n S := hp.2.2.1
  refine e_cells (c' := e_n S - e_n S) (s' := e_s S - e_s S) (Nat.sub_self _).symm (Nat.sub_self _).symm ?_
  have hl := e_entry (vs := [e_rv B (x0), e_rv B (x1), .int (iI (x2)), .int (iI (x3))]) (n := 6) (Nat.le_of_ble_eq_true rfl) (e_cc (e_rv_cat _ _) (e_cc (e_rv_cat _ _) (e_cc rfl (e_cc rfl e_cn))))
  rw [lg_entry_eq]
  generalize (lg_sl [e_rv B (x0), e_rv B (x1), .int (iI (x2)), .int (iI (x3))] ++ List.replicate (6 - (lg_sl [e_rv B (x0), e_rv B (x1), .int (iI (x2)), .int (iI (x3))]).length) Slot.unset).toArray = ls at hl ⊢
  generalize ([e_rv B (x0), e_rv B (x1), .int (iI (x2)), .int (iI (x3))] : List Value).toArray = args at hts E ⊢
  have hl : e_lo ls 6 [(0, e_rv B (x0)), (1, e_rv B (x1)), (2, .int (iI (x2))), (3, .int (iI (x3)))] := hl
  have hsh := (gd_some hsh).2
  refine lv_iconst (v := iI (0)) hx hb dX10_partOf_0 rfl ?_
  refine lv_iload_n hx hb dX10_partOf_1 rfl (hl.at 2 rfl) ?_
  obtain ⟨hsh, cc2⟩ := ckV_some hsh
  have cc2 : e_n S ≤ e_n S' ∧ e_s S ≤ e_s S' := cc2
  refine e_max (rest := []) hx hb (hml.trans hl.size.symm) hown hts kl10_34 kM_max_s kM_i kM_max_c (Nat.le_of_ble_eq_true rfl) (Nat.le_trans (Nat.add_le_add_right (show _ ≤ 8 by simp [e_rv_cat, e_int_cat]) 13) (Nat.le_of_ble_eq_true rfl)) (by show _ ≤ e_n S' - e_n S; omega) (by show _ ≤ e_s S' - e_s S; omega) dX10_partOf_2 ?_
  refine e_istore (lv' := [(4, .int (iI ((iMx (0) (x2))))), (0, e_rv B (x0)), (1, e_rv B (x1)), (2, .int (iI (x2))), (3, .int (iI (x3)))]) hx hb dX10_partOf_5 hl (by decide) rfl (fun ls hl => ?_)
  refine lv_iconst (v := iI (0)) hx hb dX10_partOf_7 rfl ?_
  refine lv_iload_n hx hb dX10_partOf_8 rfl (hl.at 4 rfl) ?_
  refine e_aload_n (B := B) (x := x1) hx hb dX10_partOf_9 rfl (hl.at 2 rfl) ?_
  obtain ⟨v10, h10, hsh⟩ := Option.bind_eq_some_iff.mp hsh
  refine e_getI (k := 1) hx hb hts in_X10 hown hp h10 rfl (by decide) (by decide) rfl (hts _ kf10_9) rfl dX10_partOf_10 ?_
  obtain ⟨hsh, cc13⟩ := ckV_some hsh
  have cc13 : e_n S ≤ e_n S' ∧ e_s S ≤ e_s S' := cc13
  refine e_min (rest := [.int (iI (0))]) hx hb (hml.trans hl.size.symm) hown hts kl10_28 kM_min_s kM_i kM_min_c (Nat.le_of_ble_eq_true rfl) (Nat.le_trans (Nat.add_le_add_right (show _ ≤ 8 by simp [e_rv_cat, e_int_cat]) 13) (Nat.le_of_ble_eq_true rfl)) (by show _ ≤ e_n S' - e_n S; omega) (by show _ ≤ e_s S' - e_s S; omega) dX10_partOf_13 ?_
  refine lv_iload hx hb dX10_partOf_16 (hl.at 0 rfl) ?_
  refine e_isub hx hb dX10_partOf_18 ?_
  obtain ⟨hsh, cc19⟩ := ckV_some hsh
  have cc19 : e_n S ≤ e_n S' ∧ e_s S ≤ e_s S' := cc19
  refine e_max (rest := []) hx hb (hml.trans hl.size.symm) hown hts kl10_34 kM_max_s kM_i kM_max_c (Nat.le_of_ble_eq_true rfl) (Nat.le_trans (Nat.add_le_add_right (show _ ≤ 8 by simp [e_rv_cat, e_int_cat]) 13) (Nat.le_of_ble_eq_true rfl)) (by show _ ≤ e_n S' - e_n S; omega) (by show _ ≤ e_s S' - e_s S; omega) dX10_partOf_19 ?_
  refine e_istore (lv' := [(5, .int (iI ((iMx (0) (((iMn (x3) (v10)) - (iMx (0) (x2)))))))), (4, .int (iI ((iMx (0) (x2))))), (0, e_rv B (x0)), (1, e_rv B (x1)), (2, .int (iI (x2))), (3, .int (iI (x3)))]) hx hb dX10_partOf_22 hl (by decide) rfl (fun ls hl => ?_)
  refine e_aload_n (B := B) (x := x0) hx hb dX10_partOf_24 rfl (hl.at 2 rfl) ?_
  obtain ⟨v25, h25, hsh⟩ := Option.bind_eq_some_iff.mp hsh
  refine e_getR (k := 0) hx hb hts in_X10 hown hp h25 rfl (by decide) (by decide) rfl (hts _ kf10_18) rfl dX10_partOf_25 ?_
  obtain ⟨v28, h28, hsh⟩ := Option.bind_eq_some_iff.mp hsh
  refine e_alen (t := 100) (t0 := 0) hx hb hp h28 (by decide) rfl dX10_partOf_28 ?_
  refine lv_iload hx hb dX10_partOf_29 (hl.at 0 rfl) ?_
  refine e_icmp_ge (tgt := 42) hx hb dX10_partOf_31 (by decide) (fun c31 => ?_) (fun c31 => ?_)
  · rw [if_pos c31] at hsh
    exact w10_partOf_b42 (hB0 := hB0) E hp hS ⟨by omega, by omega⟩ (hl.sub [2, 3, 1, 0] rfl) hsh
  · rw [if_neg c31] at hsh
    refine e_aload_n (B := B) (x := x0) hx hb dX10_partOf_34 rfl (hl.at 2 rfl) ?_
    refine lv_iload hx hb dX10_partOf_35 (hl.at 0 rfl) ?_
    obtain ⟨S37, h37, hsh⟩ := Option.bind_eq_some_iff.mp hsh
    obtain ⟨hsh, cc37⟩ := ckV_some hsh
    have cc37 : e_n S37 ≤ e_n S' ∧ e_s S37 ≤ e_s S' := cc37
    have nn := nA_n h37
    refine e_newa (t := 100) (t0 := 0) (atype := .char) (ty := .char) hx hb hts kA_char rfl hp hS h37 (by decide) rfl (fun h => h) (fun _ _ => rfl) (by decide) (by show _ ≤ e_n S' - e_n S; omega) (by show _ ≤ e_s S' - e_s S; omega) dX10_partOf_37 (fun H hp hS => ?_)
    refine e_cells (c' := e_n S37 - e_n S) (s' := e_s S37 - e_s S) (by omega) (by omega) ?_
    obtain ⟨S39, h39, hsh⟩ := Option.bind_eq_some_iff.mp hsh
    refine e_putR (ty := .array .char) (k := 0) hx hb hts in_X10 tyX10 tyX10_ok nmX10 hown hp hS h39 rfl (by decide) (by decide) rfl (hts _ kf10_18) rfl rfl (by decide +kernel) (Or.inr ⟨_, rfl⟩) dX10_partOf_39 (fun H locs hp hS => ?_)
    have nn := pF_n h39
    refine e_cells (c' := e_n S39 - e_n S) (s' := e_s S39 - e_s S) (by omega) (by omega) ?_
    exact w10_partOf_b42 (hB0 := hB0) E hp hS ⟨by omega, by omega⟩ (hl.sub [2, 3, 1, 0] rfl) hsh
theorem ok11_sizeOf {S : HP} {x0 : Int} {x1 : Int} {r : Int × HP} (h : s11_sizeOf S x0 x1 = some r) : 0 ≤ x0 ∧ x0.toNat < e_n S ∧ e_g S x0.toNat = 11 := (gd_some h).1
set_option maxRecDepth 100000 in
set_option maxHeartbeats 4000000 in
theorem w11_sizeOf_b22 {p : Program} {l : Launch} {e : Env} {s : State} {m : MethodId} {args : Array Value} {below : List Frame} {meth : Method} {c : Code} {D : va_G} {cA : Nat → ClassId} {B : Nat} {res : Int × HP} (E : e_En p s m args meth c cX11_sizeOf RX11 2 (some .int)) {ls : Array Slot} {H : Heap} {locs : List Loc} {S : HP} {y0 : Int} (hp : e_Pic D cA B S s H) (hS : va_S (e_A B) s.heap H locs) (hl : e_lo ls 2 []) (hsh : s11_sizeOf_b22 S y0 = some res) : W p l e ({ frames := 0, cells := 0, slots := 0, locals := 0 } : Room) s m args below meth c H locs 0 0 (MQ below (e_Qi D cA B res.1 res.2) args s 0 0 (e_A B)) (F0 m 22 ls [.int (iI (y0))]) := by
  obtain ⟨hx, hb, hml, hown, hts, hlk, hrt⟩ := id E
  unfold s11_sizeOf_b22 at hsh
  cases hsh
  exact e_iret hx hb hrt hlk hp hS dX11_sizeOf_22
set_option maxRecDepth 100000 in
set_option maxHeartbeats 4000000 in
theorem w11_sizeOf_b12 {p : Program} {l : Launch} {e : Env} {s : State} {m : MethodId} {args : Array Value} {below : List Frame} {meth : Method} {c : Code} {D : va_G} {cA : Nat → ClassId} {B : Nat} {res : Int × HP} (E : e_En p s m args meth c cX11_sizeOf RX11 2 (some .int)) {ls : Array Slot} {H : Heap} {locs : List Loc} {S : HP} (hp : e_Pic D cA B S s H) (hS : va_S (e_A B) s.heap H locs) (hl : e_lo ls 2 []) (hsh : s11_sizeOf_b12 S  = some res) : W p l e ({ frames := 0, cells := 0, slots := 0, locals := 0 } : Room) s m args below meth c H locs 0 0 (MQ below (e_Qi D cA B res.1 res.2) args s 0 0 (e_A B)) (F0 m 12 ls []) := by
  obtain ⟨hx, hb, hml, hown, hts, hlk, hrt⟩ := id E
  unfold s11_sizeOf_b12 at hsh
  refine lv_iconst (v := iI (0)) hx hb dX11_sizeOf_12 rfl ?_
  refine lv_goto (tgt := 22) hx hb dX11_sizeOf_13 (by decide) ?_
  exact w11_sizeOf_b22 E hp hS (hl.sub [] rfl) hsh
set_option maxRecDepth 100000 in
set_option maxHeartbeats 4000000 in
theorem c11_sizeOf (l : Launch) (D : va_G) (cA : Nat → ClassId) (B : Nat) (S S' : HP) (x0 : Int) (x1 : Int) (r : Int) (hsh : s11_sizeOf S x0 x1 = some (r, S')) : Met l yX11_sizeOf (e_wu yX11_sizeOf cX11_sizeOf 2 (some .int)) ({ frames := 0, cells := 0, slots := 0, locals := 0 } : Room) (va_Pc [e_rv B (x0), .int (iI (x1))] (fun U => e_PU D cA B S U)) (e_Qi D cA B r S') 0 0 (e_A B) := by
  refine Met.ofW (cc := cX11_sizeOf) (maxL := 2) (ret := (some .int)) (by decide +kernel) rfl ?_
  intro p e s m args below meth c s₁ Bd hml hv
  obtain ⟨rfl, hp⟩ := hv
  have hp : e_Pic D cA B S s s.heap := hp
  have hx := Bd.exec
  have hb := Bd.bytes
  have hrt := Bd.returns
  have hlk := Bd.notSynchronized
  have hown : s.vm.findClass RX11 = some m.cls := findClass_of_methodNamed Bd.named
  have hts : ∀ w ∈ e_tb, w.before ([e_rv B (x0), .int (iI (x1))] : List Value).toArray s = true := fun w h => atoms_spec (ws := (e_wu yX11_sizeOf cX11_sizeOf 2 (some .int))) Bd.pre w (List.mem_cons_of_mem _ h)
  have E : e_En p s m ([e_rv B (x0), .int (iI (x1))] : List Value).toArray meth c cX11_sizeOf RX11 2 (some .int) := ⟨hx, hb, hml, hown, hts, hlk, hrt⟩
  have hS : va_S (e_A B) s.heap s.heap [] := va_S.rf
  have hl := e_entry (vs := [e_rv B (x0), .int (iI (x1))]) (n := 2) (Nat.le_of_ble_eq_true rfl) (e_cc (e_rv_cat _ _) (e_cc rfl e_cn))
  rw [lg_entry_eq]
  generalize (lg_sl [e_rv B (x0), .int (iI (x1))] ++ List.replicate (2 - (lg_sl [e_rv B (x0), .int (iI (x1))]).length) Slot.unset).toArray = ls at hl ⊢
  generalize ([e_rv B (x0), .int (iI (x1))] : List Value).toArray = args at hts E ⊢
  have hl : e_lo ls 2 [(0, e_rv B (x0)), (1, .int (iI (x1)))] := hl
  have hsh := (gd_some hsh).2
  refine lv_iload_n hx hb dX11_sizeOf_0 rfl (hl.at 1 rfl) ?_
  refine e_if_lt (tgt := 12) hx hb dX11_sizeOf_1 (by decide) (fun c1 => ?_) (fun c1 => ?_)
  · rw [if_pos c1] at hsh
    exact w11_sizeOf_b12 E hp hS (hl.sub [] rfl) hsh
  · rw [if_neg c1] at hsh
    refine lv_iload_n hx hb dX11_sizeOf_4 rfl (hl.at 1 rfl) ?_
    refine e_aload_n (B := B) (x := x0) hx hb dX11_sizeOf_5 rfl (hl.at 0 rfl) ?_
    obtain ⟨v6, h6, hsh⟩ := Option.bind_eq_some_iff.mp hsh
    refine e_getI (k := 5) hx hb hts in_X11 hown hp h6 rfl (by decide) (by decide) rfl (hts _ kf11_26) rfl dX11_sizeOf_6 ?_
    refine e_icmp_lt (tgt := 16) hx hb dX11_sizeOf_9 (by decide) (fun c9 => ?_) (fun c9 => ?_)
    · rw [if_pos c9] at hsh
      refine e_aload_n (B := B) (x := x0) hx hb dX11_sizeOf_16 rfl (hl.at 0 rfl) ?_
      obtain ⟨v17, h17, hsh⟩ := Option.bind_eq_some_iff.mp hsh
      refine e_getR (k := 1) hx hb hts in_X11 hown hp h17 rfl (by decide) (by decide) rfl (hts _ kf11_15) rfl dX11_sizeOf_17 ?_
      refine lv_iload_n hx hb dX11_sizeOf_20 rfl (hl.at 1 rfl) ?_
      obtain ⟨v21, h21, hsh⟩ := Option.bind_eq_some_iff.mp hsh
      refine e_iald hx hb hp h21 dX11_sizeOf_21 ?_
      exact w11_sizeOf_b22 E hp hS (hl.sub [] rfl) hsh
    · rw [if_neg c9] at hsh
      exact w11_sizeOf_b12 E hp hS (hl.sub [] rfl) hsh
theorem ok11_firstSign {S : HP} {x0 : Int} {x1 : Int} {r : Int × HP} (h : s11_firstSign S x0 x1 = some r) : 0 ≤ x0 ∧ x0.toNat < e_n S ∧ e_g S x0.toNat = 11 := (gd_some h).1
set_option maxRecDepth 100000 in
set_option maxHeartbeats 4000000 in
theorem w11_firstSign_b12 {p : Program} {l : Launch} {e : Env} {s : State} {m : MethodId} {args : Array Value} {below : List Frame} {meth : Method} {c : Code} {D : va_G} {cA : Nat → ClassId} {B : Nat} {res : Int × HP} (E : e_En p s m args meth c cX11_firstSign RX11 3 (some .int)) {ls : Array Slot} {H : Heap} {locs : List Loc} {S : HP} (hp : e_Pic D cA B S s H) (hS : va_S (e_A B) s.heap H locs) (hl : e_lo ls 3 []) (hsh : s11_firstSign_b12 S  = some res) : W p l e ({ frames := 0, cells := 0, slots := 0, locals := 0 } : Room) s m args below meth c H locs 0 0 (MQ below (e_Qi D cA B res.1 res.2) args s 0 0 (e_A B)) (F0 m 12 ls []) := by
  obtain ⟨hx, hb, hml, hown, hts, hlk, hrt⟩ := id E
  unfold s11_firstSign_b12 at hsh
  refine lv_iconst (v := iI (0)) hx hb dX11_firstSign_12 rfl ?_
  cases hsh
  exact e_iret hx hb hrt hlk hp hS dX11_firstSign_13
set_option maxRecDepth 100000 in
set_option maxHeartbeats 4000000 in
theorem w11_firstSign_b50 {p : Program} {l : Launch} {e : Env} {s : State} {m : MethodId} {args : Array Value} {below : List Frame} {meth : Method} {c : Code} {D : va_G} {cA : Nat → ClassId} {B : Nat} {res : Int × HP} (E : e_En p s m args meth c cX11_firstSign RX11 3 (some .int)) {ls : Array Slot} {H : Heap} {locs : List Loc} {S : HP} {x2 : Int} (hp : e_Pic D cA B S s H) (hS : va_S (e_A B) s.heap H locs) (hl : e_lo ls 3 [(2, .int (iI (x2)))]) (hsh : s11_firstSign_b50 S x2 = some res) : W p l e ({ frames := 0, cells := 0, slots := 0, locals := 0 } : Room) s m args below meth c H locs 0 0 (MQ below (e_Qi D cA B res.1 res.2) args s 0 0 (e_A B)) (F0 m 50 ls []) := by
  obtain ⟨hx, hb, hml, hown, hts, hlk, hrt⟩ := id E
  unfold s11_firstSign_b50 at hsh
  refine lv_iload_n hx hb dX11_firstSign_50 rfl (hl.at 0 rfl) ?_
  cases hsh
  exact e_iret hx hb hrt hlk hp hS dX11_firstSign_51
set_option maxRecDepth 100000 in
set_option maxHeartbeats 4000000 in
theorem w11_firstSign_l16 {p : Program} {l : Launch} {e : Env} {s : State} {m : MethodId} {args : Array Value} {below : List Frame} {meth : Method} {c : Code} {D : va_G} {cA : Nat → ClassId} {B : Nat} {res : Int × HP} (E : e_En p s m args meth c cX11_firstSign RX11 3 (some .int)) : ∀ (f : Nat) {ls : Array Slot} {H : Heap} {locs : List Loc} {S : HP} {x0 : Int} {x1 : Int} {x2 : Int} (hp : e_Pic D cA B S s H) (hS : va_S (e_A B) s.heap H locs) (hl : e_lo ls 3 [(0, e_rv B (x0)), (1, .int (iI (x1))), (2, .int (iI (x2)))]) (hsh : s11_firstSign_l16 f S x0 x1 x2 = some res), W p l e ({ frames := 0, cells := 0, slots := 0, locals := 0 } : Room) s m args below meth c H locs 0 0 (MQ below (e_Qi D cA B res.1 res.2) args s 0 0 (e_A B)) (F0 m 16 ls []) := by
  obtain ⟨hx, hb, hml, hown, hts, hlk, hrt⟩ := id E
  intro f
  induction f with
  | zero => intro ls H locs S x0 x1 x2 hp hS hl hsh; cases hsh
  | succ f ih =>
    intro ls H locs S x0 x1 x2 hp hS hl hsh
    have hk16 : ∀ {ls : Array Slot} {H : Heap} {locs : List Loc} {S : HP} {x0 : Int} {x1 : Int} {x2 : Int} (hp : e_Pic D cA B S s H) (hS : va_S (e_A B) s.heap H locs) (hl : e_lo ls 3 [(0, e_rv B (x0)), (1, .int (iI (x1))), (2, .int (iI (x2)))]) (hsh : (s11_firstSign_l16 f) S x0 x1 x2 = some res), W p l e ({ frames := 0, cells := 0, slots := 0, locals := 0 } : Room) s m args below meth c H locs 0 0 (MQ below (e_Qi D cA B res.1 res.2) args s 0 0 (e_A B)) (F0 m 16 ls []) := ih
    generalize hkk : s11_firstSign_l16 f = k16 at hk16
    rw [s11_firstSign_l16] at hsh
    rw [hkk] at hsh
    try dsimp only at hsh
    refine lv_iload_n hx hb dX11_firstSign_16 rfl (hl.at 2 rfl) ?_
    refine e_aload_n (B := B) (x := x0) hx hb dX11_firstSign_17 rfl (hl.at 0 rfl) ?_
    obtain ⟨v18, h18, hsh⟩ := Option.bind_eq_some_iff.mp hsh
    refine e_getR (k := 1) hx hb hts in_X11 hown hp h18 rfl (by decide) (by decide) rfl (hts _ kf11_15) rfl dX11_firstSign_18 ?_
    refine lv_iload_n hx hb dX11_firstSign_21 rfl (hl.at 1 rfl) ?_
    obtain ⟨v22, h22, hsh⟩ := Option.bind_eq_some_iff.mp hsh
    refine e_iald hx hb hp h22 dX11_firstSign_22 ?_
    refine lv_iconst (v := iI (1)) hx hb dX11_firstSign_23 rfl ?_
    refine e_isub hx hb dX11_firstSign_24 ?_
    refine e_icmp_ge (tgt := 50) hx hb dX11_firstSign_25 (by decide) (fun c25 => ?_) (fun c25 => ?_)
    · rw [if_pos c25] at hsh
      exact w11_firstSign_b50 E hp hS (hl.sub [2] rfl) hsh
    · rw [if_neg c25] at hsh
      refine e_aload_n (B := B) (x := x0) hx hb dX11_firstSign_28 rfl (hl.at 0 rfl) ?_
      obtain ⟨v29, h29, hsh⟩ := Option.bind_eq_some_iff.mp hsh
      refine e_getR (k := 0) hx hb hts in_X11 hown hp h29 rfl (by decide) (by decide) rfl (hts _ kf11_9) rfl dX11_firstSign_29 ?_
      refine lv_iload_n hx hb dX11_firstSign_32 rfl (hl.at 1 rfl) ?_
      refine lv_bipush (v := iI (60)) hx hb dX11_firstSign_33 (by decide +kernel) ?_
      refine e_imul hx hb dX11_firstSign_35 ?_
      refine lv_iload_n hx hb dX11_firstSign_36 rfl (hl.at 2 rfl) ?_
      refine e_iadd hx hb dX11_firstSign_37 ?_
      obtain ⟨v38, h38, hsh⟩ := Option.bind_eq_some_iff.mp hsh
      refine e_cald hx hb hp h38 dX11_firstSign_38 ?_
      refine lv_bipush (v := iI (32)) hx hb dX11_firstSign_39 (by decide +kernel) ?_
      refine e_icmp_ne (tgt := 50) hx hb dX11_firstSign_41 (by decide) (fun c41 => ?_) (fun c41 => ?_)
      · rw [if_neg c41] at hsh
        exact w11_firstSign_b50 E hp hS (hl.sub [2] rfl) hsh
      · rw [if_pos c41] at hsh
        refine e_iinc (n := 1) (x := x2) (lv' := [(2, .int (iI ((x2 + 1)))), (0, e_rv B (x0)), (1, .int (iI (x1)))]) hx hb dX11_firstSign_44 hl (k := 2) rfl (by decide) rfl (fun ls hl => ?_)
        refine lv_goto (tgt := 16) hx hb dX11_firstSign_47 (by decide) ?_
        exact hk16 hp hS (hl.sub [1, 2, 0] rfl) hsh
set_option maxRecDepth 100000 in
set_option maxHeartbeats 4000000 in
theorem c11_firstSign (l : Launch) (D : va_G) (cA : Nat → ClassId) (B : Nat) (S S' : HP) (x0 : Int) (x1 : Int) (r : Int) (hsh : s11_firstSign S x0 x1 = some (r, S')) : Met l yX11_firstSign (e_wu yX11_firstSign cX11_firstSign 3 (some .int)) ({ frames := 0, cells := 0, slots := 0, locals := 0 } : Room) (va_Pc [e_rv B (x0), .int (iI (x1))] (fun U => e_PU D cA B S U)) (e_Qi D cA B r S') 0 0 (e_A B) := by
  refine Met.ofW (cc := cX11_firstSign) (maxL := 3) (ret := (some .int)) (by decide +kernel) rfl ?_
  intro p e s m args below meth c s₁ Bd hml hv
  obtain ⟨rfl, hp⟩ := hv
  have hp : e_Pic D cA B S s s.heap := hp
  have hx := Bd.exec
  have hb := Bd.bytes
  have hrt := Bd.returns
  have hlk := Bd.notSynchronized
  have hown : s.vm.findClass RX11 = some m.cls := findClass_of_methodNamed Bd.named
  have hts : ∀ w ∈ e_tb, w.before ([e_rv B (x0), .int (iI (x1))] : List Value).toArray s = true := fun w h => atoms_spec (ws := (e_wu yX11_firstSign cX11_firstSign 3 (some .int))) Bd.pre w (List.mem_cons_of_mem _ h)
  have E : e_En p s m ([e_rv B (x0), .int (iI (x1))] : List Value).toArray meth c cX11_firstSign RX11 3 (some .int) := ⟨hx, hb, hml, hown, hts, hlk, hrt⟩
  have hS : va_S (e_A B) s.heap s.heap [] := va_S.rf
  have hl := e_entry (vs := [e_rv B (x0), .int (iI (x1))]) (n := 3) (Nat.le_of_ble_eq_true rfl) (e_cc (e_rv_cat _ _) (e_cc rfl e_cn))
  rw [lg_entry_eq]
  generalize (lg_sl [e_rv B (x0), .int (iI (x1))] ++ List.replicate (3 - (lg_sl [e_rv B (x0), .int (iI (x1))]).length) Slot.unset).toArray = ls at hl ⊢
  generalize ([e_rv B (x0), .int (iI (x1))] : List Value).toArray = args at hts E ⊢
  have hl : e_lo ls 3 [(0, e_rv B (x0)), (1, .int (iI (x1)))] := hl
  have hsh := (gd_some hsh).2
  refine lv_iload_n hx hb dX11_firstSign_0 rfl (hl.at 1 rfl) ?_
  refine e_if_lt (tgt := 12) hx hb dX11_firstSign_1 (by decide) (fun c1 => ?_) (fun c1 => ?_)
  · rw [if_pos c1] at hsh
    exact w11_firstSign_b12 E hp hS (hl.sub [] rfl) hsh
  · rw [if_neg c1] at hsh
    refine lv_iload_n hx hb dX11_firstSign_4 rfl (hl.at 1 rfl) ?_
    refine e_aload_n (B := B) (x := x0) hx hb dX11_firstSign_5 rfl (hl.at 0 rfl) ?_
    obtain ⟨v6, h6, hsh⟩ := Option.bind_eq_some_iff.mp hsh
    refine e_getI (k := 5) hx hb hts in_X11 hown hp h6 rfl (by decide) (by decide) rfl (hts _ kf11_26) rfl dX11_firstSign_6 ?_
    refine e_icmp_lt (tgt := 14) hx hb dX11_firstSign_9 (by decide) (fun c9 => ?_) (fun c9 => ?_)
    · rw [if_pos c9] at hsh
      refine lv_iconst (v := iI (0)) hx hb dX11_firstSign_14 rfl ?_
      refine e_istore_n (lv' := [(2, .int (iI (0))), (0, e_rv B (x0)), (1, .int (iI (x1)))]) hx hb dX11_firstSign_15 rfl hl (by decide) rfl (fun ls hl => ?_)
      exact w11_firstSign_l16 E 1000000 hp hS (hl.sub [1, 2, 0] rfl) hsh
    · rw [if_neg c9] at hsh
      exact w11_firstSign_b12 E hp hS (hl.sub [] rfl) hsh
theorem ok11_firstDifference {S : HP} {x0 : Int} {x1 : Int} {r : Int × HP} (h : s11_firstDifference S x0 x1 = some r) : 0 ≤ x0 ∧ x0.toNat < e_n S ∧ e_g S x0.toNat = 11 := (gd_some h).1
set_option maxRecDepth 100000 in
set_option maxHeartbeats 4000000 in
theorem w11_firstDifference_b110 {p : Program} {l : Launch} {e : Env} {s : State} {m : MethodId} {args : Array Value} {below : List Frame} {meth : Method} {c : Code} {D : va_G} {cA : Nat → ClassId} {B : Nat} {res : Int × HP} (E : e_En p s m args meth c cX11_firstDifference RX11 4 (some .int)) {ls : Array Slot} {H : Heap} {locs : List Loc} {S : HP} {y0 : Int} (hp : e_Pic D cA B S s H) (hS : va_S (e_A B) s.heap H locs) (hl : e_lo ls 4 []) (hsh : s11_firstDifference_b110 S y0 = some res) : W p l e ({ frames := 1, cells := 0, slots := 0, locals := 21 } : Room) s m args below meth c H locs 0 0 (MQ below (e_Qi D cA B res.1 res.2) args s 0 0 (e_A B)) (F0 m 110 ls [.int (iI (y0))]) := by
  obtain ⟨hx, hb, hml, hown, hts, hlk, hrt⟩ := id E
  unfold s11_firstDifference_b110 at hsh
  cases hsh
  exact e_iret hx hb hrt hlk hp hS dX11_firstDifference_110
set_option maxRecDepth 100000 in
set_option maxHeartbeats 4000000 in
theorem w11_firstDifference_b84 {p : Program} {l : Launch} {e : Env} {s : State} {m : MethodId} {args : Array Value} {below : List Frame} {meth : Method} {c : Code} {D : va_G} {cA : Nat → ClassId} {B : Nat} {res : Int × HP} (E : e_En p s m args meth c cX11_firstDifference RX11 4 (some .int)) {ls : Array Slot} {H : Heap} {locs : List Loc} {S : HP} {x0 : Int} {x1 : Int} (hp : e_Pic D cA B S s H) (hS : va_S (e_A B) s.heap H locs) (hl : e_lo ls 4 [(0, e_rv B (x0)), (1, e_rv B (x1))]) (hsh : s11_firstDifference_b84 S x0 x1 = some res) : W p l e ({ frames := 1, cells := 0, slots := 0, locals := 21 } : Room) s m args below meth c H locs 0 0 (MQ below (e_Qi D cA B res.1 res.2) args s 0 0 (e_A B)) (F0 m 84 ls []) := by
  obtain ⟨hx, hb, hml, hown, hts, hlk, hrt⟩ := id E
  unfold s11_firstDifference_b84 at hsh
  refine e_aload_n (B := B) (x := x0) hx hb dX11_firstDifference_84 rfl (hl.at 0 rfl) ?_
  obtain ⟨v85, h85, hsh⟩ := Option.bind_eq_some_iff.mp hsh
  refine e_getI (k := 5) hx hb hts in_X11 hown hp h85 rfl (by decide) (by decide) rfl (hts _ kf11_26) rfl dX11_firstDifference_85 ?_
  refine e_aload_n (B := B) (x := x1) hx hb dX11_firstDifference_88 rfl (hl.at 1 rfl) ?_
  obtain ⟨v89, h89, hsh⟩ := Option.bind_eq_some_iff.mp hsh
  refine e_getI (k := 5) hx hb hts in_X11 hown hp h89 rfl (by decide) (by decide) rfl (hts _ kf11_26) rfl dX11_firstDifference_89 ?_
  refine e_icmp_ne (tgt := 99) hx hb dX11_firstDifference_92 (by decide) (fun c92 => ?_) (fun c92 => ?_)
  · rw [if_neg c92] at hsh
    refine e_aload_n (B := B) (x := x0) hx hb dX11_firstDifference_99 rfl (hl.at 0 rfl) ?_
    obtain ⟨v100, h100, hsh⟩ := Option.bind_eq_some_iff.mp hsh
    refine e_getI (k := 5) hx hb hts in_X11 hown hp h100 rfl (by decide) (by decide) rfl (hts _ kf11_26) rfl dX11_firstDifference_100 ?_
    refine e_aload_n (B := B) (x := x1) hx hb dX11_firstDifference_103 rfl (hl.at 1 rfl) ?_
    obtain ⟨v104, h104, hsh⟩ := Option.bind_eq_some_iff.mp hsh
    refine e_getI (k := 5) hx hb hts in_X11 hown hp h104 rfl (by decide) (by decide) rfl (hts _ kf11_26) rfl dX11_firstDifference_104 ?_
    refine e_min (rest := []) hx hb (hml.trans hl.size.symm) hown hts kl11_41 kM_min_s kM_i kM_min_c (Nat.le_of_ble_eq_true rfl) (Nat.le_trans (Nat.add_le_add_right (show _ ≤ 8 by simp [e_rv_cat, e_int_cat]) 13) (Nat.le_of_ble_eq_true rfl)) (Nat.le_refl _) (Nat.le_refl _) dX11_firstDifference_107 ?_
    exact w11_firstDifference_b110 E hp hS (hl.sub [] rfl) hsh
  · rw [if_pos c92] at hsh
    refine lv_iconst (v := iI (-1)) hx hb dX11_firstDifference_95 rfl ?_
    refine lv_goto (tgt := 110) hx hb dX11_firstDifference_96 (by decide) ?_
    exact w11_firstDifference_b110 E hp hS (hl.sub [] rfl) hsh
set_option maxRecDepth 100000 in
set_option maxHeartbeats 4000000 in
theorem w11_firstDifference_l40 {p : Program} {l : Launch} {e : Env} {s : State} {m : MethodId} {args : Array Value} {below : List Frame} {meth : Method} {c : Code} {D : va_G} {cA : Nat → ClassId} {B : Nat} {res : Int × HP} {k2 : HP → Int → Int → Int → Option (Int × HP)} (hk2 : ∀ {ls : Array Slot} {H : Heap} {locs : List Loc} {S : HP} {x0 : Int} {x1 : Int} {x2 : Int} (hp : e_Pic D cA B S s H) (hS : va_S (e_A B) s.heap H locs) (hl : e_lo ls 4 [(0, e_rv B (x0)), (1, e_rv B (x1)), (2, .int (iI (x2)))]) (hsh : k2 S x0 x1 x2 = some res), W p l e ({ frames := 1, cells := 0, slots := 0, locals := 21 } : Room) s m args below meth c H locs 0 0 (MQ below (e_Qi D cA B res.1 res.2) args s 0 0 (e_A B)) (F0 m 2 ls [])) (E : e_En p s m args meth c cX11_firstDifference RX11 4 (some .int)) : ∀ (f : Nat) {ls : Array Slot} {H : Heap} {locs : List Loc} {S : HP} {x0 : Int} {x1 : Int} {x2 : Int} {x3 : Int} (hp : e_Pic D cA B S s H) (hS : va_S (e_A B) s.heap H locs) (hl : e_lo ls 4 [(0, e_rv B (x0)), (1, e_rv B (x1)), (2, .int (iI (x2))), (3, .int (iI (x3)))]) (hsh : s11_firstDifference_l40 k2 f S x0 x1 x2 x3 = some res), W p l e ({ frames := 1, cells := 0, slots := 0, locals := 21 } : Room) s m args below meth c H locs 0 0 (MQ below (e_Qi D cA B res.1 res.2) args s 0 0 (e_A B)) (F0 m 40 ls []) := by
  obtain ⟨hx, hb, hml, hown, hts, hlk, hrt⟩ := id E
  intro f
  induction f with
  | zero => intro ls H locs S x0 x1 x2 x3 hp hS hl hsh; cases hsh
  | succ f ih =>
    intro ls H locs S x0 x1 x2 x3 hp hS hl hsh
    have hk40 : ∀ {ls : Array Slot} {H : Heap} {locs : List Loc} {S : HP} {x0 : Int} {x1 : Int} {x2 : Int} {x3 : Int} (hp : e_Pic D cA B S s H) (hS : va_S (e_A B) s.heap H locs) (hl : e_lo ls 4 [(0, e_rv B (x0)), (1, e_rv B (x1)), (2, .int (iI (x2))), (3, .int (iI (x3)))]) (hsh : (s11_firstDifference_l40 k2 f) S x0 x1 x2 x3 = some res), W p l e ({ frames := 1, cells := 0, slots := 0, locals := 21 } : Room) s m args below meth c H locs 0 0 (MQ below (e_Qi D cA B res.1 res.2) args s 0 0 (e_A B)) (F0 m 40 ls []) := ih
    generalize hkk : s11_firstDifference_l40 k2 f = k40 at hk40
    rw [s11_firstDifference_l40] at hsh
    rw [hkk] at hsh
    try dsimp only at hsh
    refine lv_iload_n hx hb dX11_firstDifference_40 rfl (hl.at 3 rfl) ?_
    refine lv_iload_n hx hb dX11_firstDifference_41 rfl (hl.at 2 rfl) ?_
    refine lv_bipush (v := iI (60)) hx hb dX11_firstDifference_42 (by decide +kernel) ?_
    refine e_imul hx hb dX11_firstDifference_44 ?_
    refine e_aload_n (B := B) (x := x0) hx hb dX11_firstDifference_45 rfl (hl.at 0 rfl) ?_
    obtain ⟨v46, h46, hsh⟩ := Option.bind_eq_some_iff.mp hsh
    refine e_getR (k := 1) hx hb hts in_X11 hown hp h46 rfl (by decide) (by decide) rfl (hts _ kf11_15) rfl dX11_firstDifference_46 ?_
    refine lv_iload_n hx hb dX11_firstDifference_49 rfl (hl.at 2 rfl) ?_
    obtain ⟨v50, h50, hsh⟩ := Option.bind_eq_some_iff.mp hsh
    refine e_iald hx hb hp h50 dX11_firstDifference_50 ?_
    refine e_iadd hx hb dX11_firstDifference_51 ?_
    refine e_icmp_ge (tgt := 78) hx hb dX11_firstDifference_52 (by decide) (fun c52 => ?_) (fun c52 => ?_)
    · rw [if_pos c52] at hsh
      refine e_iinc (n := 1) (x := x2) (lv' := [(2, .int (iI ((x2 + 1)))), (0, e_rv B (x0)), (1, e_rv B (x1)), (3, .int (iI (x3)))]) hx hb dX11_firstDifference_78 hl (k := 2) rfl (by decide) rfl (fun ls hl => ?_)
      refine lv_goto (tgt := 2) hx hb dX11_firstDifference_81 (by decide) ?_
      exact hk2 hp hS (hl.sub [1, 2, 0] rfl) hsh
    · rw [if_neg c52] at hsh
      refine e_aload_n (B := B) (x := x0) hx hb dX11_firstDifference_55 rfl (hl.at 0 rfl) ?_
      obtain ⟨v56, h56, hsh⟩ := Option.bind_eq_some_iff.mp hsh
      refine e_getR (k := 0) hx hb hts in_X11 hown hp h56 rfl (by decide) (by decide) rfl (hts _ kf11_9) rfl dX11_firstDifference_56 ?_
      refine lv_iload_n hx hb dX11_firstDifference_59 rfl (hl.at 3 rfl) ?_
      obtain ⟨v60, h60, hsh⟩ := Option.bind_eq_some_iff.mp hsh
      refine e_cald hx hb hp h60 dX11_firstDifference_60 ?_
      refine e_aload_n (B := B) (x := x1) hx hb dX11_firstDifference_61 rfl (hl.at 1 rfl) ?_
      obtain ⟨v62, h62, hsh⟩ := Option.bind_eq_some_iff.mp hsh
      refine e_getR (k := 0) hx hb hts in_X11 hown hp h62 rfl (by decide) (by decide) rfl (hts _ kf11_9) rfl dX11_firstDifference_62 ?_
      refine lv_iload_n hx hb dX11_firstDifference_65 rfl (hl.at 3 rfl) ?_
      obtain ⟨v66, h66, hsh⟩ := Option.bind_eq_some_iff.mp hsh
      refine e_cald hx hb hp h66 dX11_firstDifference_66 ?_
      refine e_icmp_eq (tgt := 72) hx hb dX11_firstDifference_67 (by decide) (fun c67 => ?_) (fun c67 => ?_)
      · rw [if_pos c67] at hsh
        refine e_iinc (n := 1) (x := x3) (lv' := [(3, .int (iI ((x3 + 1)))), (0, e_rv B (x0)), (1, e_rv B (x1)), (2, .int (iI (x2)))]) hx hb dX11_firstDifference_72 hl (k := 3) rfl (by decide) rfl (fun ls hl => ?_)
        refine lv_goto (tgt := 40) hx hb dX11_firstDifference_75 (by decide) ?_
        exact hk40 hp hS (hl.sub [1, 2, 3, 0] rfl) hsh
      · rw [if_neg c67] at hsh
        refine lv_iload_n hx hb dX11_firstDifference_70 rfl (hl.at 2 rfl) ?_
        cases hsh
        exact e_iret hx hb hrt hlk hp hS dX11_firstDifference_71
set_option maxRecDepth 100000 in
set_option maxHeartbeats 4000000 in
theorem w11_firstDifference_l2 {p : Program} {l : Launch} {e : Env} {s : State} {m : MethodId} {args : Array Value} {below : List Frame} {meth : Method} {c : Code} {D : va_G} {cA : Nat → ClassId} {B : Nat} {res : Int × HP} (E : e_En p s m args meth c cX11_firstDifference RX11 4 (some .int)) : ∀ (f : Nat) {ls : Array Slot} {H : Heap} {locs : List Loc} {S : HP} {x0 : Int} {x1 : Int} {x2 : Int} (hp : e_Pic D cA B S s H) (hS : va_S (e_A B) s.heap H locs) (hl : e_lo ls 4 [(0, e_rv B (x0)), (1, e_rv B (x1)), (2, .int (iI (x2)))]) (hsh : s11_firstDifference_l2 f S x0 x1 x2 = some res), W p l e ({ frames := 1, cells := 0, slots := 0, locals := 21 } : Room) s m args below meth c H locs 0 0 (MQ below (e_Qi D cA B res.1 res.2) args s 0 0 (e_A B)) (F0 m 2 ls []) := by
  obtain ⟨hx, hb, hml, hown, hts, hlk, hrt⟩ := id E
  intro f
  induction f with
  | zero => intro ls H locs S x0 x1 x2 hp hS hl hsh; cases hsh
  | succ f ih =>
    intro ls H locs S x0 x1 x2 hp hS hl hsh
    have hk2 : ∀ {ls : Array Slot} {H : Heap} {locs : List Loc} {S : HP} {x0 : Int} {x1 : Int} {x2 : Int} (hp : e_Pic D cA B S s H) (hS : va_S (e_A B) s.heap H locs) (hl : e_lo ls 4 [(0, e_rv B (x0)), (1, e_rv B (x1)), (2, .int (iI (x2)))]) (hsh : (s11_firstDifference_l2 f) S x0 x1 x2 = some res), W p l e ({ frames := 1, cells := 0, slots := 0, locals := 21 } : Room) s m args below meth c H locs 0 0 (MQ below (e_Qi D cA B res.1 res.2) args s 0 0 (e_A B)) (F0 m 2 ls []) := ih
    generalize hkk : s11_firstDifference_l2 f = k2 at hk2
    rw [s11_firstDifference_l2] at hsh
    rw [hkk] at hsh
    try dsimp only at hsh
    refine lv_iload_n hx hb dX11_firstDifference_2 rfl (hl.at 2 rfl) ?_
    refine e_aload_n (B := B) (x := x0) hx hb dX11_firstDifference_3 rfl (hl.at 0 rfl) ?_
    obtain ⟨v4, h4, hsh⟩ := Option.bind_eq_some_iff.mp hsh
    refine e_getI (k := 5) hx hb hts in_X11 hown hp h4 rfl (by decide) (by decide) rfl (hts _ kf11_26) rfl dX11_firstDifference_4 ?_
    refine e_icmp_ge (tgt := 84) hx hb dX11_firstDifference_7 (by decide) (fun c7 => ?_) (fun c7 => ?_)
    · rw [if_pos c7] at hsh
      exact w11_firstDifference_b84 E hp hS (hl.sub [0, 1] rfl) hsh
    · rw [if_neg c7] at hsh
      refine lv_iload_n hx hb dX11_firstDifference_10 rfl (hl.at 2 rfl) ?_
      refine e_aload_n (B := B) (x := x1) hx hb dX11_firstDifference_11 rfl (hl.at 1 rfl) ?_
      obtain ⟨v12, h12, hsh⟩ := Option.bind_eq_some_iff.mp hsh
      refine e_getI (k := 5) hx hb hts in_X11 hown hp h12 rfl (by decide) (by decide) rfl (hts _ kf11_26) rfl dX11_firstDifference_12 ?_
      refine e_icmp_ge (tgt := 84) hx hb dX11_firstDifference_15 (by decide) (fun c15 => ?_) (fun c15 => ?_)
      · rw [if_pos c15] at hsh
        exact w11_firstDifference_b84 E hp hS (hl.sub [0, 1] rfl) hsh
      · rw [if_neg c15] at hsh
        refine e_aload_n (B := B) (x := x0) hx hb dX11_firstDifference_18 rfl (hl.at 0 rfl) ?_
        obtain ⟨v19, h19, hsh⟩ := Option.bind_eq_some_iff.mp hsh
        refine e_getR (k := 1) hx hb hts in_X11 hown hp h19 rfl (by decide) (by decide) rfl (hts _ kf11_15) rfl dX11_firstDifference_19 ?_
        refine lv_iload_n hx hb dX11_firstDifference_22 rfl (hl.at 2 rfl) ?_
        obtain ⟨v23, h23, hsh⟩ := Option.bind_eq_some_iff.mp hsh
        refine e_iald hx hb hp h23 dX11_firstDifference_23 ?_
        refine e_aload_n (B := B) (x := x1) hx hb dX11_firstDifference_24 rfl (hl.at 1 rfl) ?_
        obtain ⟨v25, h25, hsh⟩ := Option.bind_eq_some_iff.mp hsh
        refine e_getR (k := 1) hx hb hts in_X11 hown hp h25 rfl (by decide) (by decide) rfl (hts _ kf11_15) rfl dX11_firstDifference_25 ?_
        refine lv_iload_n hx hb dX11_firstDifference_28 rfl (hl.at 2 rfl) ?_
        obtain ⟨v29, h29, hsh⟩ := Option.bind_eq_some_iff.mp hsh
        refine e_iald hx hb hp h29 dX11_firstDifference_29 ?_
        refine e_icmp_eq (tgt := 35) hx hb dX11_firstDifference_30 (by decide) (fun c30 => ?_) (fun c30 => ?_)
        · rw [if_pos c30] at hsh
          refine lv_iload_n hx hb dX11_firstDifference_35 rfl (hl.at 2 rfl) ?_
          refine lv_bipush (v := iI (60)) hx hb dX11_firstDifference_36 (by decide +kernel) ?_
          refine e_imul hx hb dX11_firstDifference_38 ?_
          refine e_istore_n (lv' := [(3, .int (iI ((x2 * 60)))), (0, e_rv B (x0)), (1, e_rv B (x1)), (2, .int (iI (x2)))]) hx hb dX11_firstDifference_39 rfl hl (by decide) rfl (fun ls hl => ?_)
          exact w11_firstDifference_l40 (hk2 := hk2) E 1000000 hp hS (hl.sub [1, 2, 3, 0] rfl) hsh
        · rw [if_neg c30] at hsh
          refine lv_iload_n hx hb dX11_firstDifference_33 rfl (hl.at 2 rfl) ?_
          cases hsh
          exact e_iret hx hb hrt hlk hp hS dX11_firstDifference_34
set_option maxRecDepth 100000 in
set_option maxHeartbeats 4000000 in
theorem c11_firstDifference (l : Launch) (D : va_G) (cA : Nat → ClassId) (B : Nat) (S S' : HP) (x0 : Int) (x1 : Int) (r : Int) (hsh : s11_firstDifference S x0 x1 = some (r, S')) : Met l yX11_firstDifference (e_wu yX11_firstDifference cX11_firstDifference 4 (some .int)) ({ frames := 1, cells := 0, slots := 0, locals := 21 } : Room) (va_Pc [e_rv B (x0), e_rv B (x1)] (fun U => e_PU D cA B S U)) (e_Qi D cA B r S') 0 0 (e_A B) := by
  refine Met.ofW (cc := cX11_firstDifference) (maxL := 4) (ret := (some .int)) (by decide +kernel) rfl ?_
  intro p e s m args below meth c s₁ Bd hml hv
  obtain ⟨rfl, hp⟩ := hv
  have hp : e_Pic D cA B S s s.heap := hp
  have hx := Bd.exec
  have hb := Bd.bytes
  have hrt := Bd.returns
  have hlk := Bd.notSynchronized
  have hown : s.vm.findClass RX11 = some m.cls := findClass_of_methodNamed Bd.named
  have hts : ∀ w ∈ e_tb, w.before ([e_rv B (x0), e_rv B (x1)] : List Value).toArray s = true := fun w h => atoms_spec (ws := (e_wu yX11_firstDifference cX11_firstDifference 4 (some .int))) Bd.pre w (List.mem_cons_of_mem _ h)
  have E : e_En p s m ([e_rv B (x0), e_rv B (x1)] : List Value).toArray meth c cX11_firstDifference RX11 4 (some .int) := ⟨hx, hb, hml, hown, hts, hlk, hrt⟩
  have hS : va_S (e_A B) s.heap s.heap [] := va_S.rf
  have hl := e_entry (vs := [e_rv B (x0), e_rv B (x1)]) (n := 4) (Nat.le_of_ble_eq_true rfl) (e_cc (e_rv_cat _ _) (e_cc (e_rv_cat _ _) e_cn))
  rw [lg_entry_eq]
  generalize (lg_sl [e_rv B (x0), e_rv B (x1)] ++ List.replicate (4 - (lg_sl [e_rv B (x0), e_rv B (x1)]).length) Slot.unset).toArray = ls at hl ⊢
  generalize ([e_rv B (x0), e_rv B (x1)] : List Value).toArray = args at hts E ⊢
  have hl : e_lo ls 4 [(0, e_rv B (x0)), (1, e_rv B (x1))] := hl
  have hsh := (gd_some hsh).2
  refine lv_iconst (v := iI (0)) hx hb dX11_firstDifference_0 rfl ?_
  refine e_istore_n (lv' := [(2, .int (iI (0))), (0, e_rv B (x0)), (1, e_rv B (x1))]) hx hb dX11_firstDifference_1 rfl hl (by decide) rfl (fun ls hl => ?_)
  exact w11_firstDifference_l2 E 1000000 hp hS (hl.sub [1, 2, 0] rfl) hsh
theorem ok11_copyOf {S : HP} {x0 : Int} {x1 : Int} {r : HP} (h : s11_copyOf S x0 x1 = some r) : 0 ≤ x0 ∧ x0.toNat < e_n S ∧ e_g S x0.toNat = 11 := (gd_some h).1
set_option maxRecDepth 100000 in
set_option maxHeartbeats 4000000 in
theorem w11_copyOf_l46 {p : Program} {l : Launch} {e : Env} {s : State} {m : MethodId} {args : Array Value} {below : List Frame} {meth : Method} {c : Code} {D : va_G} {cA : Nat → ClassId} {B : Nat} {res : HP} (E : e_En p s m args meth c cX11_copyOf RX11 3 none) : ∀ (f : Nat) {ls : Array Slot} {H : Heap} {locs : List Loc} {S : HP} {x0 : Int} {x2 : Int} (hp : e_Pic D cA B S s H) (hS : va_S (e_A B) s.heap H locs) (hl : e_lo ls 3 [(0, e_rv B (x0)), (2, .int (iI (x2)))]) (hsh : s11_copyOf_l46 f S x0 x2 = some res), W p l e ({ frames := 1, cells := 0, slots := 0, locals := 60 } : Room) s m args below meth c H locs 0 0 (MQ below (e_Qv D cA B res) args s 0 0 (e_A B)) (F0 m 46 ls []) := by
  obtain ⟨hx, hb, hml, hown, hts, hlk, hrt⟩ := id E
  intro f
  induction f with
  | zero => intro ls H locs S x0 x2 hp hS hl hsh; cases hsh
  | succ f ih =>
    intro ls H locs S x0 x2 hp hS hl hsh
    have hk46 : ∀ {ls : Array Slot} {H : Heap} {locs : List Loc} {S : HP} {x0 : Int} {x2 : Int} (hp : e_Pic D cA B S s H) (hS : va_S (e_A B) s.heap H locs) (hl : e_lo ls 3 [(0, e_rv B (x0)), (2, .int (iI (x2)))]) (hsh : (s11_copyOf_l46 f) S x0 x2 = some res), W p l e ({ frames := 1, cells := 0, slots := 0, locals := 60 } : Room) s m args below meth c H locs 0 0 (MQ below (e_Qv D cA B res) args s 0 0 (e_A B)) (F0 m 46 ls []) := ih
    generalize hkk : s11_copyOf_l46 f = k46 at hk46
    rw [s11_copyOf_l46] at hsh
    rw [hkk] at hsh
    try dsimp only at hsh
    refine lv_iload_n hx hb dX11_copyOf_46 rfl (hl.at 1 rfl) ?_
    refine e_aload_n (B := B) (x := x0) hx hb dX11_copyOf_47 rfl (hl.at 0 rfl) ?_
    obtain ⟨v48, h48, hsh⟩ := Option.bind_eq_some_iff.mp hsh
    refine e_getI (k := 5) hx hb hts in_X11 hown hp h48 rfl (by decide) (by decide) rfl (hts _ kf11_26) rfl dX11_copyOf_48 ?_
    refine e_icmp_ge (tgt := 80) hx hb dX11_copyOf_51 (by decide) (fun c51 => ?_) (fun c51 => ?_)
    · rw [if_pos c51] at hsh
      cases hsh
      exact e_vret hx hb hrt hlk hp hS dX11_copyOf_80
    · rw [if_neg c51] at hsh
      refine e_aload_n (B := B) (x := x0) hx hb dX11_copyOf_54 rfl (hl.at 0 rfl) ?_
      refine lv_dup hx hb dX11_copyOf_55 (e_rv_cat _ _) ?_
      obtain ⟨v56, h56, hsh⟩ := Option.bind_eq_some_iff.mp hsh
      refine e_getI (k := 3) hx hb hts in_X11 hown hp h56 rfl (by decide) (by decide) rfl (hts _ kf11_22) rfl dX11_copyOf_56 ?_
      refine lv_iconst (v := iI (1)) hx hb dX11_copyOf_59 rfl ?_
      refine e_iadd hx hb dX11_copyOf_60 ?_
      obtain ⟨S61, h61, hsh⟩ := Option.bind_eq_some_iff.mp hsh
      refine e_putI (k := 3) hx hb hts in_X11 tyX11 tyX11_ok nmX11 hown hp hS h61 rfl (by decide) (by decide) rfl (hts _ kf11_22) rfl rfl (by decide +kernel) dX11_copyOf_61 (fun H locs hp hS => ?_)
      refine e_aload_n (B := B) (x := x0) hx hb dX11_copyOf_64 rfl (hl.at 0 rfl) ?_
      obtain ⟨v65, h65, hsh⟩ := Option.bind_eq_some_iff.mp hsh
      refine e_getR (k := 2) hx hb hts in_X11 hown hp h65 rfl (by decide) (by decide) rfl (hts _ kf11_19) rfl dX11_copyOf_65 ?_
      refine lv_iload_n hx hb dX11_copyOf_68 rfl (hl.at 1 rfl) ?_
      refine e_aload_n (B := B) (x := x0) hx hb dX11_copyOf_69 rfl (hl.at 0 rfl) ?_
      obtain ⟨v70, h70, hsh⟩ := Option.bind_eq_some_iff.mp hsh
      refine e_getI (k := 3) hx hb hts in_X11 hown hp h70 rfl (by decide) (by decide) rfl (hts _ kf11_22) rfl dX11_copyOf_70 ?_
      obtain ⟨S73, h73, hsh⟩ := Option.bind_eq_some_iff.mp hsh
      refine e_iast hx hb hp hS h73 dX11_copyOf_73 (fun H locs hp hS => ?_)
      refine e_iinc (n := 1) (x := x2) (lv' := [(2, .int (iI ((x2 + 1)))), (0, e_rv B (x0))]) hx hb dX11_copyOf_74 hl (k := 1) rfl (by decide) rfl (fun ls hl => ?_)
      refine lv_goto (tgt := 46) hx hb dX11_copyOf_77 (by decide) ?_
      exact hk46 hp hS (hl.sub [1, 0] rfl) hsh
set_option maxRecDepth 100000 in
set_option maxHeartbeats 4000000 in
theorem c11_copyOf (l : Launch) (D : va_G) (cA : Nat → ClassId) (B : Nat) (S S' : HP) (x0 : Int) (x1 : Int) (hsh : s11_copyOf S x0 x1 = some S') : Met l yX11_copyOf (e_wu yX11_copyOf cX11_copyOf 3 none) ({ frames := 1, cells := 0, slots := 0, locals := 60 } : Room) (va_Pc [e_rv B (x0), e_rv B (x1)] (fun U => e_PU D cA B S U)) (e_Qv D cA B S') 0 0 (e_A B) := by
  refine Met.ofW (cc := cX11_copyOf) (maxL := 3) (ret := none) (by decide +kernel) rfl ?_
  intro p e s m args below meth c s₁ Bd hml hv
  obtain ⟨rfl, hp⟩ := hv
  have hp : e_Pic D cA B S s s.heap := hp
  have hx := Bd.exec
  have hb := Bd.bytes
  have hrt := Bd.returns
  have hlk := Bd.notSynchronized
  have hown : s.vm.findClass RX11 = some m.cls := findClass_of_methodNamed Bd.named
  have hts : ∀ w ∈ e_tb, w.before ([e_rv B (x0), e_rv B (x1)] : List Value).toArray s = true := fun w h => atoms_spec (ws := (e_wu yX11_copyOf cX11_copyOf 3 none)) Bd.pre w (List.mem_cons_of_mem _ h)
  have E : e_En p s m ([e_rv B (x0), e_rv B (x1)] : List Value).toArray meth c cX11_copyOf RX11 3 none := ⟨hx, hb, hml, hown, hts, hlk, hrt⟩
  have hS : va_S (e_A B) s.heap s.heap [] := va_S.rf
  have hl := e_entry (vs := [e_rv B (x0), e_rv B (x1)]) (n := 3) (Nat.le_of_ble_eq_true rfl) (e_cc (e_rv_cat _ _) (e_cc (e_rv_cat _ _) e_cn))
  rw [lg_entry_eq]
  generalize (lg_sl [e_rv B (x0), e_rv B (x1)] ++ List.replicate (3 - (lg_sl [e_rv B (x0), e_rv B (x1)]).length) Slot.unset).toArray = ls at hl ⊢
  generalize ([e_rv B (x0), e_rv B (x1)] : List Value).toArray = args at hts E ⊢
  have hl : e_lo ls 3 [(0, e_rv B (x0)), (1, e_rv B (x1))] := hl
  have hsh := (gd_some hsh).2
  refine e_aload_n (B := B) (x := x1) hx hb dX11_copyOf_0 rfl (hl.at 1 rfl) ?_
  obtain ⟨v1, h1, hsh⟩ := Option.bind_eq_some_iff.mp hsh
  refine e_getR (k := 0) hx hb hts in_X11 hown hp h1 rfl (by decide) (by decide) rfl (hts _ kf11_9) rfl dX11_copyOf_1 ?_
  refine lv_iconst (v := iI (0)) hx hb dX11_copyOf_4 rfl ?_
  refine e_aload_n (B := B) (x := x0) hx hb dX11_copyOf_5 rfl (hl.at 0 rfl) ?_
  obtain ⟨v6, h6, hsh⟩ := Option.bind_eq_some_iff.mp hsh
  refine e_getR (k := 0) hx hb hts in_X11 hown hp h6 rfl (by decide) (by decide) rfl (hts _ kf11_9) rfl dX11_copyOf_6 ?_
  refine lv_iconst (v := iI (0)) hx hb dX11_copyOf_9 rfl ?_
  refine e_aload_n (B := B) (x := x0) hx hb dX11_copyOf_10 rfl (hl.at 0 rfl) ?_
  obtain ⟨v11, h11, hsh⟩ := Option.bind_eq_some_iff.mp hsh
  refine e_getR (k := 0) hx hb hts in_X11 hown hp h11 rfl (by decide) (by decide) rfl (hts _ kf11_9) rfl dX11_copyOf_11 ?_
  obtain ⟨v14, h14, hsh⟩ := Option.bind_eq_some_iff.mp hsh
  refine e_alen (t := 100) (t0 := 0) hx hb hp h14 (by decide) rfl dX11_copyOf_14 ?_
  obtain ⟨S15, h15, hsh⟩ := Option.bind_eq_some_iff.mp hsh
  refine e_copy (t := 100) (t0 := 0) (rest := []) hx hb (hml.trans hl.size.symm) hown hts kl11_47 kM_acn kM_acs kM_aci hp hS h15 (by decide) (by decide) (by decide) rfl rfl (by have h9 := hS.1; have h8 := hp.2.2.1; omega) (Nat.le_of_ble_eq_true rfl) (Nat.le_trans (Nat.add_le_add_right (show _ ≤ 8 by simp [e_rv_cat, e_int_cat]) _) (Nat.le_trans (by decide +kernel : 8 + (nativeFrameWords "java/lang/System" "arraycopy" 5 + 11) ≤ 60) (Nat.le_of_ble_eq_true rfl))) dX11_copyOf_15 (fun H locs hp hS => ?_)
  refine e_aload_n (B := B) (x := x1) hx hb dX11_copyOf_18 rfl (hl.at 1 rfl) ?_
  obtain ⟨v19, h19, hsh⟩ := Option.bind_eq_some_iff.mp hsh
  refine e_getR (k := 1) hx hb hts in_X11 hown hp h19 rfl (by decide) (by decide) rfl (hts _ kf11_15) rfl dX11_copyOf_19 ?_
  refine lv_iconst (v := iI (0)) hx hb dX11_copyOf_22 rfl ?_
  refine e_aload_n (B := B) (x := x0) hx hb dX11_copyOf_23 rfl (hl.at 0 rfl) ?_
  obtain ⟨v24, h24, hsh⟩ := Option.bind_eq_some_iff.mp hsh
  refine e_getR (k := 1) hx hb hts in_X11 hown hp h24 rfl (by decide) (by decide) rfl (hts _ kf11_15) rfl dX11_copyOf_24 ?_
  refine lv_iconst (v := iI (0)) hx hb dX11_copyOf_27 rfl ?_
  refine e_aload_n (B := B) (x := x0) hx hb dX11_copyOf_28 rfl (hl.at 0 rfl) ?_
  obtain ⟨v29, h29, hsh⟩ := Option.bind_eq_some_iff.mp hsh
  refine e_getR (k := 1) hx hb hts in_X11 hown hp h29 rfl (by decide) (by decide) rfl (hts _ kf11_15) rfl dX11_copyOf_29 ?_
  obtain ⟨v32, h32, hsh⟩ := Option.bind_eq_some_iff.mp hsh
  refine e_alen (t := 101) (t0 := 1) hx hb hp h32 (by decide) rfl dX11_copyOf_32 ?_
  obtain ⟨S33, h33, hsh⟩ := Option.bind_eq_some_iff.mp hsh
  refine e_copy (t := 101) (t0 := 1) (rest := []) hx hb (hml.trans hl.size.symm) hown hts kl11_47 kM_acn kM_acs kM_aci hp hS h33 (by decide) (by decide) (by decide) rfl rfl (by have h9 := hS.1; have h8 := hp.2.2.1; omega) (Nat.le_of_ble_eq_true rfl) (Nat.le_trans (Nat.add_le_add_right (show _ ≤ 8 by simp [e_rv_cat, e_int_cat]) _) (Nat.le_trans (by decide +kernel : 8 + (nativeFrameWords "java/lang/System" "arraycopy" 5 + 11) ≤ 60) (Nat.le_of_ble_eq_true rfl))) dX11_copyOf_33 (fun H locs hp hS => ?_)
  refine e_aload_n (B := B) (x := x0) hx hb dX11_copyOf_36 rfl (hl.at 0 rfl) ?_
  refine e_aload_n (B := B) (x := x1) hx hb dX11_copyOf_37 rfl (hl.at 1 rfl) ?_
  obtain ⟨v38, h38, hsh⟩ := Option.bind_eq_some_iff.mp hsh
  refine e_getI (k := 5) hx hb hts in_X11 hown hp h38 rfl (by decide) (by decide) rfl (hts _ kf11_26) rfl dX11_copyOf_38 ?_
  obtain ⟨S41, h41, hsh⟩ := Option.bind_eq_some_iff.mp hsh
  refine e_putI (k := 5) hx hb hts in_X11 tyX11 tyX11_ok nmX11 hown hp hS h41 rfl (by decide) (by decide) rfl (hts _ kf11_26) rfl rfl (by decide +kernel) dX11_copyOf_41 (fun H locs hp hS => ?_)
  refine lv_iconst (v := iI (0)) hx hb dX11_copyOf_44 rfl ?_
  refine e_istore_n (lv' := [(2, .int (iI (0))), (0, e_rv B (x0)), (1, e_rv B (x1))]) hx hb dX11_copyOf_45 rfl hl (by decide) rfl (fun ls hl => ?_)
  exact w11_copyOf_l46 E 1000000 hp hS (hl.sub [1, 0] rfl) hsh
theorem ok11_renewLines {S : HP} {x0 : Int} {x1 : Int} {x2 : Int} {r : HP} (h : s11_renewLines S x0 x1 x2 = some r) : 0 ≤ x0 ∧ x0.toNat < e_n S ∧ e_g S x0.toNat = 11 := (gd_some h).1
set_option maxRecDepth 100000 in
set_option maxHeartbeats 4000000 in
theorem w11_renewLines_b19 {p : Program} {l : Launch} {e : Env} {s : State} {m : MethodId} {args : Array Value} {below : List Frame} {meth : Method} {c : Code} {D : va_G} {cA : Nat → ClassId} {B : Nat} {res : HP} (E : e_En p s m args meth c cX11_renewLines RX11 4 none) {ls : Array Slot} {H : Heap} {locs : List Loc} {S : HP} (hp : e_Pic D cA B S s H) (hS : va_S (e_A B) s.heap H locs) (hl : e_lo ls 4 []) (hsh : s11_renewLines_b19 S  = some res) : W p l e ({ frames := 2, cells := 0, slots := 0, locals := 51 } : Room) s m args below meth c H locs 0 0 (MQ below (e_Qv D cA B res) args s 0 0 (e_A B)) (F0 m 19 ls []) := by
  obtain ⟨hx, hb, hml, hown, hts, hlk, hrt⟩ := id E
  unfold s11_renewLines_b19 at hsh
  cases hsh
  exact e_vret hx hb hrt hlk hp hS dX11_renewLines_19
set_option maxRecDepth 100000 in
set_option maxHeartbeats 4000000 in
theorem w11_renewLines_b84 {p : Program} {l : Launch} {e : Env} {s : State} {m : MethodId} {args : Array Value} {below : List Frame} {meth : Method} {c : Code} {D : va_G} {cA : Nat → ClassId} {B : Nat} {res : HP} (E : e_En p s m args meth c cX11_renewLines RX11 4 none) {ls : Array Slot} {H : Heap} {locs : List Loc} {S : HP} (hp : e_Pic D cA B S s H) (hS : va_S (e_A B) s.heap H locs) (hl : e_lo ls 4 []) (hsh : s11_renewLines_b84 S  = some res) : W p l e ({ frames := 2, cells := 0, slots := 0, locals := 51 } : Room) s m args below meth c H locs 0 0 (MQ below (e_Qv D cA B res) args s 0 0 (e_A B)) (F0 m 84 ls []) := by
  obtain ⟨hx, hb, hml, hown, hts, hlk, hrt⟩ := id E
  unfold s11_renewLines_b84 at hsh
  cases hsh
  exact e_vret hx hb hrt hlk hp hS dX11_renewLines_84
set_option maxRecDepth 100000 in
set_option maxHeartbeats 4000000 in
theorem w11_renewLines_l22 {p : Program} {l : Launch} {e : Env} {s : State} {m : MethodId} {args : Array Value} {below : List Frame} {meth : Method} {c : Code} {D : va_G} {cA : Nat → ClassId} {B : Nat} {res : HP} (E : e_En p s m args meth c cX11_renewLines RX11 4 none) : ∀ (f : Nat) {ls : Array Slot} {H : Heap} {locs : List Loc} {S : HP} {x0 : Int} {x1 : Int} {x2 : Int} {x3 : Int} (hp : e_Pic D cA B S s H) (hS : va_S (e_A B) s.heap H locs) (hl : e_lo ls 4 [(0, e_rv B (x0)), (1, .int (iI (x1))), (2, .int (iI (x2))), (3, .int (iI (x3)))]) (hsh : s11_renewLines_l22 f S x0 x1 x2 x3 = some res), W p l e ({ frames := 2, cells := 0, slots := 0, locals := 51 } : Room) s m args below meth c H locs 0 0 (MQ below (e_Qv D cA B res) args s 0 0 (e_A B)) (F0 m 22 ls []) := by
  obtain ⟨hx, hb, hml, hown, hts, hlk, hrt⟩ := id E
  intro f
  induction f with
  | zero => intro ls H locs S x0 x1 x2 x3 hp hS hl hsh; cases hsh
  | succ f ih =>
    intro ls H locs S x0 x1 x2 x3 hp hS hl hsh
    have hk22 : ∀ {ls : Array Slot} {H : Heap} {locs : List Loc} {S : HP} {x0 : Int} {x1 : Int} {x2 : Int} {x3 : Int} (hp : e_Pic D cA B S s H) (hS : va_S (e_A B) s.heap H locs) (hl : e_lo ls 4 [(0, e_rv B (x0)), (1, .int (iI (x1))), (2, .int (iI (x2))), (3, .int (iI (x3)))]) (hsh : (s11_renewLines_l22 f) S x0 x1 x2 x3 = some res), W p l e ({ frames := 2, cells := 0, slots := 0, locals := 51 } : Room) s m args below meth c H locs 0 0 (MQ below (e_Qv D cA B res) args s 0 0 (e_A B)) (F0 m 22 ls []) := ih
    generalize hkk : s11_renewLines_l22 f = k22 at hk22
    rw [s11_renewLines_l22] at hsh
    rw [hkk] at hsh
    try dsimp only at hsh
    refine lv_iload_n hx hb dX11_renewLines_22 rfl (hl.at 3 rfl) ?_
    refine lv_iload_n hx hb dX11_renewLines_23 rfl (hl.at 1 rfl) ?_
    refine lv_iload_n hx hb dX11_renewLines_24 rfl (hl.at 2 rfl) ?_
    refine e_iadd hx hb dX11_renewLines_25 ?_
    refine e_icmp_ge (tgt := 55) hx hb dX11_renewLines_26 (by decide) (fun c26 => ?_) (fun c26 => ?_)
    · rw [if_pos c26] at hsh
      refine e_aload_n (B := B) (x := x0) hx hb dX11_renewLines_55 rfl (hl.at 0 rfl) ?_
      obtain ⟨v56, h56, hsh⟩ := Option.bind_eq_some_iff.mp hsh
      refine e_getR (k := 4) hx hb hts in_X11 hown hp h56 rfl (by decide) (by decide) rfl (hts _ kf11_29) rfl dX11_renewLines_56 ?_
      refine e_ifnull (tgt := 84) hx hb dX11_renewLines_59 (by decide) (fun c59 => ?_) (fun c59 => ?_)
      · rw [if_pos c59] at hsh
        exact w11_renewLines_b84 E hp hS (hl.sub [] rfl) hsh
      · rw [if_neg c59] at hsh
        refine e_aload_n (B := B) (x := x0) hx hb dX11_renewLines_62 rfl (hl.at 0 rfl) ?_
        obtain ⟨v63, h63, hsh⟩ := Option.bind_eq_some_iff.mp hsh
        refine e_getR (k := 4) hx hb hts in_X11 hown hp h63 rfl (by decide) (by decide) rfl (hts _ kf11_29) rfl dX11_renewLines_63 ?_
        refine lv_iload_n hx hb dX11_renewLines_66 rfl (hl.at 1 rfl) ?_
        refine lv_iload_n hx hb dX11_renewLines_67 rfl (hl.at 2 rfl) ?_
        refine e_aload_n (B := B) (x := x0) hx hb dX11_renewLines_68 rfl (hl.at 0 rfl) ?_
        obtain ⟨v69, h69, hsh⟩ := Option.bind_eq_some_iff.mp hsh
        refine e_getI (k := 5) hx hb hts in_X11 hown hp h69 rfl (by decide) (by decide) rfl (hts _ kf11_26) rfl dX11_renewLines_69 ?_
        obtain ⟨S72, h72, hsh⟩ := Option.bind_eq_some_iff.mp hsh
        have ok72 := ok6_linesGone h72
        refine e_callV (nL := 4) (mc := 0) (ms := 0) (T := TX6) (N := 16) (As := [.int (iI (x1)), .int (iI (x2)), .int (iI (v69))]) (rest := []) hx hb hml hown hts hp hS hl.size ok72.1 ok72.2.1 ok72.2.2 rfl (by decide) (c6_linesGone l D cA B S S72 (v63) (x1) (x2) (v69) h72) rfl rfl kd6_linesGone (kl11_67) ks6_linesGone kv6_linesGone ki6 kh6_linesGone ⟨Nat.le_of_ble_eq_true rfl, Nat.le_of_ble_eq_true rfl⟩ rfl (by simp [e_rv_cat, e_int_cat, e_long_cat]) ⟨Nat.le_refl _, Nat.le_refl _⟩ dX11_renewLines_72 rfl (fun H locs hp hS => ?_)
        refine e_aload_n (B := B) (x := x0) hx hb dX11_renewLines_75 rfl (hl.at 0 rfl) ?_
        obtain ⟨v76, h76, hsh⟩ := Option.bind_eq_some_iff.mp hsh
        refine e_getR (k := 4) hx hb hts in_X11 hown hp h76 rfl (by decide) (by decide) rfl (hts _ kf11_29) rfl dX11_renewLines_76 ?_
        refine lv_iload_n hx hb dX11_renewLines_79 rfl (hl.at 1 rfl) ?_
        refine lv_iload_n hx hb dX11_renewLines_80 rfl (hl.at 2 rfl) ?_
        obtain ⟨S81, h81, hsh⟩ := Option.bind_eq_some_iff.mp hsh
        have ok81 := ok6_linesPut h81
        refine e_callV (nL := 4) (mc := 0) (ms := 0) (T := TX6) (N := 16) (As := [.int (iI (x1)), .int (iI (x2))]) (rest := []) hx hb hml hown hts hp hS hl.size ok81.1 ok81.2.1 ok81.2.2 rfl (by decide) (c6_linesPut l D cA B S72 S81 (v76) (x1) (x2) h81) rfl rfl kd6_linesPut (kl11_61) ks6_linesPut kv6_linesPut ki6 kh6_linesPut ⟨Nat.le_of_ble_eq_true rfl, Nat.le_of_ble_eq_true rfl⟩ rfl (by simp [e_rv_cat, e_int_cat, e_long_cat]) ⟨Nat.le_refl _, Nat.le_refl _⟩ dX11_renewLines_81 rfl (fun H locs hp hS => ?_)
        exact w11_renewLines_b84 E hp hS (hl.sub [] rfl) hsh
    · rw [if_neg c26] at hsh
      refine e_aload_n (B := B) (x := x0) hx hb dX11_renewLines_29 rfl (hl.at 0 rfl) ?_
      refine lv_dup hx hb dX11_renewLines_30 (e_rv_cat _ _) ?_
      obtain ⟨v31, h31, hsh⟩ := Option.bind_eq_some_iff.mp hsh
      refine e_getI (k := 3) hx hb hts in_X11 hown hp h31 rfl (by decide) (by decide) rfl (hts _ kf11_22) rfl dX11_renewLines_31 ?_
      refine lv_iconst (v := iI (1)) hx hb dX11_renewLines_34 rfl ?_
      refine e_iadd hx hb dX11_renewLines_35 ?_
      obtain ⟨S36, h36, hsh⟩ := Option.bind_eq_some_iff.mp hsh
      refine e_putI (k := 3) hx hb hts in_X11 tyX11 tyX11_ok nmX11 hown hp hS h36 rfl (by decide) (by decide) rfl (hts _ kf11_22) rfl rfl (by decide +kernel) dX11_renewLines_36 (fun H locs hp hS => ?_)
      refine e_aload_n (B := B) (x := x0) hx hb dX11_renewLines_39 rfl (hl.at 0 rfl) ?_
      obtain ⟨v40, h40, hsh⟩ := Option.bind_eq_some_iff.mp hsh
      refine e_getR (k := 2) hx hb hts in_X11 hown hp h40 rfl (by decide) (by decide) rfl (hts _ kf11_19) rfl dX11_renewLines_40 ?_
      refine lv_iload_n hx hb dX11_renewLines_43 rfl (hl.at 3 rfl) ?_
      refine e_aload_n (B := B) (x := x0) hx hb dX11_renewLines_44 rfl (hl.at 0 rfl) ?_
      obtain ⟨v45, h45, hsh⟩ := Option.bind_eq_some_iff.mp hsh
      refine e_getI (k := 3) hx hb hts in_X11 hown hp h45 rfl (by decide) (by decide) rfl (hts _ kf11_22) rfl dX11_renewLines_45 ?_
      obtain ⟨S48, h48, hsh⟩ := Option.bind_eq_some_iff.mp hsh
      refine e_iast hx hb hp hS h48 dX11_renewLines_48 (fun H locs hp hS => ?_)
      refine e_iinc (n := 1) (x := x3) (lv' := [(3, .int (iI ((x3 + 1)))), (0, e_rv B (x0)), (1, .int (iI (x1))), (2, .int (iI (x2)))]) hx hb dX11_renewLines_49 hl (k := 3) rfl (by decide) rfl (fun ls hl => ?_)
      refine lv_goto (tgt := 22) hx hb dX11_renewLines_52 (by decide) ?_
      exact hk22 hp hS (hl.sub [1, 2, 3, 0] rfl) hsh
set_option maxRecDepth 100000 in
set_option maxHeartbeats 4000000 in
theorem c11_renewLines (l : Launch) (D : va_G) (cA : Nat → ClassId) (B : Nat) (S S' : HP) (x0 : Int) (x1 : Int) (x2 : Int) (hsh : s11_renewLines S x0 x1 x2 = some S') : Met l yX11_renewLines (e_wu yX11_renewLines cX11_renewLines 4 none) ({ frames := 2, cells := 0, slots := 0, locals := 51 } : Room) (va_Pc [e_rv B (x0), .int (iI (x1)), .int (iI (x2))] (fun U => e_PU D cA B S U)) (e_Qv D cA B S') 0 0 (e_A B) := by
  refine Met.ofW (cc := cX11_renewLines) (maxL := 4) (ret := none) (by decide +kernel) rfl ?_
  intro p e s m args below meth c s₁ Bd hml hv
  obtain ⟨rfl, hp⟩ := hv
  have hp : e_Pic D cA B S s s.heap := hp
  have hx := Bd.exec
  have hb := Bd.bytes
  have hrt := Bd.returns
  have hlk := Bd.notSynchronized
  have hown : s.vm.findClass RX11 = some m.cls := findClass_of_methodNamed Bd.named
  have hts : ∀ w ∈ e_tb, w.before ([e_rv B (x0), .int (iI (x1)), .int (iI (x2))] : List Value).toArray s = true := fun w h => atoms_spec (ws := (e_wu yX11_renewLines cX11_renewLines 4 none)) Bd.pre w (List.mem_cons_of_mem _ h)
  have E : e_En p s m ([e_rv B (x0), .int (iI (x1)), .int (iI (x2))] : List Value).toArray meth c cX11_renewLines RX11 4 none := ⟨hx, hb, hml, hown, hts, hlk, hrt⟩
  have hS : va_S (e_A B) s.heap s.heap [] := va_S.rf
  have hl := e_entry (vs := [e_rv B (x0), .int (iI (x1)), .int (iI (x2))]) (n := 4) (Nat.le_of_ble_eq_true rfl) (e_cc (e_rv_cat _ _) (e_cc rfl (e_cc rfl e_cn)))
  rw [lg_entry_eq]
  generalize (lg_sl [e_rv B (x0), .int (iI (x1)), .int (iI (x2))] ++ List.replicate (4 - (lg_sl [e_rv B (x0), .int (iI (x1)), .int (iI (x2))]).length) Slot.unset).toArray = ls at hl ⊢
  generalize ([e_rv B (x0), .int (iI (x1)), .int (iI (x2))] : List Value).toArray = args at hts E ⊢
  have hl : e_lo ls 4 [(0, e_rv B (x0)), (1, .int (iI (x1))), (2, .int (iI (x2)))] := hl
  have hsh := (gd_some hsh).2
  refine lv_iload_n hx hb dX11_renewLines_0 rfl (hl.at 1 rfl) ?_
  refine e_if_lt (tgt := 19) hx hb dX11_renewLines_1 (by decide) (fun c1 => ?_) (fun c1 => ?_)
  · rw [if_pos c1] at hsh
    exact w11_renewLines_b19 E hp hS (hl.sub [] rfl) hsh
  · rw [if_neg c1] at hsh
    refine lv_iload_n hx hb dX11_renewLines_4 rfl (hl.at 2 rfl) ?_
    refine lv_iconst (v := iI (1)) hx hb dX11_renewLines_5 rfl ?_
    refine e_icmp_lt (tgt := 19) hx hb dX11_renewLines_6 (by decide) (fun c6 => ?_) (fun c6 => ?_)
    · rw [if_pos c6] at hsh
      exact w11_renewLines_b19 E hp hS (hl.sub [] rfl) hsh
    · rw [if_neg c6] at hsh
      refine lv_iload_n hx hb dX11_renewLines_9 rfl (hl.at 1 rfl) ?_
      refine lv_iload_n hx hb dX11_renewLines_10 rfl (hl.at 2 rfl) ?_
      refine e_iadd hx hb dX11_renewLines_11 ?_
      refine e_aload_n (B := B) (x := x0) hx hb dX11_renewLines_12 rfl (hl.at 0 rfl) ?_
      obtain ⟨v13, h13, hsh⟩ := Option.bind_eq_some_iff.mp hsh
      refine e_getI (k := 5) hx hb hts in_X11 hown hp h13 rfl (by decide) (by decide) rfl (hts _ kf11_26) rfl dX11_renewLines_13 ?_
      refine e_icmp_le (tgt := 20) hx hb dX11_renewLines_16 (by decide) (fun c16 => ?_) (fun c16 => ?_)
      · rw [if_pos c16] at hsh
        refine lv_iload_n hx hb dX11_renewLines_20 rfl (hl.at 1 rfl) ?_
        refine e_istore_n (lv' := [(3, .int (iI (x1))), (0, e_rv B (x0)), (1, .int (iI (x1))), (2, .int (iI (x2)))]) hx hb dX11_renewLines_21 rfl hl (by decide) rfl (fun ls hl => ?_)
        exact w11_renewLines_l22 E 1000000 hp hS (hl.sub [1, 2, 3, 0] rfl) hsh
      · rw [if_neg c16] at hsh
        exact w11_renewLines_b19 E hp hS (hl.sub [] rfl) hsh
theorem ok11_copyLine {S : HP} {x0 : Int} {x1 : Int} {x2 : Int} {x3 : Int} {r : HP} (h : s11_copyLine S x0 x1 x2 x3 = some r) : 0 ≤ x0 ∧ x0.toNat < e_n S ∧ e_g S x0.toNat = 11 := (gd_some h).1
set_option maxRecDepth 100000 in
set_option maxHeartbeats 4000000 in
theorem w11_copyLine_b57 {p : Program} {l : Launch} {e : Env} {s : State} {m : MethodId} {args : Array Value} {below : List Frame} {meth : Method} {c : Code} {D : va_G} {cA : Nat → ClassId} {B : Nat} {res : HP} (E : e_En p s m args meth c cX11_copyLine RX11 4 none) {ls : Array Slot} {H : Heap} {locs : List Loc} {S : HP} (hp : e_Pic D cA B S s H) (hS : va_S (e_A B) s.heap H locs) (hl : e_lo ls 4 []) (hsh : s11_copyLine_b57 S  = some res) : W p l e ({ frames := 1, cells := 0, slots := 0, locals := 60 } : Room) s m args below meth c H locs 0 0 (MQ below (e_Qv D cA B res) args s 0 0 (e_A B)) (F0 m 57 ls []) := by
  obtain ⟨hx, hb, hml, hown, hts, hlk, hrt⟩ := id E
  unfold s11_copyLine_b57 at hsh
  cases hsh
  exact e_vret hx hb hrt hlk hp hS dX11_copyLine_57
set_option maxRecDepth 100000 in
set_option maxHeartbeats 4000000 in
theorem c11_copyLine (l : Launch) (D : va_G) (cA : Nat → ClassId) (B : Nat) (S S' : HP) (x0 : Int) (x1 : Int) (x2 : Int) (x3 : Int) (hsh : s11_copyLine S x0 x1 x2 x3 = some S') : Met l yX11_copyLine (e_wu yX11_copyLine cX11_copyLine 4 none) ({ frames := 1, cells := 0, slots := 0, locals := 60 } : Room) (va_Pc [e_rv B (x0), .int (iI (x1)), e_rv B (x2), .int (iI (x3))] (fun U => e_PU D cA B S U)) (e_Qv D cA B S') 0 0 (e_A B) := by
  refine Met.ofW (cc := cX11_copyLine) (maxL := 4) (ret := none) (by decide +kernel) rfl ?_
  intro p e s m args below meth c s₁ Bd hml hv
  obtain ⟨rfl, hp⟩ := hv
  have hp : e_Pic D cA B S s s.heap := hp
  have hx := Bd.exec
  have hb := Bd.bytes
  have hrt := Bd.returns
  have hlk := Bd.notSynchronized
  have hown : s.vm.findClass RX11 = some m.cls := findClass_of_methodNamed Bd.named
  have hts : ∀ w ∈ e_tb, w.before ([e_rv B (x0), .int (iI (x1)), e_rv B (x2), .int (iI (x3))] : List Value).toArray s = true := fun w h => atoms_spec (ws := (e_wu yX11_copyLine cX11_copyLine 4 none)) Bd.pre w (List.mem_cons_of_mem _ h)
  have E : e_En p s m ([e_rv B (x0), .int (iI (x1)), e_rv B (x2), .int (iI (x3))] : List Value).toArray meth c cX11_copyLine RX11 4 none := ⟨hx, hb, hml, hown, hts, hlk, hrt⟩
  have hS : va_S (e_A B) s.heap s.heap [] := va_S.rf
  have hl := e_entry (vs := [e_rv B (x0), .int (iI (x1)), e_rv B (x2), .int (iI (x3))]) (n := 4) (Nat.le_of_ble_eq_true rfl) (e_cc (e_rv_cat _ _) (e_cc rfl (e_cc (e_rv_cat _ _) (e_cc rfl e_cn))))
  rw [lg_entry_eq]
  generalize (lg_sl [e_rv B (x0), .int (iI (x1)), e_rv B (x2), .int (iI (x3))] ++ List.replicate (4 - (lg_sl [e_rv B (x0), .int (iI (x1)), e_rv B (x2), .int (iI (x3))]).length) Slot.unset).toArray = ls at hl ⊢
  generalize ([e_rv B (x0), .int (iI (x1)), e_rv B (x2), .int (iI (x3))] : List Value).toArray = args at hts E ⊢
  have hl : e_lo ls 4 [(0, e_rv B (x0)), (1, .int (iI (x1))), (2, e_rv B (x2)), (3, .int (iI (x3)))] := hl
  have hsh := (gd_some hsh).2
  refine lv_iload_n hx hb dX11_copyLine_0 rfl (hl.at 1 rfl) ?_
  refine e_if_lt (tgt := 57) hx hb dX11_copyLine_1 (by decide) (fun c1 => ?_) (fun c1 => ?_)
  · rw [if_pos c1] at hsh
    exact w11_copyLine_b57 E hp hS (hl.sub [] rfl) hsh
  · rw [if_neg c1] at hsh
    refine lv_iload_n hx hb dX11_copyLine_4 rfl (hl.at 1 rfl) ?_
    refine e_aload_n (B := B) (x := x0) hx hb dX11_copyLine_5 rfl (hl.at 0 rfl) ?_
    obtain ⟨v6, h6, hsh⟩ := Option.bind_eq_some_iff.mp hsh
    refine e_getI (k := 5) hx hb hts in_X11 hown hp h6 rfl (by decide) (by decide) rfl (hts _ kf11_26) rfl dX11_copyLine_6 ?_
    refine e_icmp_ge (tgt := 57) hx hb dX11_copyLine_9 (by decide) (fun c9 => ?_) (fun c9 => ?_)
    · rw [if_pos c9] at hsh
      exact w11_copyLine_b57 E hp hS (hl.sub [] rfl) hsh
    · rw [if_neg c9] at hsh
      refine lv_iload_n hx hb dX11_copyLine_12 rfl (hl.at 3 rfl) ?_
      refine e_if_lt (tgt := 57) hx hb dX11_copyLine_13 (by decide) (fun c13 => ?_) (fun c13 => ?_)
      · rw [if_pos c13] at hsh
        exact w11_copyLine_b57 E hp hS (hl.sub [] rfl) hsh
      · rw [if_neg c13] at hsh
        refine lv_iload_n hx hb dX11_copyLine_16 rfl (hl.at 3 rfl) ?_
        refine e_aload_n (B := B) (x := x2) hx hb dX11_copyLine_17 rfl (hl.at 2 rfl) ?_
        obtain ⟨v18, h18, hsh⟩ := Option.bind_eq_some_iff.mp hsh
        refine e_getI (k := 5) hx hb hts in_X11 hown hp h18 rfl (by decide) (by decide) rfl (hts _ kf11_26) rfl dX11_copyLine_18 ?_
        refine e_icmp_ge (tgt := 57) hx hb dX11_copyLine_21 (by decide) (fun c21 => ?_) (fun c21 => ?_)
        · rw [if_pos c21] at hsh
          exact w11_copyLine_b57 E hp hS (hl.sub [] rfl) hsh
        · rw [if_neg c21] at hsh
          refine e_aload_n (B := B) (x := x2) hx hb dX11_copyLine_24 rfl (hl.at 2 rfl) ?_
          obtain ⟨v25, h25, hsh⟩ := Option.bind_eq_some_iff.mp hsh
          refine e_getR (k := 0) hx hb hts in_X11 hown hp h25 rfl (by decide) (by decide) rfl (hts _ kf11_9) rfl dX11_copyLine_25 ?_
          refine lv_iload_n hx hb dX11_copyLine_28 rfl (hl.at 3 rfl) ?_
          refine lv_bipush (v := iI (60)) hx hb dX11_copyLine_29 (by decide +kernel) ?_
          refine e_imul hx hb dX11_copyLine_31 ?_
          refine e_aload_n (B := B) (x := x0) hx hb dX11_copyLine_32 rfl (hl.at 0 rfl) ?_
          obtain ⟨v33, h33, hsh⟩ := Option.bind_eq_some_iff.mp hsh
          refine e_getR (k := 0) hx hb hts in_X11 hown hp h33 rfl (by decide) (by decide) rfl (hts _ kf11_9) rfl dX11_copyLine_33 ?_
          refine lv_iload_n hx hb dX11_copyLine_36 rfl (hl.at 1 rfl) ?_
          refine lv_bipush (v := iI (60)) hx hb dX11_copyLine_37 (by decide +kernel) ?_
          refine e_imul hx hb dX11_copyLine_39 ?_
          refine lv_bipush (v := iI (60)) hx hb dX11_copyLine_40 (by decide +kernel) ?_
          obtain ⟨S42, h42, hsh⟩ := Option.bind_eq_some_iff.mp hsh
          refine e_copy (t := 100) (t0 := 0) (rest := []) hx hb (hml.trans hl.size.symm) hown hts kl11_47 kM_acn kM_acs kM_aci hp hS h42 (by decide) (by decide) (by decide) rfl rfl (by have h9 := hS.1; have h8 := hp.2.2.1; omega) (Nat.le_of_ble_eq_true rfl) (Nat.le_trans (Nat.add_le_add_right (show _ ≤ 8 by simp [e_rv_cat, e_int_cat]) _) (Nat.le_trans (by decide +kernel : 8 + (nativeFrameWords "java/lang/System" "arraycopy" 5 + 11) ≤ 60) (Nat.le_of_ble_eq_true rfl))) dX11_copyLine_42 (fun H locs hp hS => ?_)
          refine e_aload_n (B := B) (x := x0) hx hb dX11_copyLine_45 rfl (hl.at 0 rfl) ?_
          obtain ⟨v46, h46, hsh⟩ := Option.bind_eq_some_iff.mp hsh
          refine e_getR (k := 1) hx hb hts in_X11 hown hp h46 rfl (by decide) (by decide) rfl (hts _ kf11_15) rfl dX11_copyLine_46 ?_
          refine lv_iload_n hx hb dX11_copyLine_49 rfl (hl.at 1 rfl) ?_
          refine e_aload_n (B := B) (x := x2) hx hb dX11_copyLine_50 rfl (hl.at 2 rfl) ?_
          obtain ⟨v51, h51, hsh⟩ := Option.bind_eq_some_iff.mp hsh
          refine e_getR (k := 1) hx hb hts in_X11 hown hp h51 rfl (by decide) (by decide) rfl (hts _ kf11_15) rfl dX11_copyLine_51 ?_
          refine lv_iload_n hx hb dX11_copyLine_54 rfl (hl.at 3 rfl) ?_
          obtain ⟨v55, h55, hsh⟩ := Option.bind_eq_some_iff.mp hsh
          refine e_iald hx hb hp h55 dX11_copyLine_55 ?_
          obtain ⟨S56, h56, hsh⟩ := Option.bind_eq_some_iff.mp hsh
          refine e_iast hx hb hp hS h56 dX11_copyLine_56 (fun H locs hp hS => ?_)
          exact w11_copyLine_b57 E hp hS (hl.sub [] rfl) hsh
theorem ok11_compareLines {S : HP} {x0 : Int} {x1 : Int} {x2 : Int} {r : Int × HP} (h : s11_compareLines S x0 x1 x2 = some r) : 0 ≤ x0 ∧ x0.toNat < e_n S ∧ e_g S x0.toNat = 11 := (gd_some h).1
set_option maxRecDepth 100000 in
set_option maxHeartbeats 4000000 in
theorem w11_compareLines_l17 {p : Program} {l : Launch} {e : Env} {s : State} {m : MethodId} {args : Array Value} {below : List Frame} {meth : Method} {c : Code} {D : va_G} {cA : Nat → ClassId} {B : Nat} {res : Int × HP} (E : e_En p s m args meth c cX11_compareLines RX11 6 (some .int)) : ∀ (f : Nat) {ls : Array Slot} {H : Heap} {locs : List Loc} {S : HP} {x0 : Int} {x1 : Int} {x2 : Int} {x3 : Int} {x4 : Int} (hp : e_Pic D cA B S s H) (hS : va_S (e_A B) s.heap H locs) (hl : e_lo ls 6 [(0, e_rv B (x0)), (1, .int (iI (x1))), (2, .int (iI (x2))), (3, .int (iI (x3))), (4, .int (iI (x4)))]) (hsh : s11_compareLines_l17 f S x0 x1 x2 x3 x4 = some res), W p l e ({ frames := 1, cells := 0, slots := 0, locals := 21 } : Room) s m args below meth c H locs 0 0 (MQ below (e_Qi D cA B res.1 res.2) args s 0 0 (e_A B)) (F0 m 17 ls []) := by
  obtain ⟨hx, hb, hml, hown, hts, hlk, hrt⟩ := id E
  intro f
  induction f with
  | zero => intro ls H locs S x0 x1 x2 x3 x4 hp hS hl hsh; cases hsh
  | succ f ih =>
    intro ls H locs S x0 x1 x2 x3 x4 hp hS hl hsh
    have hk17 : ∀ {ls : Array Slot} {H : Heap} {locs : List Loc} {S : HP} {x0 : Int} {x1 : Int} {x2 : Int} {x3 : Int} {x4 : Int} (hp : e_Pic D cA B S s H) (hS : va_S (e_A B) s.heap H locs) (hl : e_lo ls 6 [(0, e_rv B (x0)), (1, .int (iI (x1))), (2, .int (iI (x2))), (3, .int (iI (x3))), (4, .int (iI (x4)))]) (hsh : (s11_compareLines_l17 f) S x0 x1 x2 x3 x4 = some res), W p l e ({ frames := 1, cells := 0, slots := 0, locals := 21 } : Room) s m args below meth c H locs 0 0 (MQ below (e_Qi D cA B res.1 res.2) args s 0 0 (e_A B)) (F0 m 17 ls []) := ih
    generalize hkk : s11_compareLines_l17 f = k17 at hk17
    rw [s11_compareLines_l17] at hsh
    rw [hkk] at hsh
    try dsimp only at hsh
    refine lv_iload hx hb dX11_compareLines_17 (hl.at 4 rfl) ?_
    refine lv_iload_n hx hb dX11_compareLines_19 rfl (hl.at 3 rfl) ?_
    refine e_icmp_ge (tgt := 64) hx hb dX11_compareLines_20 (by decide) (fun c20 => ?_) (fun c20 => ?_)
    · rw [if_pos c20] at hsh
      refine e_aload_n (B := B) (x := x0) hx hb dX11_compareLines_64 rfl (hl.at 0 rfl) ?_
      refine lv_iload_n hx hb dX11_compareLines_65 rfl (hl.at 1 rfl) ?_
      obtain ⟨⟨v66, S66⟩, h66, hsh⟩ := Option.bind_eq_some_iff.mp hsh
      have hsh : _ = _ := hsh
      try dsimp only at hsh
      have ok66 := ok11_sizeOf h66
      refine e_callI (nL := 6) (mc := 0) (ms := 0) (T := TX11) (N := 6) (As := [.int (iI (x1))]) (rest := []) hx hb hml hown hts hp hS hl.size ok66.1 ok66.2.1 ok66.2.2 rfl (by decide) (c11_sizeOf l D cA B S S66 (x0) (x1) v66 h66) rfl rfl kd11_sizeOf (kl11_33) ks11_sizeOf kv11_sizeOf ki11 kh11_sizeOf ⟨Nat.le_of_ble_eq_true rfl, Nat.le_of_ble_eq_true rfl⟩ rfl (by simp [e_rv_cat, e_int_cat, e_long_cat]) ⟨Nat.le_refl _, Nat.le_refl _⟩ dX11_compareLines_66 rfl (fun H locs hp hS => ?_)
      refine e_aload_n (B := B) (x := x0) hx hb dX11_compareLines_69 rfl (hl.at 0 rfl) ?_
      refine lv_iload_n hx hb dX11_compareLines_70 rfl (hl.at 2 rfl) ?_
      obtain ⟨⟨v71, S71⟩, h71, hsh⟩ := Option.bind_eq_some_iff.mp hsh
      have hsh : _ = _ := hsh
      try dsimp only at hsh
      have ok71 := ok11_sizeOf h71
      refine e_callI (nL := 6) (mc := 0) (ms := 0) (T := TX11) (N := 6) (As := [.int (iI (x2))]) (rest := [.int (iI (v66))]) hx hb hml hown hts hp hS hl.size ok71.1 ok71.2.1 ok71.2.2 rfl (by decide) (c11_sizeOf l D cA B S66 S71 (x0) (x2) v71 h71) rfl rfl kd11_sizeOf (kl11_33) ks11_sizeOf kv11_sizeOf ki11 kh11_sizeOf ⟨Nat.le_of_ble_eq_true rfl, Nat.le_of_ble_eq_true rfl⟩ rfl (by simp [e_rv_cat, e_int_cat, e_long_cat]) ⟨Nat.le_refl _, Nat.le_refl _⟩ dX11_compareLines_71 rfl (fun H locs hp hS => ?_)
      refine e_isub hx hb dX11_compareLines_74 ?_
      cases hsh
      exact e_iret hx hb hrt hlk hp hS dX11_compareLines_75
    · rw [if_neg c20] at hsh
      refine e_aload_n (B := B) (x := x0) hx hb dX11_compareLines_23 rfl (hl.at 0 rfl) ?_
      obtain ⟨v24, h24, hsh⟩ := Option.bind_eq_some_iff.mp hsh
      refine e_getR (k := 0) hx hb hts in_X11 hown hp h24 rfl (by decide) (by decide) rfl (hts _ kf11_9) rfl dX11_compareLines_24 ?_
      refine lv_iload_n hx hb dX11_compareLines_27 rfl (hl.at 1 rfl) ?_
      refine lv_bipush (v := iI (60)) hx hb dX11_compareLines_28 (by decide +kernel) ?_
      refine e_imul hx hb dX11_compareLines_30 ?_
      refine lv_iload hx hb dX11_compareLines_31 (hl.at 4 rfl) ?_
      refine e_iadd hx hb dX11_compareLines_33 ?_
      obtain ⟨v34, h34, hsh⟩ := Option.bind_eq_some_iff.mp hsh
      refine e_cald hx hb hp h34 dX11_compareLines_34 ?_
      refine e_aload_n (B := B) (x := x0) hx hb dX11_compareLines_35 rfl (hl.at 0 rfl) ?_
      obtain ⟨v36, h36, hsh⟩ := Option.bind_eq_some_iff.mp hsh
      refine e_getR (k := 0) hx hb hts in_X11 hown hp h36 rfl (by decide) (by decide) rfl (hts _ kf11_9) rfl dX11_compareLines_36 ?_
      refine lv_iload_n hx hb dX11_compareLines_39 rfl (hl.at 2 rfl) ?_
      refine lv_bipush (v := iI (60)) hx hb dX11_compareLines_40 (by decide +kernel) ?_
      refine e_imul hx hb dX11_compareLines_42 ?_
      refine lv_iload hx hb dX11_compareLines_43 (hl.at 4 rfl) ?_
      refine e_iadd hx hb dX11_compareLines_45 ?_
      obtain ⟨v46, h46, hsh⟩ := Option.bind_eq_some_iff.mp hsh
      refine e_cald hx hb hp h46 dX11_compareLines_46 ?_
      refine e_isub hx hb dX11_compareLines_47 ?_
      refine e_istore (lv' := [(5, .int (iI ((v34 - v46)))), (0, e_rv B (x0)), (1, .int (iI (x1))), (2, .int (iI (x2))), (3, .int (iI (x3))), (4, .int (iI (x4)))]) hx hb dX11_compareLines_48 hl (by decide) rfl (fun ls hl => ?_)
      refine lv_iload hx hb dX11_compareLines_50 (hl.at 0 rfl) ?_
      refine e_if_eq (tgt := 58) hx hb dX11_compareLines_52 (by decide) (fun c52 => ?_) (fun c52 => ?_)
      · rw [if_pos c52] at hsh
        refine e_iinc (n := 1) (x := x4) (lv' := [(4, .int (iI ((x4 + 1)))), (5, .int (iI ((v34 - v46)))), (0, e_rv B (x0)), (1, .int (iI (x1))), (2, .int (iI (x2))), (3, .int (iI (x3)))]) hx hb dX11_compareLines_58 hl (k := 5) rfl (by decide) rfl (fun ls hl => ?_)
        refine lv_goto (tgt := 17) hx hb dX11_compareLines_61 (by decide) ?_
        exact hk17 hp hS (hl.sub [2, 3, 4, 5, 0] rfl) hsh
      · rw [if_neg c52] at hsh
        refine lv_iload hx hb dX11_compareLines_55 (hl.at 0 rfl) ?_
        cases hsh
        exact e_iret hx hb hrt hlk hp hS dX11_compareLines_57
set_option maxRecDepth 100000 in
set_option maxHeartbeats 4000000 in
theorem c11_compareLines (l : Launch) (D : va_G) (cA : Nat → ClassId) (B : Nat) (S S' : HP) (x0 : Int) (x1 : Int) (x2 : Int) (r : Int) (hsh : s11_compareLines S x0 x1 x2 = some (r, S')) : Met l yX11_compareLines (e_wu yX11_compareLines cX11_compareLines 6 (some .int)) ({ frames := 1, cells := 0, slots := 0, locals := 21 } : Room) (va_Pc [e_rv B (x0), .int (iI (x1)), .int (iI (x2))] (fun U => e_PU D cA B S U)) (e_Qi D cA B r S') 0 0 (e_A B) := by
  refine Met.ofW (cc := cX11_compareLines) (maxL := 6) (ret := (some .int)) (by decide +kernel) rfl ?_
  intro p e s m args below meth c s₁ Bd hml hv
  obtain ⟨rfl, hp⟩ := hv
  have hp : e_Pic D cA B S s s.heap := hp
  have hx := Bd.exec
  have hb := Bd.bytes
  have hrt := Bd.returns
  have hlk := Bd.notSynchronized
  have hown : s.vm.findClass RX11 = some m.cls := findClass_of_methodNamed Bd.named
  have hts : ∀ w ∈ e_tb, w.before ([e_rv B (x0), .int (iI (x1)), .int (iI (x2))] : List Value).toArray s = true := fun w h => atoms_spec (ws := (e_wu yX11_compareLines cX11_compareLines 6 (some .int))) Bd.pre w (List.mem_cons_of_mem _ h)
  have E : e_En p s m ([e_rv B (x0), .int (iI (x1)), .int (iI (x2))] : List Value).toArray meth c cX11_compareLines RX11 6 (some .int) := ⟨hx, hb, hml, hown, hts, hlk, hrt⟩
  have hS : va_S (e_A B) s.heap s.heap [] := va_S.rf
  have hl := e_entry (vs := [e_rv B (x0), .int (iI (x1)), .int (iI (x2))]) (n := 6) (Nat.le_of_ble_eq_true rfl) (e_cc (e_rv_cat _ _) (e_cc rfl (e_cc rfl e_cn)))
  rw [lg_entry_eq]
  generalize (lg_sl [e_rv B (x0), .int (iI (x1)), .int (iI (x2))] ++ List.replicate (6 - (lg_sl [e_rv B (x0), .int (iI (x1)), .int (iI (x2))]).length) Slot.unset).toArray = ls at hl ⊢
  generalize ([e_rv B (x0), .int (iI (x1)), .int (iI (x2))] : List Value).toArray = args at hts E ⊢
  have hl : e_lo ls 6 [(0, e_rv B (x0)), (1, .int (iI (x1))), (2, .int (iI (x2)))] := hl
  have hsh := (gd_some hsh).2
  refine e_aload_n (B := B) (x := x0) hx hb dX11_compareLines_0 rfl (hl.at 0 rfl) ?_
  refine lv_iload_n hx hb dX11_compareLines_1 rfl (hl.at 1 rfl) ?_
  obtain ⟨⟨v2, S2⟩, h2, hsh⟩ := Option.bind_eq_some_iff.mp hsh
  have hsh : _ = _ := hsh
  try dsimp only at hsh
  have ok2 := ok11_sizeOf h2
  refine e_callI (nL := 6) (mc := 0) (ms := 0) (T := TX11) (N := 6) (As := [.int (iI (x1))]) (rest := []) hx hb hml hown hts hp hS hl.size ok2.1 ok2.2.1 ok2.2.2 rfl (by decide) (c11_sizeOf l D cA B S S2 (x0) (x1) v2 h2) rfl rfl kd11_sizeOf (kl11_33) ks11_sizeOf kv11_sizeOf ki11 kh11_sizeOf ⟨Nat.le_of_ble_eq_true rfl, Nat.le_of_ble_eq_true rfl⟩ rfl (by simp [e_rv_cat, e_int_cat, e_long_cat]) ⟨Nat.le_refl _, Nat.le_refl _⟩ dX11_compareLines_2 rfl (fun H locs hp hS => ?_)
  refine e_aload_n (B := B) (x := x0) hx hb dX11_compareLines_5 rfl (hl.at 0 rfl) ?_
  refine lv_iload_n hx hb dX11_compareLines_6 rfl (hl.at 2 rfl) ?_
  obtain ⟨⟨v7, S7⟩, h7, hsh⟩ := Option.bind_eq_some_iff.mp hsh
  have hsh : _ = _ := hsh
  try dsimp only at hsh
  have ok7 := ok11_sizeOf h7
  refine e_callI (nL := 6) (mc := 0) (ms := 0) (T := TX11) (N := 6) (As := [.int (iI (x2))]) (rest := [.int (iI (v2))]) hx hb hml hown hts hp hS hl.size ok7.1 ok7.2.1 ok7.2.2 rfl (by decide) (c11_sizeOf l D cA B S2 S7 (x0) (x2) v7 h7) rfl rfl kd11_sizeOf (kl11_33) ks11_sizeOf kv11_sizeOf ki11 kh11_sizeOf ⟨Nat.le_of_ble_eq_true rfl, Nat.le_of_ble_eq_true rfl⟩ rfl (by simp [e_rv_cat, e_int_cat, e_long_cat]) ⟨Nat.le_refl _, Nat.le_refl _⟩ dX11_compareLines_7 rfl (fun H locs hp hS => ?_)
  refine e_min (rest := []) hx hb (hml.trans hl.size.symm) hown hts kl11_41 kM_min_s kM_i kM_min_c (Nat.le_of_ble_eq_true rfl) (Nat.le_trans (Nat.add_le_add_right (show _ ≤ 8 by simp [e_rv_cat, e_int_cat]) 13) (Nat.le_of_ble_eq_true rfl)) (Nat.le_refl _) (Nat.le_refl _) dX11_compareLines_10 ?_
  refine e_istore_n (lv' := [(3, .int (iI ((iMn (v2) (v7))))), (0, e_rv B (x0)), (1, .int (iI (x1))), (2, .int (iI (x2)))]) hx hb dX11_compareLines_13 rfl hl (by decide) rfl (fun ls hl => ?_)
  refine lv_iconst (v := iI (0)) hx hb dX11_compareLines_14 rfl ?_
  refine e_istore (lv' := [(4, .int (iI (0))), (3, .int (iI ((iMn (v2) (v7))))), (0, e_rv B (x0)), (1, .int (iI (x1))), (2, .int (iI (x2)))]) hx hb dX11_compareLines_15 hl (by decide) rfl (fun ls hl => ?_)
  exact w11_compareLines_l17 E 1000000 hp hS (hl.sub [2, 3, 4, 1, 0] rfl) hsh
theorem ok12_length {S : HP} {x0 : Int} {x1 : Int} {r : Int × HP} (h : s12_length S x0 x1 = some r) : 0 ≤ x0 ∧ x0.toNat < e_n S ∧ e_g S x0.toNat = 12 := (gd_some h).1
set_option maxRecDepth 100000 in
set_option maxHeartbeats 4000000 in
theorem w12_length_b18 {p : Program} {l : Launch} {e : Env} {s : State} {m : MethodId} {args : Array Value} {below : List Frame} {meth : Method} {c : Code} {D : va_G} {cA : Nat → ClassId} {B : Nat} {res : Int × HP} (E : e_En p s m args meth c cX12_length RX12 2 (some .int)) {ls : Array Slot} {H : Heap} {locs : List Loc} {S : HP} (hp : e_Pic D cA B S s H) (hS : va_S (e_A B) s.heap H locs) (hl : e_lo ls 2 []) (hsh : s12_length_b18 S  = some res) : W p l e ({ frames := 1, cells := 0, slots := 0, locals := 21 } : Room) s m args below meth c H locs 0 0 (MQ below (e_Qi D cA B res.1 res.2) args s 0 0 (e_A B)) (F0 m 18 ls []) := by
  obtain ⟨hx, hb, hml, hown, hts, hlk, hrt⟩ := id E
  unfold s12_length_b18 at hsh
  cases hsh
set_option maxRecDepth 100000 in
set_option maxHeartbeats 4000000 in
theorem c12_length (l : Launch) (D : va_G) (cA : Nat → ClassId) (B : Nat) (S S' : HP) (x0 : Int) (x1 : Int) (r : Int) (hsh : s12_length S x0 x1 = some (r, S')) : Met l yX12_length (e_wu yX12_length cX12_length 2 (some .int)) ({ frames := 1, cells := 0, slots := 0, locals := 21 } : Room) (va_Pc [e_rv B (x0), .int (iI (x1))] (fun U => e_PU D cA B S U)) (e_Qi D cA B r S') 0 0 (e_A B) := by
  refine Met.ofW (cc := cX12_length) (maxL := 2) (ret := (some .int)) (by decide +kernel) rfl ?_
  intro p e s m args below meth c s₁ Bd hml hv
  obtain ⟨rfl, hp⟩ := hv
  have hp : e_Pic D cA B S s s.heap := hp
  have hx := Bd.exec
  have hb := Bd.bytes
  have hrt := Bd.returns
  have hlk := Bd.notSynchronized
  have hown : s.vm.findClass RX12 = some m.cls := findClass_of_methodNamed Bd.named
  have hts : ∀ w ∈ e_tb, w.before ([e_rv B (x0), .int (iI (x1))] : List Value).toArray s = true := fun w h => atoms_spec (ws := (e_wu yX12_length cX12_length 2 (some .int))) Bd.pre w (List.mem_cons_of_mem _ h)
  have E : e_En p s m ([e_rv B (x0), .int (iI (x1))] : List Value).toArray meth c cX12_length RX12 2 (some .int) := ⟨hx, hb, hml, hown, hts, hlk, hrt⟩
  have hS : va_S (e_A B) s.heap s.heap [] := va_S.rf
  have hl := e_entry (vs := [e_rv B (x0), .int (iI (x1))]) (n := 2) (Nat.le_of_ble_eq_true rfl) (e_cc (e_rv_cat _ _) (e_cc rfl e_cn))
  rw [lg_entry_eq]
  generalize (lg_sl [e_rv B (x0), .int (iI (x1))] ++ List.replicate (2 - (lg_sl [e_rv B (x0), .int (iI (x1))]).length) Slot.unset).toArray = ls at hl ⊢
  generalize ([e_rv B (x0), .int (iI (x1))] : List Value).toArray = args at hts E ⊢
  have hl : e_lo ls 2 [(0, e_rv B (x0)), (1, .int (iI (x1)))] := hl
  have hsh := (gd_some hsh).2
  refine lv_iload_n hx hb dX12_length_0 rfl (hl.at 1 rfl) ?_
  refine e_if_lt (tgt := 18) hx hb dX12_length_1 (by decide) (fun c1 => ?_) (fun c1 => ?_)
  · rw [if_pos c1] at hsh
    exact w12_length_b18 E hp hS (hl.sub [] rfl) hsh
  · rw [if_neg c1] at hsh
    refine lv_iload_n hx hb dX12_length_4 rfl (hl.at 1 rfl) ?_
    refine e_aload_n (B := B) (x := x0) hx hb dX12_length_5 rfl (hl.at 0 rfl) ?_
    obtain ⟨v6, h6, hsh⟩ := Option.bind_eq_some_iff.mp hsh
    refine e_getR (k := 3) hx hb hts in_X12 hown hp h6 rfl (by decide) (by decide) rfl (hts _ kf12_31) rfl dX12_length_6 ?_
    obtain ⟨v9, h9, hsh⟩ := Option.bind_eq_some_iff.mp hsh
    refine e_getR (k := 1) hx hb hts in_X5 hown hp h9 rfl (by decide) (by decide) rfl (hts _ kf12_91) rfl dX12_length_9 ?_
    obtain ⟨v12, h12, hsh⟩ := Option.bind_eq_some_iff.mp hsh
    refine e_getI (k := 5) hx hb hts in_X11 hown hp h12 rfl (by decide) (by decide) rfl (hts _ kf12_95) rfl dX12_length_12 ?_
    refine e_icmp_lt (tgt := 28) hx hb dX12_length_15 (by decide) (fun c15 => ?_) (fun c15 => ?_)
    · rw [if_pos c15] at hsh
      refine e_aload_n (B := B) (x := x0) hx hb dX12_length_28 rfl (hl.at 0 rfl) ?_
      obtain ⟨v29, h29, hsh⟩ := Option.bind_eq_some_iff.mp hsh
      refine e_getR (k := 3) hx hb hts in_X12 hown hp h29 rfl (by decide) (by decide) rfl (hts _ kf12_31) rfl dX12_length_29 ?_
      obtain ⟨v32, h32, hsh⟩ := Option.bind_eq_some_iff.mp hsh
      refine e_getR (k := 1) hx hb hts in_X5 hown hp h32 rfl (by decide) (by decide) rfl (hts _ kf12_91) rfl dX12_length_32 ?_
      refine lv_iload_n hx hb dX12_length_35 rfl (hl.at 1 rfl) ?_
      obtain ⟨⟨v36, S36⟩, h36, hsh⟩ := Option.bind_eq_some_iff.mp hsh
      have hsh : _ = _ := hsh
      try dsimp only at hsh
      have ok36 := ok11_sizeOf h36
      refine e_callI (nL := 2) (mc := 0) (ms := 0) (T := TX11) (N := 6) (As := [.int (iI (x1))]) (rest := []) hx hb hml hown hts hp hS hl.size ok36.1 ok36.2.1 ok36.2.2 rfl (by decide) (c11_sizeOf l D cA B S S36 (v32) (x1) v36 h36) rfl rfl kd11_sizeOf (kl12_162) ks11_sizeOf kv11_sizeOf ki11 kh11_sizeOf ⟨Nat.le_of_ble_eq_true rfl, Nat.le_of_ble_eq_true rfl⟩ rfl (by simp [e_rv_cat, e_int_cat, e_long_cat]) ⟨Nat.le_refl _, Nat.le_refl _⟩ dX12_length_36 rfl (fun H locs hp hS => ?_)
      cases hsh
      exact e_iret hx hb hrt hlk hp hS dX12_length_39
    · rw [if_neg c15] at hsh
      exact w12_length_b18 E hp hS (hl.sub [] rfl) hsh
theorem ok12_foldOf {S : HP} {x0 : Int} {x1 : Int} {r : Int × HP} (h : s12_foldOf S x0 x1 = some r) : 0 ≤ x0 ∧ x0.toNat < e_n S ∧ e_g S x0.toNat = 12 := (gd_some h).1
set_option maxRecDepth 100000 in
set_option maxHeartbeats 4000000 in
theorem w12_foldOf_b18 {p : Program} {l : Launch} {e : Env} {s : State} {m : MethodId} {args : Array Value} {below : List Frame} {meth : Method} {c : Code} {D : va_G} {cA : Nat → ClassId} {B : Nat} {res : Int × HP} (E : e_En p s m args meth c cX12_foldOf RX12 2 (some .int)) {ls : Array Slot} {H : Heap} {locs : List Loc} {S : HP} (hp : e_Pic D cA B S s H) (hS : va_S (e_A B) s.heap H locs) (hl : e_lo ls 2 []) (hsh : s12_foldOf_b18 S  = some res) : W p l e ({ frames := 2, cells := 0, slots := 0, locals := 45 } : Room) s m args below meth c H locs 0 0 (MQ below (e_Qi D cA B res.1 res.2) args s 0 0 (e_A B)) (F0 m 18 ls []) := by
  obtain ⟨hx, hb, hml, hown, hts, hlk, hrt⟩ := id E
  unfold s12_foldOf_b18 at hsh
  cases hsh
set_option maxRecDepth 100000 in
set_option maxHeartbeats 4000000 in
theorem c12_foldOf (l : Launch) (D : va_G) (cA : Nat → ClassId) (B : Nat) (S S' : HP) (x0 : Int) (x1 : Int) (r : Int) (hsh : s12_foldOf S x0 x1 = some (r, S')) : Met l yX12_foldOf (e_wu yX12_foldOf cX12_foldOf 2 (some .int)) ({ frames := 2, cells := 0, slots := 0, locals := 45 } : Room) (va_Pc [e_rv B (x0), .int (iI (x1))] (fun U => e_PU D cA B S U)) (e_Qi D cA B r S') 0 0 (e_A B) := by
  refine Met.ofW (cc := cX12_foldOf) (maxL := 2) (ret := (some .int)) (by decide +kernel) rfl ?_
  intro p e s m args below meth c s₁ Bd hml hv
  obtain ⟨rfl, hp⟩ := hv
  have hp : e_Pic D cA B S s s.heap := hp
  have hx := Bd.exec
  have hb := Bd.bytes
  have hrt := Bd.returns
  have hlk := Bd.notSynchronized
  have hown : s.vm.findClass RX12 = some m.cls := findClass_of_methodNamed Bd.named
  have hts : ∀ w ∈ e_tb, w.before ([e_rv B (x0), .int (iI (x1))] : List Value).toArray s = true := fun w h => atoms_spec (ws := (e_wu yX12_foldOf cX12_foldOf 2 (some .int))) Bd.pre w (List.mem_cons_of_mem _ h)
  have E : e_En p s m ([e_rv B (x0), .int (iI (x1))] : List Value).toArray meth c cX12_foldOf RX12 2 (some .int) := ⟨hx, hb, hml, hown, hts, hlk, hrt⟩
  have hS : va_S (e_A B) s.heap s.heap [] := va_S.rf
  have hl := e_entry (vs := [e_rv B (x0), .int (iI (x1))]) (n := 2) (Nat.le_of_ble_eq_true rfl) (e_cc (e_rv_cat _ _) (e_cc rfl e_cn))
  rw [lg_entry_eq]
  generalize (lg_sl [e_rv B (x0), .int (iI (x1))] ++ List.replicate (2 - (lg_sl [e_rv B (x0), .int (iI (x1))]).length) Slot.unset).toArray = ls at hl ⊢
  generalize ([e_rv B (x0), .int (iI (x1))] : List Value).toArray = args at hts E ⊢
  have hl : e_lo ls 2 [(0, e_rv B (x0)), (1, .int (iI (x1)))] := hl
  have hsh := (gd_some hsh).2
  refine lv_iload_n hx hb dX12_foldOf_0 rfl (hl.at 1 rfl) ?_
  refine e_if_lt (tgt := 18) hx hb dX12_foldOf_1 (by decide) (fun c1 => ?_) (fun c1 => ?_)
  · rw [if_pos c1] at hsh
    exact w12_foldOf_b18 E hp hS (hl.sub [] rfl) hsh
  · rw [if_neg c1] at hsh
    refine lv_iload_n hx hb dX12_foldOf_4 rfl (hl.at 1 rfl) ?_
    refine e_aload_n (B := B) (x := x0) hx hb dX12_foldOf_5 rfl (hl.at 0 rfl) ?_
    obtain ⟨v6, h6, hsh⟩ := Option.bind_eq_some_iff.mp hsh
    refine e_getR (k := 3) hx hb hts in_X12 hown hp h6 rfl (by decide) (by decide) rfl (hts _ kf12_31) rfl dX12_foldOf_6 ?_
    obtain ⟨v9, h9, hsh⟩ := Option.bind_eq_some_iff.mp hsh
    refine e_getR (k := 1) hx hb hts in_X5 hown hp h9 rfl (by decide) (by decide) rfl (hts _ kf12_91) rfl dX12_foldOf_9 ?_
    obtain ⟨v12, h12, hsh⟩ := Option.bind_eq_some_iff.mp hsh
    refine e_getI (k := 5) hx hb hts in_X11 hown hp h12 rfl (by decide) (by decide) rfl (hts _ kf12_95) rfl dX12_foldOf_12 ?_
    refine e_icmp_lt (tgt := 28) hx hb dX12_foldOf_15 (by decide) (fun c15 => ?_) (fun c15 => ?_)
    · rw [if_pos c15] at hsh
      refine e_aload_n (B := B) (x := x0) hx hb dX12_foldOf_28 rfl (hl.at 0 rfl) ?_
      obtain ⟨v29, h29, hsh⟩ := Option.bind_eq_some_iff.mp hsh
      refine e_getR (k := 3) hx hb hts in_X12 hown hp h29 rfl (by decide) (by decide) rfl (hts _ kf12_31) rfl dX12_foldOf_29 ?_
      obtain ⟨v32, h32, hsh⟩ := Option.bind_eq_some_iff.mp hsh
      refine e_getR (k := 0) hx hb hts in_X5 hown hp h32 rfl (by decide) (by decide) rfl (hts _ kf12_171) rfl dX12_foldOf_32 ?_
      refine lv_iload_n hx hb dX12_foldOf_35 rfl (hl.at 1 rfl) ?_
      obtain ⟨⟨v36, S36⟩, h36, hsh⟩ := Option.bind_eq_some_iff.mp hsh
      have hsh : _ = _ := hsh
      try dsimp only at hsh
      have ok36 := ok6_closedOver h36
      refine e_callI (nL := 2) (mc := 0) (ms := 0) (T := TX6) (N := 16) (As := [.int (iI (x1))]) (rest := []) hx hb hml hown hts hp hS hl.size ok36.1 ok36.2.1 ok36.2.2 rfl (by decide) (c6_closedOver l D cA B S S36 (v32) (x1) v36 h36) rfl rfl kd6_closedOver (kl12_225) ks6_closedOver kv6_closedOver ki6 kh6_closedOver ⟨Nat.le_of_ble_eq_true rfl, Nat.le_of_ble_eq_true rfl⟩ rfl (by simp [e_rv_cat, e_int_cat, e_long_cat]) ⟨Nat.le_refl _, Nat.le_refl _⟩ dX12_foldOf_36 rfl (fun H locs hp hS => ?_)
      refine lv_iconst (v := iI (-1)) hx hb dX12_foldOf_39 rfl ?_
      refine e_icmp_ne (tgt := 45) hx hb dX12_foldOf_40 (by decide) (fun c40 => ?_) (fun c40 => ?_)
      · rw [if_neg c40] at hsh
        refine lv_bipush (v := iI (100)) hx hb dX12_foldOf_45 (by decide +kernel) ?_
        refine e_aload_n (B := B) (x := x0) hx hb dX12_foldOf_47 rfl (hl.at 0 rfl) ?_
        obtain ⟨v48, h48, hsh⟩ := Option.bind_eq_some_iff.mp hsh
        refine e_getR (k := 3) hx hb hts in_X12 hown hp h48 rfl (by decide) (by decide) rfl (hts _ kf12_31) rfl dX12_foldOf_48 ?_
        obtain ⟨v51, h51, hsh⟩ := Option.bind_eq_some_iff.mp hsh
        refine e_getR (k := 0) hx hb hts in_X5 hown hp h51 rfl (by decide) (by decide) rfl (hts _ kf12_171) rfl dX12_foldOf_51 ?_
        refine lv_iload_n hx hb dX12_foldOf_54 rfl (hl.at 1 rfl) ?_
        obtain ⟨⟨v55, S55⟩, h55, hsh⟩ := Option.bind_eq_some_iff.mp hsh
        have hsh : _ = _ := hsh
        try dsimp only at hsh
        have ok55 := ok6_topOf h55
        refine e_callI (nL := 2) (mc := 0) (ms := 0) (T := TX6) (N := 16) (As := [.int (iI (x1))]) (rest := [.int (iI (100))]) hx hb hml hown hts hp hS hl.size ok55.1 ok55.2.1 ok55.2.2 rfl (by decide) (c6_topOf l D cA B S36 S55 (v51) (x1) v55 h55) rfl rfl kd6_topOf (kl12_228) ks6_topOf kv6_topOf ki6 kh6_topOf ⟨Nat.le_of_ble_eq_true rfl, Nat.le_of_ble_eq_true rfl⟩ rfl (by simp [e_rv_cat, e_int_cat, e_long_cat]) ⟨Nat.le_refl _, Nat.le_refl _⟩ dX12_foldOf_55 rfl (fun H locs hp hS => ?_)
        refine e_imul hx hb dX12_foldOf_58 ?_
        refine e_aload_n (B := B) (x := x0) hx hb dX12_foldOf_59 rfl (hl.at 0 rfl) ?_
        obtain ⟨v60, h60, hsh⟩ := Option.bind_eq_some_iff.mp hsh
        refine e_getR (k := 3) hx hb hts in_X12 hown hp h60 rfl (by decide) (by decide) rfl (hts _ kf12_31) rfl dX12_foldOf_60 ?_
        obtain ⟨v63, h63, hsh⟩ := Option.bind_eq_some_iff.mp hsh
        refine e_getR (k := 0) hx hb hts in_X5 hown hp h63 rfl (by decide) (by decide) rfl (hts _ kf12_171) rfl dX12_foldOf_63 ?_
        refine lv_iload_n hx hb dX12_foldOf_66 rfl (hl.at 1 rfl) ?_
        obtain ⟨⟨v67, S67⟩, h67, hsh⟩ := Option.bind_eq_some_iff.mp hsh
        have hsh : _ = _ := hsh
        try dsimp only at hsh
        have ok67 := ok6_endOf h67
        refine e_callI (nL := 2) (mc := 0) (ms := 0) (T := TX6) (N := 16) (As := [.int (iI (x1))]) (rest := [.int (iI ((100 * v55)))]) hx hb hml hown hts hp hS hl.size ok67.1 ok67.2.1 ok67.2.2 rfl (by decide) (c6_endOf l D cA B S55 S67 (v63) (x1) v67 h67) rfl rfl kd6_endOf (kl12_231) ks6_endOf kv6_endOf ki6 kh6_endOf ⟨Nat.le_of_ble_eq_true rfl, Nat.le_of_ble_eq_true rfl⟩ rfl (by simp [e_rv_cat, e_int_cat, e_long_cat]) ⟨Nat.le_refl _, Nat.le_refl _⟩ dX12_foldOf_67 rfl (fun H locs hp hS => ?_)
        refine e_iadd hx hb dX12_foldOf_70 ?_
        cases hsh
        exact e_iret hx hb hrt hlk hp hS dX12_foldOf_71
      · rw [if_pos c40] at hsh
        refine lv_iconst (v := iI (-1)) hx hb dX12_foldOf_43 rfl ?_
        cases hsh
        exact e_iret hx hb hrt hlk hp hS dX12_foldOf_44
    · rw [if_neg c15] at hsh
      exact w12_foldOf_b18 E hp hS (hl.sub [] rfl) hsh
theorem ok0_clear {S : HP} {x0 : Int} {r : HP} (h : s0_clear S x0 = some r) : 0 ≤ x0 ∧ x0.toNat < e_n S ∧ e_g S x0.toNat = 0 := (gd_some h).1
set_option maxRecDepth 100000 in
set_option maxHeartbeats 4000000 in
theorem c0_clear (l : Launch) (D : va_G) (cA : Nat → ClassId) (B : Nat) (S S' : HP) (x0 : Int) (hsh : s0_clear S x0 = some S') : Met l yX0_clear (e_wu yX0_clear cX0_clear 1 none) ({ frames := 1, cells := 0, slots := 0, locals := 20 } : Room) (va_Pc [e_rv B (x0)] (fun U => e_PU D cA B S U)) (e_Qv D cA B S') 0 0 (e_A B) := by
  refine Met.ofW (cc := cX0_clear) (maxL := 1) (ret := none) (by decide +kernel) rfl ?_
  intro p e s m args below meth c s₁ Bd hml hv
  obtain ⟨rfl, hp⟩ := hv
  have hp : e_Pic D cA B S s s.heap := hp
  have hx := Bd.exec
  have hb := Bd.bytes
  have hrt := Bd.returns
  have hlk := Bd.notSynchronized
  have hown : s.vm.findClass RX0 = some m.cls := findClass_of_methodNamed Bd.named
  have hts : ∀ w ∈ e_tb, w.before ([e_rv B (x0)] : List Value).toArray s = true := fun w h => atoms_spec (ws := (e_wu yX0_clear cX0_clear 1 none)) Bd.pre w (List.mem_cons_of_mem _ h)
  have E : e_En p s m ([e_rv B (x0)] : List Value).toArray meth c cX0_clear RX0 1 none := ⟨hx, hb, hml, hown, hts, hlk, hrt⟩
  have hS : va_S (e_A B) s.heap s.heap [] := va_S.rf
  have hl := e_entry (vs := [e_rv B (x0)]) (n := 1) (Nat.le_of_ble_eq_true rfl) (e_cc (e_rv_cat _ _) e_cn)
  rw [lg_entry_eq]
  generalize (lg_sl [e_rv B (x0)] ++ List.replicate (1 - (lg_sl [e_rv B (x0)]).length) Slot.unset).toArray = ls at hl ⊢
  generalize ([e_rv B (x0)] : List Value).toArray = args at hts E ⊢
  have hl : e_lo ls 1 [(0, e_rv B (x0))] := hl
  have hsh := (gd_some hsh).2
  refine e_aload_n (B := B) (x := x0) hx hb dX0_clear_0 rfl (hl.at 0 rfl) ?_
  obtain ⟨v1, h1, hsh⟩ := Option.bind_eq_some_iff.mp hsh
  refine e_getR (k := 0) hx hb hts in_X0 hown hp h1 rfl (by decide) (by decide) rfl (hts _ kf0_14) rfl dX0_clear_1 ?_
  obtain ⟨S4, h4, hsh⟩ := Option.bind_eq_some_iff.mp hsh
  have ok4 := ok10_clear h4
  refine e_callV (nL := 1) (mc := 0) (ms := 0) (T := TX10) (N := 3) (As := []) (rest := []) hx hb hml hown hts hp hS hl.size ok4.1 ok4.2.1 ok4.2.2 rfl (by decide) (c10_clear l D cA B S S4 (v1) h4) rfl rfl kd10_clear (kl0_20) ks10_clear kv10_clear ki10 kh10_clear ⟨Nat.le_of_ble_eq_true rfl, Nat.le_of_ble_eq_true rfl⟩ rfl (by simp [e_rv_cat, e_int_cat, e_long_cat]) ⟨Nat.le_refl _, Nat.le_refl _⟩ dX0_clear_4 rfl (fun H locs hp hS => ?_)
  refine e_aload_n (B := B) (x := x0) hx hb dX0_clear_7 rfl (hl.at 0 rfl) ?_
  refine lv_iconst (v := iI (0)) hx hb dX0_clear_8 rfl ?_
  obtain ⟨S9, h9, hsh⟩ := Option.bind_eq_some_iff.mp hsh
  refine e_putI (k := 1) hx hb hts in_X0 tyX0 tyX0_ok nmX0 hown hp hS h9 rfl (by decide) (by decide) rfl (hts _ kf0_23) rfl rfl (by decide +kernel) dX0_clear_9 (fun H locs hp hS => ?_)
  refine e_aload_n (B := B) (x := x0) hx hb dX0_clear_12 rfl (hl.at 0 rfl) ?_
  refine lv_iconst (v := iI (0)) hx hb dX0_clear_13 rfl ?_
  obtain ⟨S14, h14, hsh⟩ := Option.bind_eq_some_iff.mp hsh
  refine e_putI (k := 2) hx hb hts in_X0 tyX0 tyX0_ok nmX0 hown hp hS h14 rfl (by decide) (by decide) rfl (hts _ kf0_27) rfl rfl (by decide +kernel) dX0_clear_14 (fun H locs hp hS => ?_)
  refine e_aload_n (B := B) (x := x0) hx hb dX0_clear_17 rfl (hl.at 0 rfl) ?_
  refine lv_iconst (v := iI (0)) hx hb dX0_clear_18 rfl ?_
  obtain ⟨S19, h19, hsh⟩ := Option.bind_eq_some_iff.mp hsh
  refine e_putI (k := 4) hx hb hts in_X0 tyX0 tyX0_ok nmX0 hown hp hS h19 rfl (by decide) (by decide) rfl (hts _ kf0_30) rfl rfl (by decide +kernel) dX0_clear_19 (fun H locs hp hS => ?_)
  refine e_aload_n (B := B) (x := x0) hx hb dX0_clear_22 rfl (hl.at 0 rfl) ?_
  refine lv_iconst (v := iI (0)) hx hb dX0_clear_23 rfl ?_
  obtain ⟨S24, h24, hsh⟩ := Option.bind_eq_some_iff.mp hsh
  refine e_putI (k := 5) hx hb hts in_X0 tyX0 tyX0_ok nmX0 hown hp hS h24 rfl (by decide) (by decide) rfl (hts _ kf0_33) rfl rfl (by decide +kernel) dX0_clear_24 (fun H locs hp hS => ?_)
  refine e_aload_n (B := B) (x := x0) hx hb dX0_clear_27 rfl (hl.at 0 rfl) ?_
  refine lv_iconst (v := iI (0)) hx hb dX0_clear_28 rfl ?_
  obtain ⟨S29, h29, hsh⟩ := Option.bind_eq_some_iff.mp hsh
  refine e_putI (k := 6) hx hb hts in_X0 tyX0 tyX0_ok nmX0 hown hp hS h29 rfl (by decide) (by decide) rfl (hts _ kf0_36) rfl rfl (by decide +kernel) dX0_clear_29 (fun H locs hp hS => ?_)
  refine e_aload_n (B := B) (x := x0) hx hb dX0_clear_32 rfl (hl.at 0 rfl) ?_
  refine lv_iconst (v := iI (0)) hx hb dX0_clear_33 rfl ?_
  obtain ⟨S34, h34, hsh⟩ := Option.bind_eq_some_iff.mp hsh
  refine e_putI (k := 7) hx hb hts in_X0 tyX0 tyX0_ok nmX0 hown hp hS h34 rfl (by decide) (by decide) rfl (hts _ kf0_39) rfl rfl (by decide +kernel) dX0_clear_34 (fun H locs hp hS => ?_)
  refine e_aload_n (B := B) (x := x0) hx hb dX0_clear_37 rfl (hl.at 0 rfl) ?_
  refine lv_iconst (v := iI (0)) hx hb dX0_clear_38 rfl ?_
  obtain ⟨S39, h39, hsh⟩ := Option.bind_eq_some_iff.mp hsh
  refine e_putI (k := 8) hx hb hts in_X0 tyX0 tyX0_ok nmX0 hown hp hS h39 rfl (by decide) (by decide) rfl (hts _ kf0_42) rfl rfl (by decide +kernel) dX0_clear_39 (fun H locs hp hS => ?_)
  refine e_aload_n (B := B) (x := x0) hx hb dX0_clear_42 rfl (hl.at 0 rfl) ?_
  refine lv_iconst (v := iI (0)) hx hb dX0_clear_43 rfl ?_
  obtain ⟨S44, h44, hsh⟩ := Option.bind_eq_some_iff.mp hsh
  refine e_putI (k := 9) hx hb hts in_X0 tyX0 tyX0_ok nmX0 hown hp hS h44 rfl (by decide) (by decide) rfl (hts _ kf0_45) rfl rfl (by decide +kernel) dX0_clear_44 (fun H locs hp hS => ?_)
  refine e_aload_n (B := B) (x := x0) hx hb dX0_clear_47 rfl (hl.at 0 rfl) ?_
  refine lv_iconst (v := iI (0)) hx hb dX0_clear_48 rfl ?_
  obtain ⟨S49, h49, hsh⟩ := Option.bind_eq_some_iff.mp hsh
  refine e_putI (k := 10) hx hb hts in_X0 tyX0 tyX0_ok nmX0 hown hp hS h49 rfl (by decide) (by decide) rfl (hts _ kf0_48) rfl rfl (by decide +kernel) dX0_clear_49 (fun H locs hp hS => ?_)
  refine e_aload_n (B := B) (x := x0) hx hb dX0_clear_52 rfl (hl.at 0 rfl) ?_
  refine lv_iconst (v := iI (0)) hx hb dX0_clear_53 rfl ?_
  obtain ⟨S54, h54, hsh⟩ := Option.bind_eq_some_iff.mp hsh
  refine e_putI (k := 11) hx hb hts in_X0 tyX0 tyX0_ok nmX0 hown hp hS h54 rfl (by decide) (by decide) rfl (hts _ kf0_51) rfl rfl (by decide +kernel) dX0_clear_54 (fun H locs hp hS => ?_)
  refine e_aload_n (B := B) (x := x0) hx hb dX0_clear_57 rfl (hl.at 0 rfl) ?_
  refine lv_iconst (v := iI (0)) hx hb dX0_clear_58 rfl ?_
  obtain ⟨S59, h59, hsh⟩ := Option.bind_eq_some_iff.mp hsh
  refine e_putI (k := 12) hx hb hts in_X0 tyX0 tyX0_ok nmX0 hown hp hS h59 rfl (by decide) (by decide) rfl (hts _ kf0_54) rfl rfl (by decide +kernel) dX0_clear_59 (fun H locs hp hS => ?_)
  refine e_aload_n (B := B) (x := x0) hx hb dX0_clear_62 rfl (hl.at 0 rfl) ?_
  refine lv_iconst (v := iI (0)) hx hb dX0_clear_63 rfl ?_
  obtain ⟨S64, h64, hsh⟩ := Option.bind_eq_some_iff.mp hsh
  refine e_putI (k := 13) hx hb hts in_X0 tyX0 tyX0_ok nmX0 hown hp hS h64 rfl (by decide) (by decide) rfl (hts _ kf0_57) rfl rfl (by decide +kernel) dX0_clear_64 (fun H locs hp hS => ?_)
  refine e_aload_n (B := B) (x := x0) hx hb dX0_clear_67 rfl (hl.at 0 rfl) ?_
  refine lv_iconst (v := iI (0)) hx hb dX0_clear_68 rfl ?_
  obtain ⟨S69, h69, hsh⟩ := Option.bind_eq_some_iff.mp hsh
  refine e_putI (k := 14) hx hb hts in_X0 tyX0 tyX0_ok nmX0 hown hp hS h69 rfl (by decide) (by decide) rfl (hts _ kf0_60) rfl rfl (by decide +kernel) dX0_clear_69 (fun H locs hp hS => ?_)
  refine e_aload_n (B := B) (x := x0) hx hb dX0_clear_72 rfl (hl.at 0 rfl) ?_
  refine lv_iconst (v := iI (0)) hx hb dX0_clear_73 rfl ?_
  obtain ⟨S74, h74, hsh⟩ := Option.bind_eq_some_iff.mp hsh
  refine e_putZ (k := 15) hx hb hts in_X0 tyX0 tyX0_ok nmX0 hown hp hS h74 rfl (by decide) (by decide) rfl (hts _ kf0_63) rfl rfl (by decide +kernel) dX0_clear_74 (fun H locs hp hS => ?_)
  cases hsh
  exact e_vret hx hb hrt hlk hp hS dX0_clear_77
theorem ok0_copyOf {S : HP} {x0 : Int} {x1 : Int} {r : HP} (h : s0_copyOf S x0 x1 = some r) : 0 ≤ x0 ∧ x0.toNat < e_n S ∧ e_g S x0.toNat = 0 := (gd_some h).1
set_option maxRecDepth 100000 in
set_option maxHeartbeats 4000000 in
theorem c0_copyOf (l : Launch) (D : va_G) (cA : Nat → ClassId) (B : Nat) (S S' : HP) (x0 : Int) (x1 : Int) (hsh : s0_copyOf S x0 x1 = some S') : Met l yX0_copyOf (e_wu yX0_copyOf cX0_copyOf 2 none) ({ frames := 2, cells := e_n S' - e_n S, slots := e_s S' - e_s S, locals := 83 } : Room) (va_Pc [e_rv B (x0), e_rv B (x1)] (fun U => e_PU D cA B S U)) (e_Qv D cA B S') (e_n S' - e_n S) (e_s S' - e_s S) (e_A B) := by
  refine Met.ofW (cc := cX0_copyOf) (maxL := 2) (ret := none) (by decide +kernel) rfl ?_
  intro p e s m args below meth c s₁ Bd hml hv
  obtain ⟨rfl, hp⟩ := hv
  have hp : e_Pic D cA B S s s.heap := hp
  have hx := Bd.exec
  have hb := Bd.bytes
  have hrt := Bd.returns
  have hlk := Bd.notSynchronized
  have hown : s.vm.findClass RX0 = some m.cls := findClass_of_methodNamed Bd.named
  have hts : ∀ w ∈ e_tb, w.before ([e_rv B (x0), e_rv B (x1)] : List Value).toArray s = true := fun w h => atoms_spec (ws := (e_wu yX0_copyOf cX0_copyOf 2 none)) Bd.pre w (List.mem_cons_of_mem _ h)
  have E : e_En p s m ([e_rv B (x0), e_rv B (x1)] : List Value).toArray meth c cX0_copyOf RX0 2 none := ⟨hx, hb, hml, hown, hts, hlk, hrt⟩
  have hS : va_S (e_A B) s.heap s.heap [] := va_S.rf
  have hB0 : s.heap.size = B + e_n S := hp.2.2.1
  refine e_cells (c' := e_n S - e_n S) (s' := e_s S - e_s S) (Nat.sub_self _).symm (Nat.sub_self _).symm ?_
  have hl := e_entry (vs := [e_rv B (x0), e_rv B (x1)]) (n := 2) (Nat.le_of_ble_eq_true rfl) (e_cc (e_rv_cat _ _) (e_cc (e_rv_cat _ _) e_cn))
  rw [lg_entry_eq]
  generalize (lg_sl [e_rv B (x0), e_rv B (x1)] ++ List.replicate (2 - (lg_sl [e_rv B (x0), e_rv B (x1)]).length) Slot.unset).toArray = ls at hl ⊢
  generalize ([e_rv B (x0), e_rv B (x1)] : List Value).toArray = args at hts E ⊢
  have hl : e_lo ls 2 [(0, e_rv B (x0)), (1, e_rv B (x1))] := hl
  have hsh := (gd_some hsh).2
  refine e_aload_n (B := B) (x := x0) hx hb dX0_copyOf_0 rfl (hl.at 0 rfl) ?_
  obtain ⟨v1, h1, hsh⟩ := Option.bind_eq_some_iff.mp hsh
  refine e_getR (k := 0) hx hb hts in_X0 hown hp h1 rfl (by decide) (by decide) rfl (hts _ kf0_14) rfl dX0_copyOf_1 ?_
  refine e_aload_n (B := B) (x := x1) hx hb dX0_copyOf_4 rfl (hl.at 1 rfl) ?_
  obtain ⟨v5, h5, hsh⟩ := Option.bind_eq_some_iff.mp hsh
  refine e_getR (k := 0) hx hb hts in_X0 hown hp h5 rfl (by decide) (by decide) rfl (hts _ kf0_14) rfl dX0_copyOf_5 ?_
  refine e_aload_n (B := B) (x := x1) hx hb dX0_copyOf_8 rfl (hl.at 1 rfl) ?_
  obtain ⟨v9, h9, hsh⟩ := Option.bind_eq_some_iff.mp hsh
  refine e_getR (k := 0) hx hb hts in_X0 hown hp h9 rfl (by decide) (by decide) rfl (hts _ kf0_14) rfl dX0_copyOf_9 ?_
  obtain ⟨v12, h12, hsh⟩ := Option.bind_eq_some_iff.mp hsh
  refine e_getI (k := 1) hx hb hts in_X10 hown hp h12 rfl (by decide) (by decide) rfl (hts _ kf0_107) rfl dX0_copyOf_12 ?_
  obtain ⟨S15, h15, hsh⟩ := Option.bind_eq_some_iff.mp hsh
  obtain ⟨hsh, cc15, cd15⟩ := smV_some hsh
  have cd15 : e_n S15 ≤ e_n S' ∧ e_s S15 ≤ e_s S' := cd15
  have ok15 := ok10_copyOf h15
  refine e_callV (nL := 2) (mc := e_n S15 - e_n S) (ms := e_s S15 - e_s S) (T := TX10) (N := 3) (As := [e_rv B (v5), .int (iI (v12))]) (rest := []) hx hb hml hown hts hp hS hl.size ok15.1 ok15.2.1 ok15.2.2 rfl (by decide) (c10_copyOf l D cA B S S15 (v1) (v5) (v12) h15) rfl rfl kd10_copyOf (kl0_178) ks10_copyOf kv10_copyOf ki10 kh10_copyOf ⟨Nat.le_of_ble_eq_true rfl, Nat.le_of_ble_eq_true rfl⟩ rfl (by simp [e_rv_cat, e_int_cat, e_long_cat]) ⟨(by show _ ≤ e_n S' - e_n S; omega), (by show _ ≤ e_s S' - e_s S; omega)⟩ dX0_copyOf_15 rfl (fun H locs hp hS => ?_)
  refine e_cells (c' := e_n S15 - e_n S) (s' := e_s S15 - e_s S) (by omega) (by omega) ?_
  refine e_aload_n (B := B) (x := x0) hx hb dX0_copyOf_18 rfl (hl.at 0 rfl) ?_
  refine e_aload_n (B := B) (x := x1) hx hb dX0_copyOf_19 rfl (hl.at 1 rfl) ?_
  obtain ⟨v20, h20, hsh⟩ := Option.bind_eq_some_iff.mp hsh
  refine e_getI (k := 7) hx hb hts in_X0 hown hp h20 rfl (by decide) (by decide) rfl (hts _ kf0_39) rfl dX0_copyOf_20 ?_
  obtain ⟨S23, h23, hsh⟩ := Option.bind_eq_some_iff.mp hsh
  refine e_putI (k := 7) hx hb hts in_X0 tyX0 tyX0_ok nmX0 hown hp hS h23 rfl (by decide) (by decide) rfl (hts _ kf0_39) rfl rfl (by decide +kernel) dX0_copyOf_23 (fun H locs hp hS => ?_)
  have nn := pF_n h23
  refine e_cells (c' := e_n S23 - e_n S) (s' := e_s S23 - e_s S) (by omega) (by omega) ?_
  refine e_aload_n (B := B) (x := x0) hx hb dX0_copyOf_26 rfl (hl.at 0 rfl) ?_
  refine e_aload_n (B := B) (x := x1) hx hb dX0_copyOf_27 rfl (hl.at 1 rfl) ?_
  obtain ⟨v28, h28, hsh⟩ := Option.bind_eq_some_iff.mp hsh
  refine e_getI (k := 8) hx hb hts in_X0 hown hp h28 rfl (by decide) (by decide) rfl (hts _ kf0_42) rfl dX0_copyOf_28 ?_
  obtain ⟨S31, h31, hsh⟩ := Option.bind_eq_some_iff.mp hsh
  refine e_putI (k := 8) hx hb hts in_X0 tyX0 tyX0_ok nmX0 hown hp hS h31 rfl (by decide) (by decide) rfl (hts _ kf0_42) rfl rfl (by decide +kernel) dX0_copyOf_31 (fun H locs hp hS => ?_)
  have nn := pF_n h31
  refine e_cells (c' := e_n S31 - e_n S) (s' := e_s S31 - e_s S) (by omega) (by omega) ?_
  refine e_aload_n (B := B) (x := x0) hx hb dX0_copyOf_34 rfl (hl.at 0 rfl) ?_
  refine e_aload_n (B := B) (x := x1) hx hb dX0_copyOf_35 rfl (hl.at 1 rfl) ?_
  obtain ⟨v36, h36, hsh⟩ := Option.bind_eq_some_iff.mp hsh
  refine e_getI (k := 9) hx hb hts in_X0 hown hp h36 rfl (by decide) (by decide) rfl (hts _ kf0_45) rfl dX0_copyOf_36 ?_
  obtain ⟨S39, h39, hsh⟩ := Option.bind_eq_some_iff.mp hsh
  refine e_putI (k := 9) hx hb hts in_X0 tyX0 tyX0_ok nmX0 hown hp hS h39 rfl (by decide) (by decide) rfl (hts _ kf0_45) rfl rfl (by decide +kernel) dX0_copyOf_39 (fun H locs hp hS => ?_)
  have nn := pF_n h39
  refine e_cells (c' := e_n S39 - e_n S) (s' := e_s S39 - e_s S) (by omega) (by omega) ?_
  refine e_aload_n (B := B) (x := x0) hx hb dX0_copyOf_42 rfl (hl.at 0 rfl) ?_
  refine e_aload_n (B := B) (x := x1) hx hb dX0_copyOf_43 rfl (hl.at 1 rfl) ?_
  obtain ⟨v44, h44, hsh⟩ := Option.bind_eq_some_iff.mp hsh
  refine e_getI (k := 10) hx hb hts in_X0 hown hp h44 rfl (by decide) (by decide) rfl (hts _ kf0_48) rfl dX0_copyOf_44 ?_
  obtain ⟨S47, h47, hsh⟩ := Option.bind_eq_some_iff.mp hsh
  refine e_putI (k := 10) hx hb hts in_X0 tyX0 tyX0_ok nmX0 hown hp hS h47 rfl (by decide) (by decide) rfl (hts _ kf0_48) rfl rfl (by decide +kernel) dX0_copyOf_47 (fun H locs hp hS => ?_)
  have nn := pF_n h47
  refine e_cells (c' := e_n S47 - e_n S) (s' := e_s S47 - e_s S) (by omega) (by omega) ?_
  cases hsh
  exact e_vret hx hb hrt hlk hp hS dX0_copyOf_50
theorem ok0_spell {S : HP} {x0 : Int} {x1 : Int} {x2 : Int} {r : HP} (h : s0_spell S x0 x1 x2 = some r) : 0 ≤ x0 ∧ x0.toNat < e_n S ∧ e_g S x0.toNat = 0 := (gd_some h).1
set_option maxRecDepth 100000 in
set_option maxHeartbeats 4000000 in
theorem w0_spell_b191 {p : Program} {l : Launch} {e : Env} {s : State} {m : MethodId} {args : Array Value} {below : List Frame} {meth : Method} {c : Code} {D : va_G} {cA : Nat → ClassId} {B : Nat} {res : HP} {S0 : HP} (hB0 : s.heap.size = B + e_n S0) (E : e_En p s m args meth c cX0_spell RX0 7 none) {ls : Array Slot} {H : Heap} {locs : List Loc} {S : HP} (hp : e_Pic D cA B S s H) (hS : va_S (e_A B) s.heap H locs) (h0 : e_n S0 ≤ e_n S ∧ e_s S0 ≤ e_s S) (hl : e_lo ls 7 []) (hsh : s0_spell_b191 S  = some res) : W p l e ({ frames := 2, cells := e_n res - e_n S0, slots := e_s res - e_s S0, locals := 82 } : Room) s m args below meth c H locs (e_n S - e_n S0) (e_s S - e_s S0) (MQ below (e_Qv D cA B res) args s (e_n res - e_n S0) (e_s res - e_s S0) (e_A B)) (F0 m 191 ls []) := by
  obtain ⟨hx, hb, hml, hown, hts, hlk, hrt⟩ := id E
  unfold s0_spell_b191 at hsh
  cases hsh
  exact e_vret hx hb hrt hlk hp hS dX0_spell_191
set_option maxRecDepth 100000 in
set_option maxHeartbeats 4000000 in
theorem w0_spell_b185 {p : Program} {l : Launch} {e : Env} {s : State} {m : MethodId} {args : Array Value} {below : List Frame} {meth : Method} {c : Code} {D : va_G} {cA : Nat → ClassId} {B : Nat} {res : HP} {S0 : HP} (hB0 : s.heap.size = B + e_n S0) {k2 : HP → Int → Int → Int → Int → Option (HP)} (hk2 : ∀ {ls : Array Slot} {H : Heap} {locs : List Loc} {S : HP} {x0 : Int} {x1 : Int} {x2 : Int} {x3 : Int} (hp : e_Pic D cA B S s H) (hS : va_S (e_A B) s.heap H locs) (h0 : e_n S0 ≤ e_n S ∧ e_s S0 ≤ e_s S) (hl : e_lo ls 7 [(0, e_rv B (x0)), (1, e_rv B (x1)), (2, .int (iI (x2))), (3, .int (iI (x3)))]) (hsh : k2 S x0 x1 x2 x3 = some res), W p l e ({ frames := 2, cells := e_n res - e_n S0, slots := e_s res - e_s S0, locals := 82 } : Room) s m args below meth c H locs (e_n S - e_n S0) (e_s S - e_s S0) (MQ below (e_Qv D cA B res) args s (e_n res - e_n S0) (e_s res - e_s S0) (e_A B)) (F0 m 2 ls [])) (E : e_En p s m args meth c cX0_spell RX0 7 none) {ls : Array Slot} {H : Heap} {locs : List Loc} {S : HP} {x0 : Int} {x1 : Int} {x2 : Int} {x3 : Int} (hp : e_Pic D cA B S s H) (hS : va_S (e_A B) s.heap H locs) (h0 : e_n S0 ≤ e_n S ∧ e_s S0 ≤ e_s S) (hl : e_lo ls 7 [(0, e_rv B (x0)), (1, e_rv B (x1)), (2, .int (iI (x2))), (3, .int (iI (x3)))]) (hsh : s0_spell_b185 k2 S x0 x1 x2 x3 = some res) : W p l e ({ frames := 2, cells := e_n res - e_n S0, slots := e_s res - e_s S0, locals := 82 } : Room) s m args below meth c H locs (e_n S - e_n S0) (e_s S - e_s S0) (MQ below (e_Qv D cA B res) args s (e_n res - e_n S0) (e_s res - e_s S0) (e_A B)) (F0 m 185 ls []) := by
  obtain ⟨hx, hb, hml, hown, hts, hlk, hrt⟩ := id E
  unfold s0_spell_b185 at hsh
  refine e_iinc (n := 1) (x := x3) (lv' := [(3, .int (iI ((x3 + 1)))), (0, e_rv B (x0)), (1, e_rv B (x1)), (2, .int (iI (x2)))]) hx hb dX0_spell_185 hl (k := 3) rfl (by decide) rfl (fun ls hl => ?_)
  refine lv_goto (tgt := 2) hx hb dX0_spell_188 (by decide) ?_
  exact hk2 hp hS ⟨by omega, by omega⟩ (hl.sub [1, 2, 3, 0] rfl) hsh
set_option maxRecDepth 100000 in
set_option maxHeartbeats 4000000 in
theorem w0_spell_b181 {p : Program} {l : Launch} {e : Env} {s : State} {m : MethodId} {args : Array Value} {below : List Frame} {meth : Method} {c : Code} {D : va_G} {cA : Nat → ClassId} {B : Nat} {res : HP} {S0 : HP} (hB0 : s.heap.size = B + e_n S0) {k2 : HP → Int → Int → Int → Int → Option (HP)} (hk2 : ∀ {ls : Array Slot} {H : Heap} {locs : List Loc} {S : HP} {x0 : Int} {x1 : Int} {x2 : Int} {x3 : Int} (hp : e_Pic D cA B S s H) (hS : va_S (e_A B) s.heap H locs) (h0 : e_n S0 ≤ e_n S ∧ e_s S0 ≤ e_s S) (hl : e_lo ls 7 [(0, e_rv B (x0)), (1, e_rv B (x1)), (2, .int (iI (x2))), (3, .int (iI (x3)))]) (hsh : k2 S x0 x1 x2 x3 = some res), W p l e ({ frames := 2, cells := e_n res - e_n S0, slots := e_s res - e_s S0, locals := 82 } : Room) s m args below meth c H locs (e_n S - e_n S0) (e_s S - e_s S0) (MQ below (e_Qv D cA B res) args s (e_n res - e_n S0) (e_s res - e_s S0) (e_A B)) (F0 m 2 ls [])) (E : e_En p s m args meth c cX0_spell RX0 7 none) {ls : Array Slot} {H : Heap} {locs : List Loc} {S : HP} {x0 : Int} {x1 : Int} {x2 : Int} {x3 : Int} {y0 : Int} {y1 : Int} (hp : e_Pic D cA B S s H) (hS : va_S (e_A B) s.heap H locs) (h0 : e_n S0 ≤ e_n S ∧ e_s S0 ≤ e_s S) (hl : e_lo ls 7 [(0, e_rv B (x0)), (1, e_rv B (x1)), (2, .int (iI (x2))), (3, .int (iI (x3)))]) (hsh : s0_spell_b181 k2 S x0 x1 x2 x3 y0 y1 = some res) : W p l e ({ frames := 2, cells := e_n res - e_n S0, slots := e_s res - e_s S0, locals := 82 } : Room) s m args below meth c H locs (e_n S - e_n S0) (e_s S - e_s S0) (MQ below (e_Qv D cA B res) args s (e_n res - e_n S0) (e_s res - e_s S0) (e_A B)) (F0 m 181 ls [.int (iI (y1)), e_rv B (y0)]) := by
  obtain ⟨hx, hb, hml, hown, hts, hlk, hrt⟩ := id E
  unfold s0_spell_b181 at hsh
  obtain ⟨⟨v181, S181⟩, h181, hsh⟩ := Option.bind_eq_some_iff.mp hsh
  have hsh : _ = _ := hsh
  try dsimp only at hsh
  obtain ⟨hsh, cc181, cd181⟩ := smV_some hsh
  have cd181 : e_n S181 ≤ e_n res ∧ e_s S181 ≤ e_s res := cd181
  have ok181 := ok10_add h181
  refine e_callI (nL := 7) (mc := e_n S181 - e_n S) (ms := e_s S181 - e_s S) (T := TX10) (N := 3) (As := [.int (iI (y1))]) (rest := []) hx hb hml hown hts hp hS hl.size ok181.1 ok181.2.1 ok181.2.2 rfl (by decide) (c10_add l D cA B S S181 (y0) (y1) v181 h181) rfl rfl kd10_add (kl0_67) ks10_add kv10_add ki10 kh10_add ⟨Nat.le_of_ble_eq_true rfl, Nat.le_of_ble_eq_true rfl⟩ rfl (by simp [e_rv_cat, e_int_cat, e_long_cat]) ⟨(by show _ ≤ e_n res - e_n S0; omega), (by show _ ≤ e_s res - e_s S0; omega)⟩ dX0_spell_181 rfl (fun H locs hp hS => ?_)
  refine e_cells (c' := e_n S181 - e_n S0) (s' := e_s S181 - e_s S0) (by omega) (by omega) ?_
  refine lv_pop hx hb dX0_spell_184 rfl ?_
  exact w0_spell_b185 (hk2 := hk2) (hB0 := hB0) E hp hS ⟨by omega, by omega⟩ (hl.sub [0, 1, 2, 3] rfl) hsh
set_option maxRecDepth 100000 in
set_option maxHeartbeats 4000000 in
theorem w0_spell_b164 {p : Program} {l : Launch} {e : Env} {s : State} {m : MethodId} {args : Array Value} {below : List Frame} {meth : Method} {c : Code} {D : va_G} {cA : Nat → ClassId} {B : Nat} {res : HP} {S0 : HP} (hB0 : s.heap.size = B + e_n S0) {k2 : HP → Int → Int → Int → Int → Option (HP)} (hk2 : ∀ {ls : Array Slot} {H : Heap} {locs : List Loc} {S : HP} {x0 : Int} {x1 : Int} {x2 : Int} {x3 : Int} (hp : e_Pic D cA B S s H) (hS : va_S (e_A B) s.heap H locs) (h0 : e_n S0 ≤ e_n S ∧ e_s S0 ≤ e_s S) (hl : e_lo ls 7 [(0, e_rv B (x0)), (1, e_rv B (x1)), (2, .int (iI (x2))), (3, .int (iI (x3)))]) (hsh : k2 S x0 x1 x2 x3 = some res), W p l e ({ frames := 2, cells := e_n res - e_n S0, slots := e_s res - e_s S0, locals := 82 } : Room) s m args below meth c H locs (e_n S - e_n S0) (e_s S - e_s S0) (MQ below (e_Qv D cA B res) args s (e_n res - e_n S0) (e_s res - e_s S0) (e_A B)) (F0 m 2 ls [])) (E : e_En p s m args meth c cX0_spell RX0 7 none) {ls : Array Slot} {H : Heap} {locs : List Loc} {S : HP} {x0 : Int} {x1 : Int} {x2 : Int} {x3 : Int} {x4 : Int} {y0 : Int} (hp : e_Pic D cA B S s H) (hS : va_S (e_A B) s.heap H locs) (h0 : e_n S0 ≤ e_n S ∧ e_s S0 ≤ e_s S) (hl : e_lo ls 7 [(0, e_rv B (x0)), (1, e_rv B (x1)), (2, .int (iI (x2))), (3, .int (iI (x3))), (4, .int (iI (x4)))]) (hsh : s0_spell_b164 k2 S x0 x1 x2 x3 x4 y0 = some res) : W p l e ({ frames := 2, cells := e_n res - e_n S0, slots := e_s res - e_s S0, locals := 82 } : Room) s m args below meth c H locs (e_n S - e_n S0) (e_s S - e_s S0) (MQ below (e_Qv D cA B res) args s (e_n res - e_n S0) (e_s res - e_s S0) (e_A B)) (F0 m 164 ls [.int (iI (y0))]) := by
  obtain ⟨hx, hb, hml, hown, hts, hlk, hrt⟩ := id E
  unfold s0_spell_b164 at hsh
  refine e_istore (lv' := [(6, .int (iI (y0))), (0, e_rv B (x0)), (1, e_rv B (x1)), (2, .int (iI (x2))), (3, .int (iI (x3))), (4, .int (iI (x4)))]) hx hb dX0_spell_164 hl (by decide) rfl (fun ls hl => ?_)
  refine e_aload_n (B := B) (x := x1) hx hb dX0_spell_166 rfl (hl.at 2 rfl) ?_
  refine lv_iload hx hb dX0_spell_167 (hl.at 0 rfl) ?_
  refine e_if_eq (tgt := 179) hx hb dX0_spell_169 (by decide) (fun c169 => ?_) (fun c169 => ?_)
  · rw [if_pos c169] at hsh
    refine lv_iload hx hb dX0_spell_179 (hl.at 5 rfl) ?_
    exact w0_spell_b181 (hk2 := hk2) (hB0 := hB0) E hp hS ⟨by omega, by omega⟩ (hl.sub [1, 2, 3, 4] rfl) hsh
  · rw [if_neg c169] at hsh
    refine lv_iload hx hb dX0_spell_172 (hl.at 5 rfl) ?_
    refine lv_iconst (v := iI (1)) hx hb dX0_spell_174 rfl ?_
    refine e_iadd hx hb dX0_spell_175 ?_
    refine lv_goto (tgt := 181) hx hb dX0_spell_176 (by decide) ?_
    exact w0_spell_b181 (hk2 := hk2) (hB0 := hB0) E hp hS ⟨by omega, by omega⟩ (hl.sub [1, 2, 3, 4] rfl) hsh
set_option maxRecDepth 100000 in
set_option maxHeartbeats 4000000 in
theorem w0_spell_b163 {p : Program} {l : Launch} {e : Env} {s : State} {m : MethodId} {args : Array Value} {below : List Frame} {meth : Method} {c : Code} {D : va_G} {cA : Nat → ClassId} {B : Nat} {res : HP} {S0 : HP} (hB0 : s.heap.size = B + e_n S0) {k2 : HP → Int → Int → Int → Int → Option (HP)} (hk2 : ∀ {ls : Array Slot} {H : Heap} {locs : List Loc} {S : HP} {x0 : Int} {x1 : Int} {x2 : Int} {x3 : Int} (hp : e_Pic D cA B S s H) (hS : va_S (e_A B) s.heap H locs) (h0 : e_n S0 ≤ e_n S ∧ e_s S0 ≤ e_s S) (hl : e_lo ls 7 [(0, e_rv B (x0)), (1, e_rv B (x1)), (2, .int (iI (x2))), (3, .int (iI (x3)))]) (hsh : k2 S x0 x1 x2 x3 = some res), W p l e ({ frames := 2, cells := e_n res - e_n S0, slots := e_s res - e_s S0, locals := 82 } : Room) s m args below meth c H locs (e_n S - e_n S0) (e_s S - e_s S0) (MQ below (e_Qv D cA B res) args s (e_n res - e_n S0) (e_s res - e_s S0) (e_A B)) (F0 m 2 ls [])) (E : e_En p s m args meth c cX0_spell RX0 7 none) {ls : Array Slot} {H : Heap} {locs : List Loc} {S : HP} {x0 : Int} {x1 : Int} {x2 : Int} {x3 : Int} {x4 : Int} (hp : e_Pic D cA B S s H) (hS : va_S (e_A B) s.heap H locs) (h0 : e_n S0 ≤ e_n S ∧ e_s S0 ≤ e_s S) (hl : e_lo ls 7 [(0, e_rv B (x0)), (1, e_rv B (x1)), (2, .int (iI (x2))), (3, .int (iI (x3))), (4, .int (iI (x4)))]) (hsh : s0_spell_b163 k2 S x0 x1 x2 x3 x4 = some res) : W p l e ({ frames := 2, cells := e_n res - e_n S0, slots := e_s res - e_s S0, locals := 82 } : Room) s m args below meth c H locs (e_n S - e_n S0) (e_s S - e_s S0) (MQ below (e_Qv D cA B res) args s (e_n res - e_n S0) (e_s res - e_s S0) (e_A B)) (F0 m 163 ls []) := by
  obtain ⟨hx, hb, hml, hown, hts, hlk, hrt⟩ := id E
  unfold s0_spell_b163 at hsh
  refine lv_iconst (v := iI (0)) hx hb dX0_spell_163 rfl ?_
  exact w0_spell_b164 (hk2 := hk2) (hB0 := hB0) E hp hS ⟨by omega, by omega⟩ (hl.sub [0, 1, 2, 3, 4] rfl) hsh
set_option maxRecDepth 100000 in
set_option maxHeartbeats 4000000 in
theorem w0_spell_b126 {p : Program} {l : Launch} {e : Env} {s : State} {m : MethodId} {args : Array Value} {below : List Frame} {meth : Method} {c : Code} {D : va_G} {cA : Nat → ClassId} {B : Nat} {res : HP} {S0 : HP} (hB0 : s.heap.size = B + e_n S0) {k2 : HP → Int → Int → Int → Int → Option (HP)} (hk2 : ∀ {ls : Array Slot} {H : Heap} {locs : List Loc} {S : HP} {x0 : Int} {x1 : Int} {x2 : Int} {x3 : Int} (hp : e_Pic D cA B S s H) (hS : va_S (e_A B) s.heap H locs) (h0 : e_n S0 ≤ e_n S ∧ e_s S0 ≤ e_s S) (hl : e_lo ls 7 [(0, e_rv B (x0)), (1, e_rv B (x1)), (2, .int (iI (x2))), (3, .int (iI (x3)))]) (hsh : k2 S x0 x1 x2 x3 = some res), W p l e ({ frames := 2, cells := e_n res - e_n S0, slots := e_s res - e_s S0, locals := 82 } : Room) s m args below meth c H locs (e_n S - e_n S0) (e_s S - e_s S0) (MQ below (e_Qv D cA B res) args s (e_n res - e_n S0) (e_s res - e_s S0) (e_A B)) (F0 m 2 ls [])) (E : e_En p s m args meth c cX0_spell RX0 7 none) {ls : Array Slot} {H : Heap} {locs : List Loc} {S : HP} {x0 : Int} {x1 : Int} {x2 : Int} {x3 : Int} {x4 : Int} (hp : e_Pic D cA B S s H) (hS : va_S (e_A B) s.heap H locs) (h0 : e_n S0 ≤ e_n S ∧ e_s S0 ≤ e_s S) (hl : e_lo ls 7 [(0, e_rv B (x0)), (1, e_rv B (x1)), (2, .int (iI (x2))), (3, .int (iI (x3))), (4, .int (iI (x4)))]) (hsh : s0_spell_b126 k2 S x0 x1 x2 x3 x4 = some res) : W p l e ({ frames := 2, cells := e_n res - e_n S0, slots := e_s res - e_s S0, locals := 82 } : Room) s m args below meth c H locs (e_n S - e_n S0) (e_s S - e_s S0) (MQ below (e_Qv D cA B res) args s (e_n res - e_n S0) (e_s res - e_s S0) (e_A B)) (F0 m 126 ls []) := by
  obtain ⟨hx, hb, hml, hown, hts, hlk, hrt⟩ := id E
  unfold s0_spell_b126 at hsh
  refine lv_iload_n hx hb dX0_spell_126 rfl (hl.at 3 rfl) ?_
  refine lv_iconst (v := iI (1)) hx hb dX0_spell_127 rfl ?_
  refine e_icmp_ne (tgt := 163) hx hb dX0_spell_128 (by decide) (fun c128 => ?_) (fun c128 => ?_)
  · rw [if_neg c128] at hsh
    exact w0_spell_b163 (hk2 := hk2) (hB0 := hB0) E hp hS ⟨by omega, by omega⟩ (hl.sub [0, 1, 2, 3, 4] rfl) hsh
  · rw [if_pos c128] at hsh
    refine e_aload_n (B := B) (x := x0) hx hb dX0_spell_131 rfl (hl.at 0 rfl) ?_
    obtain ⟨v132, h132, hsh⟩ := Option.bind_eq_some_iff.mp hsh
    refine e_getR (k := 0) hx hb hts in_X0 hown hp h132 rfl (by decide) (by decide) rfl (hts _ kf0_14) rfl dX0_spell_132 ?_
    obtain ⟨v135, h135, hsh⟩ := Option.bind_eq_some_iff.mp hsh
    refine e_getR (k := 0) hx hb hts in_X10 hown hp h135 rfl (by decide) (by decide) rfl (hts _ kf0_182) rfl dX0_spell_135 ?_
    refine lv_iconst (v := iI (0)) hx hb dX0_spell_138 rfl ?_
    obtain ⟨v139, h139, hsh⟩ := Option.bind_eq_some_iff.mp hsh
    refine e_cald hx hb hp h139 dX0_spell_139 ?_
    refine lv_bipush (v := iI (34)) hx hb dX0_spell_140 (by decide +kernel) ?_
    refine e_icmp_ne (tgt := 163) hx hb dX0_spell_142 (by decide) (fun c142 => ?_) (fun c142 => ?_)
    · rw [if_neg c142] at hsh
      exact w0_spell_b163 (hk2 := hk2) (hB0 := hB0) E hp hS ⟨by omega, by omega⟩ (hl.sub [0, 1, 2, 3, 4] rfl) hsh
    · rw [if_pos c142] at hsh
      refine lv_iload hx hb dX0_spell_145 (hl.at 4 rfl) ?_
      refine lv_bipush (v := iI (49)) hx hb dX0_spell_147 (by decide +kernel) ?_
      refine e_icmp_lt (tgt := 163) hx hb dX0_spell_149 (by decide) (fun c149 => ?_) (fun c149 => ?_)
      · rw [if_pos c149] at hsh
        exact w0_spell_b163 (hk2 := hk2) (hB0 := hB0) E hp hS ⟨by omega, by omega⟩ (hl.sub [0, 1, 2, 3, 4] rfl) hsh
      · rw [if_neg c149] at hsh
        refine lv_iload hx hb dX0_spell_152 (hl.at 4 rfl) ?_
        refine lv_bipush (v := iI (56)) hx hb dX0_spell_154 (by decide +kernel) ?_
        refine e_icmp_gt (tgt := 163) hx hb dX0_spell_156 (by decide) (fun c156 => ?_) (fun c156 => ?_)
        · rw [if_pos c156] at hsh
          exact w0_spell_b163 (hk2 := hk2) (hB0 := hB0) E hp hS ⟨by omega, by omega⟩ (hl.sub [0, 1, 2, 3, 4] rfl) hsh
        · rw [if_neg c156] at hsh
          refine lv_iconst (v := iI (1)) hx hb dX0_spell_159 rfl ?_
          refine lv_goto (tgt := 164) hx hb dX0_spell_160 (by decide) ?_
          exact w0_spell_b164 (hk2 := hk2) (hB0 := hB0) E hp hS ⟨by omega, by omega⟩ (hl.sub [0, 1, 2, 3, 4] rfl) hsh
set_option maxRecDepth 100000 in
set_option maxHeartbeats 4000000 in
theorem w0_spell_b112 {p : Program} {l : Launch} {e : Env} {s : State} {m : MethodId} {args : Array Value} {below : List Frame} {meth : Method} {c : Code} {D : va_G} {cA : Nat → ClassId} {B : Nat} {res : HP} {S0 : HP} (hB0 : s.heap.size = B + e_n S0) {k2 : HP → Int → Int → Int → Int → Option (HP)} (hk2 : ∀ {ls : Array Slot} {H : Heap} {locs : List Loc} {S : HP} {x0 : Int} {x1 : Int} {x2 : Int} {x3 : Int} (hp : e_Pic D cA B S s H) (hS : va_S (e_A B) s.heap H locs) (h0 : e_n S0 ≤ e_n S ∧ e_s S0 ≤ e_s S) (hl : e_lo ls 7 [(0, e_rv B (x0)), (1, e_rv B (x1)), (2, .int (iI (x2))), (3, .int (iI (x3)))]) (hsh : k2 S x0 x1 x2 x3 = some res), W p l e ({ frames := 2, cells := e_n res - e_n S0, slots := e_s res - e_s S0, locals := 82 } : Room) s m args below meth c H locs (e_n S - e_n S0) (e_s S - e_s S0) (MQ below (e_Qv D cA B res) args s (e_n res - e_n S0) (e_s res - e_s S0) (e_A B)) (F0 m 2 ls [])) (E : e_En p s m args meth c cX0_spell RX0 7 none) {ls : Array Slot} {H : Heap} {locs : List Loc} {S : HP} {x0 : Int} {x1 : Int} {x2 : Int} {x3 : Int} {x4 : Int} {y0 : Int} (hp : e_Pic D cA B S s H) (hS : va_S (e_A B) s.heap H locs) (h0 : e_n S0 ≤ e_n S ∧ e_s S0 ≤ e_s S) (hl : e_lo ls 7 [(0, e_rv B (x0)), (1, e_rv B (x1)), (2, .int (iI (x2))), (3, .int (iI (x3))), (4, .int (iI (x4)))]) (hsh : s0_spell_b112 k2 S x0 x1 x2 x3 x4 y0 = some res) : W p l e ({ frames := 2, cells := e_n res - e_n S0, slots := e_s res - e_s S0, locals := 82 } : Room) s m args below meth c H locs (e_n S - e_n S0) (e_s S - e_s S0) (MQ below (e_Qv D cA B res) args s (e_n res - e_n S0) (e_s res - e_s S0) (e_A B)) (F0 m 112 ls [.int (iI (y0))]) := by
  obtain ⟨hx, hb, hml, hown, hts, hlk, hrt⟩ := id E
  unfold s0_spell_b112 at hsh
  refine e_istore (lv' := [(5, .int (iI (y0))), (0, e_rv B (x0)), (1, e_rv B (x1)), (2, .int (iI (x2))), (3, .int (iI (x3))), (4, .int (iI (x4)))]) hx hb dX0_spell_112 hl (by decide) rfl (fun ls hl => ?_)
  refine lv_iload_n hx hb dX0_spell_114 rfl (hl.at 3 rfl) ?_
  refine e_if_le (tgt := 126) hx hb dX0_spell_115 (by decide) (fun c115 => ?_) (fun c115 => ?_)
  · rw [if_pos c115] at hsh
    exact w0_spell_b126 (hk2 := hk2) (hB0 := hB0) E hp hS ⟨by omega, by omega⟩ (hl.sub [1, 2, 3, 4, 5] rfl) hsh
  · rw [if_neg c115] at hsh
    refine lv_iload hx hb dX0_spell_118 (hl.at 0 rfl) ?_
    refine e_if_eq (tgt := 126) hx hb dX0_spell_120 (by decide) (fun c120 => ?_) (fun c120 => ?_)
    · rw [if_pos c120] at hsh
      exact w0_spell_b126 (hk2 := hk2) (hB0 := hB0) E hp hS ⟨by omega, by omega⟩ (hl.sub [1, 2, 3, 4, 5] rfl) hsh
    · rw [if_neg c120] at hsh
      refine lv_goto (tgt := 185) hx hb dX0_spell_123 (by decide) ?_
      exact w0_spell_b185 (hk2 := hk2) (hB0 := hB0) E hp hS ⟨by omega, by omega⟩ (hl.sub [1, 2, 3, 4] rfl) hsh
set_option maxRecDepth 100000 in
set_option maxHeartbeats 4000000 in
theorem w0_spell_b111 {p : Program} {l : Launch} {e : Env} {s : State} {m : MethodId} {args : Array Value} {below : List Frame} {meth : Method} {c : Code} {D : va_G} {cA : Nat → ClassId} {B : Nat} {res : HP} {S0 : HP} (hB0 : s.heap.size = B + e_n S0) {k2 : HP → Int → Int → Int → Int → Option (HP)} (hk2 : ∀ {ls : Array Slot} {H : Heap} {locs : List Loc} {S : HP} {x0 : Int} {x1 : Int} {x2 : Int} {x3 : Int} (hp : e_Pic D cA B S s H) (hS : va_S (e_A B) s.heap H locs) (h0 : e_n S0 ≤ e_n S ∧ e_s S0 ≤ e_s S) (hl : e_lo ls 7 [(0, e_rv B (x0)), (1, e_rv B (x1)), (2, .int (iI (x2))), (3, .int (iI (x3)))]) (hsh : k2 S x0 x1 x2 x3 = some res), W p l e ({ frames := 2, cells := e_n res - e_n S0, slots := e_s res - e_s S0, locals := 82 } : Room) s m args below meth c H locs (e_n S - e_n S0) (e_s S - e_s S0) (MQ below (e_Qv D cA B res) args s (e_n res - e_n S0) (e_s res - e_s S0) (e_A B)) (F0 m 2 ls [])) (E : e_En p s m args meth c cX0_spell RX0 7 none) {ls : Array Slot} {H : Heap} {locs : List Loc} {S : HP} {x0 : Int} {x1 : Int} {x2 : Int} {x3 : Int} {x4 : Int} (hp : e_Pic D cA B S s H) (hS : va_S (e_A B) s.heap H locs) (h0 : e_n S0 ≤ e_n S ∧ e_s S0 ≤ e_s S) (hl : e_lo ls 7 [(0, e_rv B (x0)), (1, e_rv B (x1)), (2, .int (iI (x2))), (3, .int (iI (x3))), (4, .int (iI (x4)))]) (hsh : s0_spell_b111 k2 S x0 x1 x2 x3 x4 = some res) : W p l e ({ frames := 2, cells := e_n res - e_n S0, slots := e_s res - e_s S0, locals := 82 } : Room) s m args below meth c H locs (e_n S - e_n S0) (e_s S - e_s S0) (MQ below (e_Qv D cA B res) args s (e_n res - e_n S0) (e_s res - e_s S0) (e_A B)) (F0 m 111 ls []) := by
  obtain ⟨hx, hb, hml, hown, hts, hlk, hrt⟩ := id E
  unfold s0_spell_b111 at hsh
  refine lv_iconst (v := iI (0)) hx hb dX0_spell_111 rfl ?_
  exact w0_spell_b112 (hk2 := hk2) (hB0 := hB0) E hp hS ⟨by omega, by omega⟩ (hl.sub [0, 1, 2, 3, 4] rfl) hsh
set_option maxRecDepth 100000 in
set_option maxHeartbeats 4000000 in
theorem w0_spell_b107 {p : Program} {l : Launch} {e : Env} {s : State} {m : MethodId} {args : Array Value} {below : List Frame} {meth : Method} {c : Code} {D : va_G} {cA : Nat → ClassId} {B : Nat} {res : HP} {S0 : HP} (hB0 : s.heap.size = B + e_n S0) {k2 : HP → Int → Int → Int → Int → Option (HP)} (hk2 : ∀ {ls : Array Slot} {H : Heap} {locs : List Loc} {S : HP} {x0 : Int} {x1 : Int} {x2 : Int} {x3 : Int} (hp : e_Pic D cA B S s H) (hS : va_S (e_A B) s.heap H locs) (h0 : e_n S0 ≤ e_n S ∧ e_s S0 ≤ e_s S) (hl : e_lo ls 7 [(0, e_rv B (x0)), (1, e_rv B (x1)), (2, .int (iI (x2))), (3, .int (iI (x3)))]) (hsh : k2 S x0 x1 x2 x3 = some res), W p l e ({ frames := 2, cells := e_n res - e_n S0, slots := e_s res - e_s S0, locals := 82 } : Room) s m args below meth c H locs (e_n S - e_n S0) (e_s S - e_s S0) (MQ below (e_Qv D cA B res) args s (e_n res - e_n S0) (e_s res - e_s S0) (e_A B)) (F0 m 2 ls [])) (E : e_En p s m args meth c cX0_spell RX0 7 none) {ls : Array Slot} {H : Heap} {locs : List Loc} {S : HP} {x0 : Int} {x1 : Int} {x2 : Int} {x3 : Int} {x4 : Int} (hp : e_Pic D cA B S s H) (hS : va_S (e_A B) s.heap H locs) (h0 : e_n S0 ≤ e_n S ∧ e_s S0 ≤ e_s S) (hl : e_lo ls 7 [(0, e_rv B (x0)), (1, e_rv B (x1)), (2, .int (iI (x2))), (3, .int (iI (x3))), (4, .int (iI (x4)))]) (hsh : s0_spell_b107 k2 S x0 x1 x2 x3 x4 = some res) : W p l e ({ frames := 2, cells := e_n res - e_n S0, slots := e_s res - e_s S0, locals := 82 } : Room) s m args below meth c H locs (e_n S - e_n S0) (e_s S - e_s S0) (MQ below (e_Qv D cA B res) args s (e_n res - e_n S0) (e_s res - e_s S0) (e_A B)) (F0 m 107 ls []) := by
  obtain ⟨hx, hb, hml, hown, hts, hlk, hrt⟩ := id E
  unfold s0_spell_b107 at hsh
  refine lv_iconst (v := iI (1)) hx hb dX0_spell_107 rfl ?_
  refine lv_goto (tgt := 112) hx hb dX0_spell_108 (by decide) ?_
  exact w0_spell_b112 (hk2 := hk2) (hB0 := hB0) E hp hS ⟨by omega, by omega⟩ (hl.sub [0, 1, 2, 3, 4] rfl) hsh
set_option maxRecDepth 100000 in
set_option maxHeartbeats 4000000 in
theorem w0_spell_b91 {p : Program} {l : Launch} {e : Env} {s : State} {m : MethodId} {args : Array Value} {below : List Frame} {meth : Method} {c : Code} {D : va_G} {cA : Nat → ClassId} {B : Nat} {res : HP} {S0 : HP} (hB0 : s.heap.size = B + e_n S0) {k2 : HP → Int → Int → Int → Int → Option (HP)} (hk2 : ∀ {ls : Array Slot} {H : Heap} {locs : List Loc} {S : HP} {x0 : Int} {x1 : Int} {x2 : Int} {x3 : Int} (hp : e_Pic D cA B S s H) (hS : va_S (e_A B) s.heap H locs) (h0 : e_n S0 ≤ e_n S ∧ e_s S0 ≤ e_s S) (hl : e_lo ls 7 [(0, e_rv B (x0)), (1, e_rv B (x1)), (2, .int (iI (x2))), (3, .int (iI (x3)))]) (hsh : k2 S x0 x1 x2 x3 = some res), W p l e ({ frames := 2, cells := e_n res - e_n S0, slots := e_s res - e_s S0, locals := 82 } : Room) s m args below meth c H locs (e_n S - e_n S0) (e_s S - e_s S0) (MQ below (e_Qv D cA B res) args s (e_n res - e_n S0) (e_s res - e_s S0) (e_A B)) (F0 m 2 ls [])) (E : e_En p s m args meth c cX0_spell RX0 7 none) {ls : Array Slot} {H : Heap} {locs : List Loc} {S : HP} {x0 : Int} {x1 : Int} {x2 : Int} {x3 : Int} {x4 : Int} (hp : e_Pic D cA B S s H) (hS : va_S (e_A B) s.heap H locs) (h0 : e_n S0 ≤ e_n S ∧ e_s S0 ≤ e_s S) (hl : e_lo ls 7 [(0, e_rv B (x0)), (1, e_rv B (x1)), (2, .int (iI (x2))), (3, .int (iI (x3))), (4, .int (iI (x4)))]) (hsh : s0_spell_b91 k2 S x0 x1 x2 x3 x4 = some res) : W p l e ({ frames := 2, cells := e_n res - e_n S0, slots := e_s res - e_s S0, locals := 82 } : Room) s m args below meth c H locs (e_n S - e_n S0) (e_s S - e_s S0) (MQ below (e_Qv D cA B res) args s (e_n res - e_n S0) (e_s res - e_s S0) (e_A B)) (F0 m 91 ls []) := by
  obtain ⟨hx, hb, hml, hown, hts, hlk, hrt⟩ := id E
  unfold s0_spell_b91 at hsh
  refine lv_iload_n hx hb dX0_spell_91 rfl (hl.at 3 rfl) ?_
  refine e_aload_n (B := B) (x := x0) hx hb dX0_spell_92 rfl (hl.at 0 rfl) ?_
  obtain ⟨v93, h93, hsh⟩ := Option.bind_eq_some_iff.mp hsh
  refine e_getI (k := 9) hx hb hts in_X0 hown hp h93 rfl (by decide) (by decide) rfl (hts _ kf0_45) rfl dX0_spell_93 ?_
  refine e_icmp_lt (tgt := 111) hx hb dX0_spell_96 (by decide) (fun c96 => ?_) (fun c96 => ?_)
  · rw [if_pos c96] at hsh
    exact w0_spell_b111 (hk2 := hk2) (hB0 := hB0) E hp hS ⟨by omega, by omega⟩ (hl.sub [0, 1, 2, 3, 4] rfl) hsh
  · rw [if_neg c96] at hsh
    refine lv_iload_n hx hb dX0_spell_99 rfl (hl.at 3 rfl) ?_
    refine e_aload_n (B := B) (x := x0) hx hb dX0_spell_100 rfl (hl.at 0 rfl) ?_
    obtain ⟨v101, h101, hsh⟩ := Option.bind_eq_some_iff.mp hsh
    refine e_getI (k := 10) hx hb hts in_X0 hown hp h101 rfl (by decide) (by decide) rfl (hts _ kf0_48) rfl dX0_spell_101 ?_
    refine e_icmp_ge (tgt := 111) hx hb dX0_spell_104 (by decide) (fun c104 => ?_) (fun c104 => ?_)
    · rw [if_pos c104] at hsh
      exact w0_spell_b111 (hk2 := hk2) (hB0 := hB0) E hp hS ⟨by omega, by omega⟩ (hl.sub [0, 1, 2, 3, 4] rfl) hsh
    · rw [if_neg c104] at hsh
      exact w0_spell_b107 (hk2 := hk2) (hB0 := hB0) E hp hS ⟨by omega, by omega⟩ (hl.sub [0, 1, 2, 3, 4] rfl) hsh
set_option maxRecDepth 100000 in
set_option maxHeartbeats 4000000 in
theorem w0_spell_b75 {p : Program} {l : Launch} {e : Env} {s : State} {m : MethodId} {args : Array Value} {below : List Frame} {meth : Method} {c : Code} {D : va_G} {cA : Nat → ClassId} {B : Nat} {res : HP} {S0 : HP} (hB0 : s.heap.size = B + e_n S0) {k2 : HP → Int → Int → Int → Int → Option (HP)} (hk2 : ∀ {ls : Array Slot} {H : Heap} {locs : List Loc} {S : HP} {x0 : Int} {x1 : Int} {x2 : Int} {x3 : Int} (hp : e_Pic D cA B S s H) (hS : va_S (e_A B) s.heap H locs) (h0 : e_n S0 ≤ e_n S ∧ e_s S0 ≤ e_s S) (hl : e_lo ls 7 [(0, e_rv B (x0)), (1, e_rv B (x1)), (2, .int (iI (x2))), (3, .int (iI (x3)))]) (hsh : k2 S x0 x1 x2 x3 = some res), W p l e ({ frames := 2, cells := e_n res - e_n S0, slots := e_s res - e_s S0, locals := 82 } : Room) s m args below meth c H locs (e_n S - e_n S0) (e_s S - e_s S0) (MQ below (e_Qv D cA B res) args s (e_n res - e_n S0) (e_s res - e_s S0) (e_A B)) (F0 m 2 ls [])) (E : e_En p s m args meth c cX0_spell RX0 7 none) {ls : Array Slot} {H : Heap} {locs : List Loc} {S : HP} {x0 : Int} {x1 : Int} {x2 : Int} {x3 : Int} {x4 : Int} (hp : e_Pic D cA B S s H) (hS : va_S (e_A B) s.heap H locs) (h0 : e_n S0 ≤ e_n S ∧ e_s S0 ≤ e_s S) (hl : e_lo ls 7 [(0, e_rv B (x0)), (1, e_rv B (x1)), (2, .int (iI (x2))), (3, .int (iI (x3))), (4, .int (iI (x4)))]) (hsh : s0_spell_b75 k2 S x0 x1 x2 x3 x4 = some res) : W p l e ({ frames := 2, cells := e_n res - e_n S0, slots := e_s res - e_s S0, locals := 82 } : Room) s m args below meth c H locs (e_n S - e_n S0) (e_s S - e_s S0) (MQ below (e_Qv D cA B res) args s (e_n res - e_n S0) (e_s res - e_s S0) (e_A B)) (F0 m 75 ls []) := by
  obtain ⟨hx, hb, hml, hown, hts, hlk, hrt⟩ := id E
  unfold s0_spell_b75 at hsh
  refine lv_iload_n hx hb dX0_spell_75 rfl (hl.at 3 rfl) ?_
  refine e_aload_n (B := B) (x := x0) hx hb dX0_spell_76 rfl (hl.at 0 rfl) ?_
  obtain ⟨v77, h77, hsh⟩ := Option.bind_eq_some_iff.mp hsh
  refine e_getI (k := 7) hx hb hts in_X0 hown hp h77 rfl (by decide) (by decide) rfl (hts _ kf0_39) rfl dX0_spell_77 ?_
  refine e_icmp_lt (tgt := 91) hx hb dX0_spell_80 (by decide) (fun c80 => ?_) (fun c80 => ?_)
  · rw [if_pos c80] at hsh
    exact w0_spell_b91 (hk2 := hk2) (hB0 := hB0) E hp hS ⟨by omega, by omega⟩ (hl.sub [0, 1, 2, 3, 4] rfl) hsh
  · rw [if_neg c80] at hsh
    refine lv_iload_n hx hb dX0_spell_83 rfl (hl.at 3 rfl) ?_
    refine e_aload_n (B := B) (x := x0) hx hb dX0_spell_84 rfl (hl.at 0 rfl) ?_
    obtain ⟨v85, h85, hsh⟩ := Option.bind_eq_some_iff.mp hsh
    refine e_getI (k := 8) hx hb hts in_X0 hown hp h85 rfl (by decide) (by decide) rfl (hts _ kf0_42) rfl dX0_spell_85 ?_
    refine e_icmp_lt (tgt := 107) hx hb dX0_spell_88 (by decide) (fun c88 => ?_) (fun c88 => ?_)
    · rw [if_pos c88] at hsh
      exact w0_spell_b107 (hk2 := hk2) (hB0 := hB0) E hp hS ⟨by omega, by omega⟩ (hl.sub [0, 1, 2, 3, 4] rfl) hsh
    · rw [if_neg c88] at hsh
      exact w0_spell_b91 (hk2 := hk2) (hB0 := hB0) E hp hS ⟨by omega, by omega⟩ (hl.sub [0, 1, 2, 3, 4] rfl) hsh
set_option maxRecDepth 100000 in
set_option maxHeartbeats 4000000 in
theorem w0_spell_b63 {p : Program} {l : Launch} {e : Env} {s : State} {m : MethodId} {args : Array Value} {below : List Frame} {meth : Method} {c : Code} {D : va_G} {cA : Nat → ClassId} {B : Nat} {res : HP} {S0 : HP} (hB0 : s.heap.size = B + e_n S0) {k2 : HP → Int → Int → Int → Int → Option (HP)} (hk2 : ∀ {ls : Array Slot} {H : Heap} {locs : List Loc} {S : HP} {x0 : Int} {x1 : Int} {x2 : Int} {x3 : Int} (hp : e_Pic D cA B S s H) (hS : va_S (e_A B) s.heap H locs) (h0 : e_n S0 ≤ e_n S ∧ e_s S0 ≤ e_s S) (hl : e_lo ls 7 [(0, e_rv B (x0)), (1, e_rv B (x1)), (2, .int (iI (x2))), (3, .int (iI (x3)))]) (hsh : k2 S x0 x1 x2 x3 = some res), W p l e ({ frames := 2, cells := e_n res - e_n S0, slots := e_s res - e_s S0, locals := 82 } : Room) s m args below meth c H locs (e_n S - e_n S0) (e_s S - e_s S0) (MQ below (e_Qv D cA B res) args s (e_n res - e_n S0) (e_s res - e_s S0) (e_A B)) (F0 m 2 ls [])) (E : e_En p s m args meth c cX0_spell RX0 7 none) {ls : Array Slot} {H : Heap} {locs : List Loc} {S : HP} {x0 : Int} {x1 : Int} {x2 : Int} {x3 : Int} {x4 : Int} (hp : e_Pic D cA B S s H) (hS : va_S (e_A B) s.heap H locs) (h0 : e_n S0 ≤ e_n S ∧ e_s S0 ≤ e_s S) (hl : e_lo ls 7 [(0, e_rv B (x0)), (1, e_rv B (x1)), (2, .int (iI (x2))), (3, .int (iI (x3))), (4, .int (iI (x4)))]) (hsh : s0_spell_b63 k2 S x0 x1 x2 x3 x4 = some res) : W p l e ({ frames := 2, cells := e_n res - e_n S0, slots := e_s res - e_s S0, locals := 82 } : Room) s m args below meth c H locs (e_n S - e_n S0) (e_s S - e_s S0) (MQ below (e_Qv D cA B res) args s (e_n res - e_n S0) (e_s res - e_s S0) (e_A B)) (F0 m 63 ls []) := by
  obtain ⟨hx, hb, hml, hown, hts, hlk, hrt⟩ := id E
  unfold s0_spell_b63 at hsh
  refine e_aload_n (B := B) (x := x1) hx hb dX0_spell_63 rfl (hl.at 1 rfl) ?_
  refine lv_bipush (v := iI (48)) hx hb dX0_spell_64 (by decide +kernel) ?_
  refine lv_iload_n hx hb dX0_spell_66 rfl (hl.at 2 rfl) ?_
  refine lv_bipush (v := iI (10)) hx hb dX0_spell_67 (by decide +kernel) ?_
  obtain ⟨v69, h69, hsh⟩ := Option.bind_eq_some_iff.mp hsh
  refine e_irem hx hb h69 dX0_spell_69 ?_
  refine e_iadd hx hb dX0_spell_70 ?_
  obtain ⟨⟨v71, S71⟩, h71, hsh⟩ := Option.bind_eq_some_iff.mp hsh
  have hsh : _ = _ := hsh
  try dsimp only at hsh
  obtain ⟨hsh, cc71, cd71⟩ := smV_some hsh
  have cd71 : e_n S71 ≤ e_n res ∧ e_s S71 ≤ e_s res := cd71
  have ok71 := ok10_add h71
  refine e_callI (nL := 7) (mc := e_n S71 - e_n S) (ms := e_s S71 - e_s S) (T := TX10) (N := 3) (As := [.int (iI ((48 + v69)))]) (rest := []) hx hb hml hown hts hp hS hl.size ok71.1 ok71.2.1 ok71.2.2 rfl (by decide) (c10_add l D cA B S S71 (x1) ((48 + v69)) v71 h71) rfl rfl kd10_add (kl0_67) ks10_add kv10_add ki10 kh10_add ⟨Nat.le_of_ble_eq_true rfl, Nat.le_of_ble_eq_true rfl⟩ rfl (by simp [e_rv_cat, e_int_cat, e_long_cat]) ⟨(by show _ ≤ e_n res - e_n S0; omega), (by show _ ≤ e_s res - e_s S0; omega)⟩ dX0_spell_71 rfl (fun H locs hp hS => ?_)
  refine e_cells (c' := e_n S71 - e_n S0) (s' := e_s S71 - e_s S0) (by omega) (by omega) ?_
  refine lv_pop hx hb dX0_spell_74 rfl ?_
  exact w0_spell_b75 (hk2 := hk2) (hB0 := hB0) E hp hS ⟨by omega, by omega⟩ (hl.sub [0, 1, 2, 3, 4] rfl) hsh
set_option maxRecDepth 100000 in
set_option maxHeartbeats 4000000 in
theorem w0_spell_l2 {p : Program} {l : Launch} {e : Env} {s : State} {m : MethodId} {args : Array Value} {below : List Frame} {meth : Method} {c : Code} {D : va_G} {cA : Nat → ClassId} {B : Nat} {res : HP} {S0 : HP} (hB0 : s.heap.size = B + e_n S0) (E : e_En p s m args meth c cX0_spell RX0 7 none) : ∀ (f : Nat) {ls : Array Slot} {H : Heap} {locs : List Loc} {S : HP} {x0 : Int} {x1 : Int} {x2 : Int} {x3 : Int} (hp : e_Pic D cA B S s H) (hS : va_S (e_A B) s.heap H locs) (h0 : e_n S0 ≤ e_n S ∧ e_s S0 ≤ e_s S) (hl : e_lo ls 7 [(0, e_rv B (x0)), (1, e_rv B (x1)), (2, .int (iI (x2))), (3, .int (iI (x3)))]) (hsh : s0_spell_l2 f S x0 x1 x2 x3 = some res), W p l e ({ frames := 2, cells := e_n res - e_n S0, slots := e_s res - e_s S0, locals := 82 } : Room) s m args below meth c H locs (e_n S - e_n S0) (e_s S - e_s S0) (MQ below (e_Qv D cA B res) args s (e_n res - e_n S0) (e_s res - e_s S0) (e_A B)) (F0 m 2 ls []) := by
  obtain ⟨hx, hb, hml, hown, hts, hlk, hrt⟩ := id E
  intro f
  induction f with
  | zero => intro ls H locs S x0 x1 x2 x3 hp hS h0 hl hsh; cases hsh
  | succ f ih =>
    intro ls H locs S x0 x1 x2 x3 hp hS h0 hl hsh
    have hk2 : ∀ {ls : Array Slot} {H : Heap} {locs : List Loc} {S : HP} {x0 : Int} {x1 : Int} {x2 : Int} {x3 : Int} (hp : e_Pic D cA B S s H) (hS : va_S (e_A B) s.heap H locs) (h0 : e_n S0 ≤ e_n S ∧ e_s S0 ≤ e_s S) (hl : e_lo ls 7 [(0, e_rv B (x0)), (1, e_rv B (x1)), (2, .int (iI (x2))), (3, .int (iI (x3)))]) (hsh : (s0_spell_l2 f) S x0 x1 x2 x3 = some res), W p l e ({ frames := 2, cells := e_n res - e_n S0, slots := e_s res - e_s S0, locals := 82 } : Room) s m args below meth c H locs (e_n S - e_n S0) (e_s S - e_s S0) (MQ below (e_Qv D cA B res) args s (e_n res - e_n S0) (e_s res - e_s S0) (e_A B)) (F0 m 2 ls []) := ih
    generalize hkk : s0_spell_l2 f = k2 at hk2
    rw [s0_spell_l2] at hsh
    rw [hkk] at hsh
    try dsimp only at hsh
    refine lv_iload_n hx hb dX0_spell_2 rfl (hl.at 3 rfl) ?_
    refine e_aload_n (B := B) (x := x0) hx hb dX0_spell_3 rfl (hl.at 0 rfl) ?_
    obtain ⟨v4, h4, hsh⟩ := Option.bind_eq_some_iff.mp hsh
    refine e_getR (k := 0) hx hb hts in_X0 hown hp h4 rfl (by decide) (by decide) rfl (hts _ kf0_14) rfl dX0_spell_4 ?_
    obtain ⟨v7, h7, hsh⟩ := Option.bind_eq_some_iff.mp hsh
    refine e_getI (k := 1) hx hb hts in_X10 hown hp h7 rfl (by decide) (by decide) rfl (hts _ kf0_107) rfl dX0_spell_7 ?_
    refine e_icmp_ge (tgt := 191) hx hb dX0_spell_10 (by decide) (fun c10 => ?_) (fun c10 => ?_)
    · rw [if_pos c10] at hsh
      exact w0_spell_b191 (hB0 := hB0) E hp hS ⟨by omega, by omega⟩ (hl.sub [] rfl) hsh
    · rw [if_neg c10] at hsh
      refine e_aload_n (B := B) (x := x1) hx hb dX0_spell_13 rfl (hl.at 1 rfl) ?_
      obtain ⟨v14, h14, hsh⟩ := Option.bind_eq_some_iff.mp hsh
      refine e_getI (k := 1) hx hb hts in_X10 hown hp h14 rfl (by decide) (by decide) rfl (hts _ kf0_107) rfl dX0_spell_14 ?_
      refine lv_bipush (v := iI (100)) hx hb dX0_spell_17 (by decide +kernel) ?_
      refine e_icmp_gt (tgt := 191) hx hb dX0_spell_19 (by decide) (fun c19 => ?_) (fun c19 => ?_)
      · rw [if_pos c19] at hsh
        exact w0_spell_b191 (hB0 := hB0) E hp hS ⟨by omega, by omega⟩ (hl.sub [] rfl) hsh
      · rw [if_neg c19] at hsh
        refine e_aload_n (B := B) (x := x0) hx hb dX0_spell_22 rfl (hl.at 0 rfl) ?_
        obtain ⟨v23, h23, hsh⟩ := Option.bind_eq_some_iff.mp hsh
        refine e_getR (k := 0) hx hb hts in_X0 hown hp h23 rfl (by decide) (by decide) rfl (hts _ kf0_14) rfl dX0_spell_23 ?_
        obtain ⟨v26, h26, hsh⟩ := Option.bind_eq_some_iff.mp hsh
        refine e_getR (k := 0) hx hb hts in_X10 hown hp h26 rfl (by decide) (by decide) rfl (hts _ kf0_182) rfl dX0_spell_26 ?_
        refine lv_iload_n hx hb dX0_spell_29 rfl (hl.at 3 rfl) ?_
        obtain ⟨v30, h30, hsh⟩ := Option.bind_eq_some_iff.mp hsh
        refine e_cald hx hb hp h30 dX0_spell_30 ?_
        refine e_istore (lv' := [(4, .int (iI (v30))), (0, e_rv B (x0)), (1, e_rv B (x1)), (2, .int (iI (x2))), (3, .int (iI (x3)))]) hx hb dX0_spell_31 hl (by decide) rfl (fun ls hl => ?_)
        refine lv_iload_n hx hb dX0_spell_33 rfl (hl.at 3 rfl) ?_
        refine e_if_le (tgt := 75) hx hb dX0_spell_34 (by decide) (fun c34 => ?_) (fun c34 => ?_)
        · rw [if_pos c34] at hsh
          exact w0_spell_b75 (hk2 := hk2) (hB0 := hB0) E hp hS ⟨by omega, by omega⟩ (hl.sub [1, 2, 3, 4, 0] rfl) hsh
        · rw [if_neg c34] at hsh
          refine lv_iload_n hx hb dX0_spell_37 rfl (hl.at 4 rfl) ?_
          refine e_aload_n (B := B) (x := x0) hx hb dX0_spell_38 rfl (hl.at 1 rfl) ?_
          obtain ⟨v39, h39, hsh⟩ := Option.bind_eq_some_iff.mp hsh
          refine e_getI (k := 7) hx hb hts in_X0 hown hp h39 rfl (by decide) (by decide) rfl (hts _ kf0_39) rfl dX0_spell_39 ?_
          refine e_icmp_ne (tgt := 75) hx hb dX0_spell_42 (by decide) (fun c42 => ?_) (fun c42 => ?_)
          · rw [if_neg c42] at hsh
            exact w0_spell_b75 (hk2 := hk2) (hB0 := hB0) E hp hS ⟨by omega, by omega⟩ (hl.sub [1, 2, 3, 4, 0] rfl) hsh
          · rw [if_pos c42] at hsh
            refine lv_iload_n hx hb dX0_spell_45 rfl (hl.at 3 rfl) ?_
            refine lv_bipush (v := iI (9)) hx hb dX0_spell_46 (by decide +kernel) ?_
            refine e_icmp_le (tgt := 63) hx hb dX0_spell_48 (by decide) (fun c48 => ?_) (fun c48 => ?_)
            · rw [if_pos c48] at hsh
              exact w0_spell_b63 (hk2 := hk2) (hB0 := hB0) E hp hS ⟨by omega, by omega⟩ (hl.sub [1, 2, 3, 4, 0] rfl) hsh
            · rw [if_neg c48] at hsh
              refine e_aload_n (B := B) (x := x1) hx hb dX0_spell_51 rfl (hl.at 2 rfl) ?_
              refine lv_bipush (v := iI (48)) hx hb dX0_spell_52 (by decide +kernel) ?_
              refine lv_iload_n hx hb dX0_spell_54 rfl (hl.at 3 rfl) ?_
              refine lv_bipush (v := iI (10)) hx hb dX0_spell_55 (by decide +kernel) ?_
              obtain ⟨v57, h57, hsh⟩ := Option.bind_eq_some_iff.mp hsh
              refine e_idiv hx hb h57 dX0_spell_57 ?_
              refine e_iadd hx hb dX0_spell_58 ?_
              obtain ⟨⟨v59, S59⟩, h59, hsh⟩ := Option.bind_eq_some_iff.mp hsh
              have hsh : _ = _ := hsh
              try dsimp only at hsh
              obtain ⟨hsh, cc59, cd59⟩ := smV_some hsh
              have cd59 : e_n S59 ≤ e_n res ∧ e_s S59 ≤ e_s res := cd59
              have ok59 := ok10_add h59
              refine e_callI (nL := 7) (mc := e_n S59 - e_n S) (ms := e_s S59 - e_s S) (T := TX10) (N := 3) (As := [.int (iI ((48 + v57)))]) (rest := []) hx hb hml hown hts hp hS hl.size ok59.1 ok59.2.1 ok59.2.2 rfl (by decide) (c10_add l D cA B S S59 (x1) ((48 + v57)) v59 h59) rfl rfl kd10_add (kl0_67) ks10_add kv10_add ki10 kh10_add ⟨Nat.le_of_ble_eq_true rfl, Nat.le_of_ble_eq_true rfl⟩ rfl (by simp [e_rv_cat, e_int_cat, e_long_cat]) ⟨(by show _ ≤ e_n res - e_n S0; omega), (by show _ ≤ e_s res - e_s S0; omega)⟩ dX0_spell_59 rfl (fun H locs hp hS => ?_)
              refine e_cells (c' := e_n S59 - e_n S0) (s' := e_s S59 - e_s S0) (by omega) (by omega) ?_
              refine lv_pop hx hb dX0_spell_62 rfl ?_
              exact w0_spell_b63 (hk2 := hk2) (hB0 := hB0) E hp hS ⟨by omega, by omega⟩ (hl.sub [1, 2, 3, 4, 0] rfl) hsh
set_option maxRecDepth 100000 in
set_option maxHeartbeats 4000000 in
theorem c0_spell (l : Launch) (D : va_G) (cA : Nat → ClassId) (B : Nat) (S S' : HP) (x0 : Int) (x1 : Int) (x2 : Int) (hsh : s0_spell S x0 x1 x2 = some S') : Met l yX0_spell (e_wu yX0_spell cX0_spell 7 none) ({ frames := 2, cells := e_n S' - e_n S, slots := e_s S' - e_s S, locals := 82 } : Room) (va_Pc [e_rv B (x0), e_rv B (x1), .int (iI (x2))] (fun U => e_PU D cA B S U)) (e_Qv D cA B S') (e_n S' - e_n S) (e_s S' - e_s S) (e_A B) := by
  refine Met.ofW (cc := cX0_spell) (maxL := 7) (ret := none) (by decide +kernel) rfl ?_
  intro p e s m args below meth c s₁ Bd hml hv
  obtain ⟨rfl, hp⟩ := hv
  have hp : e_Pic D cA B S s s.heap := hp
  have hx := Bd.exec
  have hb := Bd.bytes
  have hrt := Bd.returns
  have hlk := Bd.notSynchronized
  have hown : s.vm.findClass RX0 = some m.cls := findClass_of_methodNamed Bd.named
  have hts : ∀ w ∈ e_tb, w.before ([e_rv B (x0), e_rv B (x1), .int (iI (x2))] : List Value).toArray s = true := fun w h => atoms_spec (ws := (e_wu yX0_spell cX0_spell 7 none)) Bd.pre w (List.mem_cons_of_mem _ h)
  have E : e_En p s m ([e_rv B (x0), e_rv B (x1), .int (iI (x2))] : List Value).toArray meth c cX0_spell RX0 7 none := ⟨hx, hb, hml, hown, hts, hlk, hrt⟩
  have hS : va_S (e_A B) s.heap s.heap [] := va_S.rf
  have hB0 : s.heap.size = B + e_n S := hp.2.2.1
  refine e_cells (c' := e_n S - e_n S) (s' := e_s S - e_s S) (Nat.sub_self _).symm (Nat.sub_self _).symm ?_
  have hl := e_entry (vs := [e_rv B (x0), e_rv B (x1), .int (iI (x2))]) (n := 7) (Nat.le_of_ble_eq_true rfl) (e_cc (e_rv_cat _ _) (e_cc (e_rv_cat _ _) (e_cc rfl e_cn)))
  rw [lg_entry_eq]
  generalize (lg_sl [e_rv B (x0), e_rv B (x1), .int (iI (x2))] ++ List.replicate (7 - (lg_sl [e_rv B (x0), e_rv B (x1), .int (iI (x2))]).length) Slot.unset).toArray = ls at hl ⊢
  generalize ([e_rv B (x0), e_rv B (x1), .int (iI (x2))] : List Value).toArray = args at hts E ⊢
  have hl : e_lo ls 7 [(0, e_rv B (x0)), (1, e_rv B (x1)), (2, .int (iI (x2)))] := hl
  have hsh := (gd_some hsh).2
  refine lv_iconst (v := iI (0)) hx hb dX0_spell_0 rfl ?_
  refine e_istore_n (lv' := [(3, .int (iI (0))), (0, e_rv B (x0)), (1, e_rv B (x1)), (2, .int (iI (x2)))]) hx hb dX0_spell_1 rfl hl (by decide) rfl (fun ls hl => ?_)
  exact w0_spell_l2 (hB0 := hB0) E 1000000 hp hS ⟨by omega, by omega⟩ (hl.sub [1, 2, 3, 0] rfl) hsh
theorem ok6_goToText {S : HP} {x0 : Int} {x1 : Int} {x2 : Int} {r : HP} (h : s6_goToText S x0 x1 x2 = some r) : 0 ≤ x0 ∧ x0.toNat < e_n S ∧ e_g S x0.toNat = 6 := (gd_some h).1
set_option maxRecDepth 100000 in
set_option maxHeartbeats 4000000 in
theorem c6_goToText (l : Launch) (D : va_G) (cA : Nat → ClassId) (B : Nat) (S S' : HP) (x0 : Int) (x1 : Int) (x2 : Int) (hsh : s6_goToText S x0 x1 x2 = some S') : Met l yX6_goToText (e_wu yX6_goToText cX6_goToText 3 none) ({ frames := 1, cells := 0, slots := 0, locals := 22 } : Room) (va_Pc [e_rv B (x0), e_rv B (x1), .int (iI (x2))] (fun U => e_PU D cA B S U)) (e_Qv D cA B S') 0 0 (e_A B) := by
  refine Met.ofW (cc := cX6_goToText) (maxL := 3) (ret := none) (by decide +kernel) rfl ?_
  intro p e s m args below meth c s₁ Bd hml hv
  obtain ⟨rfl, hp⟩ := hv
  have hp : e_Pic D cA B S s s.heap := hp
  have hx := Bd.exec
  have hb := Bd.bytes
  have hrt := Bd.returns
  have hlk := Bd.notSynchronized
  have hown : s.vm.findClass RX6 = some m.cls := findClass_of_methodNamed Bd.named
  have hts : ∀ w ∈ e_tb, w.before ([e_rv B (x0), e_rv B (x1), .int (iI (x2))] : List Value).toArray s = true := fun w h => atoms_spec (ws := (e_wu yX6_goToText cX6_goToText 3 none)) Bd.pre w (List.mem_cons_of_mem _ h)
  have E : e_En p s m ([e_rv B (x0), e_rv B (x1), .int (iI (x2))] : List Value).toArray meth c cX6_goToText RX6 3 none := ⟨hx, hb, hml, hown, hts, hlk, hrt⟩
  have hS : va_S (e_A B) s.heap s.heap [] := va_S.rf
  have hl := e_entry (vs := [e_rv B (x0), e_rv B (x1), .int (iI (x2))]) (n := 3) (Nat.le_of_ble_eq_true rfl) (e_cc (e_rv_cat _ _) (e_cc (e_rv_cat _ _) (e_cc rfl e_cn)))
  rw [lg_entry_eq]
  generalize (lg_sl [e_rv B (x0), e_rv B (x1), .int (iI (x2))] ++ List.replicate (3 - (lg_sl [e_rv B (x0), e_rv B (x1), .int (iI (x2))]).length) Slot.unset).toArray = ls at hl ⊢
  generalize ([e_rv B (x0), e_rv B (x1), .int (iI (x2))] : List Value).toArray = args at hts E ⊢
  have hl : e_lo ls 3 [(0, e_rv B (x0)), (1, e_rv B (x1)), (2, .int (iI (x2)))] := hl
  have hsh := (gd_some hsh).2
  refine e_aload_n (B := B) (x := x0) hx hb dX6_goToText_0 rfl (hl.at 0 rfl) ?_
  refine lv_iconst (v := iI (0)) hx hb dX6_goToText_1 rfl ?_
  refine lv_iload_n hx hb dX6_goToText_2 rfl (hl.at 2 rfl) ?_
  refine e_aload_n (B := B) (x := x1) hx hb dX6_goToText_3 rfl (hl.at 1 rfl) ?_
  obtain ⟨v4, h4, hsh⟩ := Option.bind_eq_some_iff.mp hsh
  refine e_getI (k := 5) hx hb hts in_X11 hown hp h4 rfl (by decide) (by decide) rfl (hts _ kf6_68) rfl dX6_goToText_4 ?_
  refine lv_iconst (v := iI (1)) hx hb dX6_goToText_7 rfl ?_
  refine e_isub hx hb dX6_goToText_8 ?_
  refine e_min (rest := [.int (iI (0)), e_rv B (x0)]) hx hb (hml.trans hl.size.symm) hown hts kl6_73 kM_min_s kM_i kM_min_c (Nat.le_of_ble_eq_true rfl) (Nat.le_trans (Nat.add_le_add_right (show _ ≤ 8 by simp [e_rv_cat, e_int_cat]) 13) (Nat.le_of_ble_eq_true rfl)) (Nat.le_refl _) (Nat.le_refl _) dX6_goToText_9 ?_
  refine e_max (rest := [e_rv B (x0)]) hx hb (hml.trans hl.size.symm) hown hts kl6_79 kM_max_s kM_i kM_max_c (Nat.le_of_ble_eq_true rfl) (Nat.le_trans (Nat.add_le_add_right (show _ ≤ 8 by simp [e_rv_cat, e_int_cat]) 13) (Nat.le_of_ble_eq_true rfl)) (Nat.le_refl _) (Nat.le_refl _) dX6_goToText_12 ?_
  obtain ⟨S15, h15, hsh⟩ := Option.bind_eq_some_iff.mp hsh
  refine e_putI (k := 0) hx hb hts in_X6 tyX6 tyX6_ok nmX6 hown hp hS h15 rfl (by decide) (by decide) rfl (hts _ kf6_9) rfl rfl (by decide +kernel) dX6_goToText_15 (fun H locs hp hS => ?_)
  refine e_aload_n (B := B) (x := x0) hx hb dX6_goToText_18 rfl (hl.at 0 rfl) ?_
  refine e_aload_n (B := B) (x := x1) hx hb dX6_goToText_19 rfl (hl.at 1 rfl) ?_
  refine e_aload_n (B := B) (x := x0) hx hb dX6_goToText_20 rfl (hl.at 0 rfl) ?_
  obtain ⟨v21, h21, hsh⟩ := Option.bind_eq_some_iff.mp hsh
  refine e_getI (k := 0) hx hb hts in_X6 hown hp h21 rfl (by decide) (by decide) rfl (hts _ kf6_9) rfl dX6_goToText_21 ?_
  obtain ⟨⟨v24, S24⟩, h24, hsh⟩ := Option.bind_eq_some_iff.mp hsh
  have hsh : _ = _ := hsh
  try dsimp only at hsh
  have ok24 := ok11_firstSign h24
  refine e_callI (nL := 3) (mc := 0) (ms := 0) (T := TX11) (N := 6) (As := [.int (iI (v21))]) (rest := [e_rv B (x0)]) hx hb hml hown hts hp hS hl.size ok24.1 ok24.2.1 ok24.2.2 rfl (by decide) (c11_firstSign l D cA B S15 S24 (x1) (v21) v24 h24) rfl rfl kd11_firstSign (kl6_86) ks11_firstSign kv11_firstSign ki11 kh11_firstSign ⟨Nat.le_of_ble_eq_true rfl, Nat.le_of_ble_eq_true rfl⟩ rfl (by simp [e_rv_cat, e_int_cat, e_long_cat]) ⟨Nat.le_refl _, Nat.le_refl _⟩ dX6_goToText_24 rfl (fun H locs hp hS => ?_)
  obtain ⟨S27, h27, hsh⟩ := Option.bind_eq_some_iff.mp hsh
  refine e_putI (k := 1) hx hb hts in_X6 tyX6 tyX6_ok nmX6 hown hp hS h27 rfl (by decide) (by decide) rfl (hts _ kf6_15) rfl rfl (by decide +kernel) dX6_goToText_27 (fun H locs hp hS => ?_)
  refine e_aload_n (B := B) (x := x0) hx hb dX6_goToText_30 rfl (hl.at 0 rfl) ?_
  refine e_aload_n (B := B) (x := x0) hx hb dX6_goToText_31 rfl (hl.at 0 rfl) ?_
  obtain ⟨v32, h32, hsh⟩ := Option.bind_eq_some_iff.mp hsh
  refine e_getI (k := 1) hx hb hts in_X6 hown hp h32 rfl (by decide) (by decide) rfl (hts _ kf6_15) rfl dX6_goToText_32 ?_
  obtain ⟨S35, h35, hsh⟩ := Option.bind_eq_some_iff.mp hsh
  refine e_putI (k := 2) hx hb hts in_X6 tyX6 tyX6_ok nmX6 hown hp hS h35 rfl (by decide) (by decide) rfl (hts _ kf6_18) rfl rfl (by decide +kernel) dX6_goToText_35 (fun H locs hp hS => ?_)
  cases hsh
  exact e_vret hx hb hrt hlk hp hS dX6_goToText_38
theorem ok8_pushDown {S : HP} {x0 : Int} {r : HP} (h : s8_pushDown S x0 = some r) : 0 ≤ x0 ∧ x0.toNat < e_n S ∧ e_g S x0.toNat = 8 := (gd_some h).1
set_option maxRecDepth 100000 in
set_option maxHeartbeats 4000000 in
theorem w8_pushDown_l11 {p : Program} {l : Launch} {e : Env} {s : State} {m : MethodId} {args : Array Value} {below : List Frame} {meth : Method} {c : Code} {D : va_G} {cA : Nat → ClassId} {B : Nat} {res : HP} {S0 : HP} (hB0 : s.heap.size = B + e_n S0) (E : e_En p s m args meth c cX8_pushDown RX8 3 none) : ∀ (f : Nat) {ls : Array Slot} {H : Heap} {locs : List Loc} {S : HP} {x0 : Int} {x1 : Int} {x2 : Int} (hp : e_Pic D cA B S s H) (hS : va_S (e_A B) s.heap H locs) (h0 : e_n S0 ≤ e_n S ∧ e_s S0 ≤ e_s S) (hl : e_lo ls 3 [(0, e_rv B (x0)), (1, e_rv B (x1)), (2, .int (iI (x2)))]) (hsh : s8_pushDown_l11 f S x0 x1 x2 = some res), W p l e ({ frames := 2, cells := e_n res - e_n S0, slots := e_s res - e_s S0, locals := 83 } : Room) s m args below meth c H locs (e_n S - e_n S0) (e_s S - e_s S0) (MQ below (e_Qv D cA B res) args s (e_n res - e_n S0) (e_s res - e_s S0) (e_A B)) (F0 m 11 ls []) := by
  obtain ⟨hx, hb, hml, hown, hts, hlk, hrt⟩ := id E
  intro f
  induction f with
  | zero => intro ls H locs S x0 x1 x2 hp hS h0 hl hsh; cases hsh
  | succ f ih =>
    intro ls H locs S x0 x1 x2 hp hS h0 hl hsh
    have hk11 : ∀ {ls : Array Slot} {H : Heap} {locs : List Loc} {S : HP} {x0 : Int} {x1 : Int} {x2 : Int} (hp : e_Pic D cA B S s H) (hS : va_S (e_A B) s.heap H locs) (h0 : e_n S0 ≤ e_n S ∧ e_s S0 ≤ e_s S) (hl : e_lo ls 3 [(0, e_rv B (x0)), (1, e_rv B (x1)), (2, .int (iI (x2)))]) (hsh : (s8_pushDown_l11 f) S x0 x1 x2 = some res), W p l e ({ frames := 2, cells := e_n res - e_n S0, slots := e_s res - e_s S0, locals := 83 } : Room) s m args below meth c H locs (e_n S - e_n S0) (e_s S - e_s S0) (MQ below (e_Qv D cA B res) args s (e_n res - e_n S0) (e_s res - e_s S0) (e_A B)) (F0 m 11 ls []) := ih
    generalize hkk : s8_pushDown_l11 f = k11 at hk11
    rw [s8_pushDown_l11] at hsh
    rw [hkk] at hsh
    try dsimp only at hsh
    refine lv_iload_n hx hb dX8_pushDown_11 rfl (hl.at 2 rfl) ?_
    refine lv_bipush (v := iI (27)) hx hb dX8_pushDown_12 (by decide +kernel) ?_
    refine e_icmp_le (tgt := 37) hx hb dX8_pushDown_14 (by decide) (fun c14 => ?_) (fun c14 => ?_)
    · rw [if_pos c14] at hsh
      refine e_aload_n (B := B) (x := x0) hx hb dX8_pushDown_37 rfl (hl.at 0 rfl) ?_
      obtain ⟨v38, h38, hsh⟩ := Option.bind_eq_some_iff.mp hsh
      refine e_getR (k := 0) hx hb hts in_X8 hown hp h38 rfl (by decide) (by decide) rfl (hts _ kf8_13) rfl dX8_pushDown_38 ?_
      refine lv_bipush (v := iI (27)) hx hb dX8_pushDown_41 (by decide +kernel) ?_
      refine e_aload_n (B := B) (x := x1) hx hb dX8_pushDown_43 rfl (hl.at 1 rfl) ?_
      obtain ⟨S44, h44, hsh⟩ := Option.bind_eq_some_iff.mp hsh
      refine e_aast (t0 := 4) (r := (RX10, TX10, 3)) hx hb hp hS h44 (by decide) rfl rfl (by decide) (by omega) dX8_pushDown_44 (fun H locs hp hS => ?_)
      have nn := pR_n h44
      refine e_cells (c' := e_n S44 - e_n S0) (s' := e_s S44 - e_s S0) (by omega) (by omega) ?_
      refine e_aload_n (B := B) (x := x1) hx hb dX8_pushDown_45 rfl (hl.at 1 rfl) ?_
      refine e_aload_n (B := B) (x := x0) hx hb dX8_pushDown_46 rfl (hl.at 0 rfl) ?_
      obtain ⟨v47, h47, hsh⟩ := Option.bind_eq_some_iff.mp hsh
      refine e_getR (k := 2) hx hb hts in_X8 hown hp h47 rfl (by decide) (by decide) rfl (hts _ kf8_24) rfl dX8_pushDown_47 ?_
      refine lv_sipush (v := iI (3000)) hx hb dX8_pushDown_50 (by decide +kernel) ?_
      obtain ⟨S53, h53, hsh⟩ := Option.bind_eq_some_iff.mp hsh
      obtain ⟨hsh, cc53, cd53⟩ := smV_some hsh
      have cd53 : e_n S53 ≤ e_n res ∧ e_s S53 ≤ e_s res := cd53
      have ok53 := ok10_copyOf h53
      refine e_callV (nL := 3) (mc := e_n S53 - e_n S44) (ms := e_s S53 - e_s S44) (T := TX10) (N := 3) (As := [e_rv B (v47), .int (iI (3000))]) (rest := []) hx hb hml hown hts hp hS hl.size ok53.1 ok53.2.1 ok53.2.2 rfl (by decide) (c10_copyOf l D cA B S44 S53 (x1) (v47) (3000) h53) rfl rfl kd10_copyOf (kl8_59) ks10_copyOf kv10_copyOf ki10 kh10_copyOf ⟨Nat.le_of_ble_eq_true rfl, Nat.le_of_ble_eq_true rfl⟩ rfl (by simp [e_rv_cat, e_int_cat, e_long_cat]) ⟨(by show _ ≤ e_n res - e_n S0; omega), (by show _ ≤ e_s res - e_s S0; omega)⟩ dX8_pushDown_53 rfl (fun H locs hp hS => ?_)
      refine e_cells (c' := e_n S53 - e_n S0) (s' := e_s S53 - e_s S0) (by omega) (by omega) ?_
      cases hsh
      exact e_vret hx hb hrt hlk hp hS dX8_pushDown_56
    · rw [if_neg c14] at hsh
      refine e_aload_n (B := B) (x := x0) hx hb dX8_pushDown_17 rfl (hl.at 0 rfl) ?_
      obtain ⟨v18, h18, hsh⟩ := Option.bind_eq_some_iff.mp hsh
      refine e_getR (k := 0) hx hb hts in_X8 hown hp h18 rfl (by decide) (by decide) rfl (hts _ kf8_13) rfl dX8_pushDown_18 ?_
      refine lv_iload_n hx hb dX8_pushDown_21 rfl (hl.at 2 rfl) ?_
      refine e_aload_n (B := B) (x := x0) hx hb dX8_pushDown_22 rfl (hl.at 0 rfl) ?_
      obtain ⟨v23, h23, hsh⟩ := Option.bind_eq_some_iff.mp hsh
      refine e_getR (k := 0) hx hb hts in_X8 hown hp h23 rfl (by decide) (by decide) rfl (hts _ kf8_13) rfl dX8_pushDown_23 ?_
      refine lv_iload_n hx hb dX8_pushDown_26 rfl (hl.at 2 rfl) ?_
      refine lv_iconst (v := iI (1)) hx hb dX8_pushDown_27 rfl ?_
      refine e_isub hx hb dX8_pushDown_28 ?_
      obtain ⟨v29, h29, hsh⟩ := Option.bind_eq_some_iff.mp hsh
      refine e_aald (t := 104) (t0 := 4) hx hb hp h29 (by decide) rfl dX8_pushDown_29 ?_
      obtain ⟨S30, h30, hsh⟩ := Option.bind_eq_some_iff.mp hsh
      refine e_aast (t0 := 4) (r := (RX10, TX10, 3)) hx hb hp hS h30 (by decide) rfl rfl (by decide) (by omega) dX8_pushDown_30 (fun H locs hp hS => ?_)
      have nn := pR_n h30
      refine e_cells (c' := e_n S30 - e_n S0) (s' := e_s S30 - e_s S0) (by omega) (by omega) ?_
      refine e_iinc (n := (-1)) (x := x2) (lv' := [(2, .int (iI ((x2 + (-1))))), (0, e_rv B (x0)), (1, e_rv B (x1))]) hx hb dX8_pushDown_31 hl (k := 2) rfl (by decide) rfl (fun ls hl => ?_)
      refine lv_goto (tgt := 11) hx hb dX8_pushDown_34 (by decide) ?_
      exact hk11 hp hS ⟨by omega, by omega⟩ (hl.sub [1, 2, 0] rfl) hsh
set_option maxRecDepth 100000 in
set_option maxHeartbeats 4000000 in
theorem c8_pushDown (l : Launch) (D : va_G) (cA : Nat → ClassId) (B : Nat) (S S' : HP) (x0 : Int) (hsh : s8_pushDown S x0 = some S') : Met l yX8_pushDown (e_wu yX8_pushDown cX8_pushDown 3 none) ({ frames := 2, cells := e_n S' - e_n S, slots := e_s S' - e_s S, locals := 83 } : Room) (va_Pc [e_rv B (x0)] (fun U => e_PU D cA B S U)) (e_Qv D cA B S') (e_n S' - e_n S) (e_s S' - e_s S) (e_A B) := by
  refine Met.ofW (cc := cX8_pushDown) (maxL := 3) (ret := none) (by decide +kernel) rfl ?_
  intro p e s m args below meth c s₁ Bd hml hv
  obtain ⟨rfl, hp⟩ := hv
  have hp : e_Pic D cA B S s s.heap := hp
  have hx := Bd.exec
  have hb := Bd.bytes
  have hrt := Bd.returns
  have hlk := Bd.notSynchronized
  have hown : s.vm.findClass RX8 = some m.cls := findClass_of_methodNamed Bd.named
  have hts : ∀ w ∈ e_tb, w.before ([e_rv B (x0)] : List Value).toArray s = true := fun w h => atoms_spec (ws := (e_wu yX8_pushDown cX8_pushDown 3 none)) Bd.pre w (List.mem_cons_of_mem _ h)
  have E : e_En p s m ([e_rv B (x0)] : List Value).toArray meth c cX8_pushDown RX8 3 none := ⟨hx, hb, hml, hown, hts, hlk, hrt⟩
  have hS : va_S (e_A B) s.heap s.heap [] := va_S.rf
  have hB0 : s.heap.size = B + e_n S := hp.2.2.1
  refine e_cells (c' := e_n S - e_n S) (s' := e_s S - e_s S) (Nat.sub_self _).symm (Nat.sub_self _).symm ?_
  have hl := e_entry (vs := [e_rv B (x0)]) (n := 3) (Nat.le_of_ble_eq_true rfl) (e_cc (e_rv_cat _ _) e_cn)
  rw [lg_entry_eq]
  generalize (lg_sl [e_rv B (x0)] ++ List.replicate (3 - (lg_sl [e_rv B (x0)]).length) Slot.unset).toArray = ls at hl ⊢
  generalize ([e_rv B (x0)] : List Value).toArray = args at hts E ⊢
  have hl : e_lo ls 3 [(0, e_rv B (x0))] := hl
  have hsh := (gd_some hsh).2
  refine e_aload_n (B := B) (x := x0) hx hb dX8_pushDown_0 rfl (hl.at 0 rfl) ?_
  obtain ⟨v1, h1, hsh⟩ := Option.bind_eq_some_iff.mp hsh
  refine e_getR (k := 0) hx hb hts in_X8 hown hp h1 rfl (by decide) (by decide) rfl (hts _ kf8_13) rfl dX8_pushDown_1 ?_
  refine lv_bipush (v := iI (35)) hx hb dX8_pushDown_4 (by decide +kernel) ?_
  obtain ⟨v6, h6, hsh⟩ := Option.bind_eq_some_iff.mp hsh
  refine e_aald (t := 104) (t0 := 4) hx hb hp h6 (by decide) rfl dX8_pushDown_6 ?_
  refine e_astore_n (lv' := [(1, e_rv B (v6)), (0, e_rv B (x0))]) hx hb dX8_pushDown_7 rfl hl (by decide) rfl (fun ls hl => ?_)
  refine lv_bipush (v := iI (35)) hx hb dX8_pushDown_8 (by decide +kernel) ?_
  refine e_istore_n (lv' := [(2, .int (iI (35))), (1, e_rv B (v6)), (0, e_rv B (x0))]) hx hb dX8_pushDown_10 rfl hl (by decide) rfl (fun ls hl => ?_)
  exact w8_pushDown_l11 (hB0 := hB0) E 1000000 hp hS ⟨by omega, by omega⟩ (hl.sub [2, 1, 0] rfl) hsh
theorem ok8_append {S : HP} {x0 : Int} {x1 : Int} {r : HP} (h : s8_append S x0 x1 = some r) : 0 ≤ x0 ∧ x0.toNat < e_n S ∧ e_g S x0.toNat = 8 := (gd_some h).1
set_option maxRecDepth 100000 in
set_option maxHeartbeats 4000000 in
theorem w8_append_b128 {p : Program} {l : Launch} {e : Env} {s : State} {m : MethodId} {args : Array Value} {below : List Frame} {meth : Method} {c : Code} {D : va_G} {cA : Nat → ClassId} {B : Nat} {res : HP} {S0 : HP} (hB0 : s.heap.size = B + e_n S0) (E : e_En p s m args meth c cX8_append RX8 4 none) {ls : Array Slot} {H : Heap} {locs : List Loc} {S : HP} {y0 : Int} {y1 : Int} (hp : e_Pic D cA B S s H) (hS : va_S (e_A B) s.heap H locs) (h0 : e_n S0 ≤ e_n S ∧ e_s S0 ≤ e_s S) (hl : e_lo ls 4 []) (hsh : s8_append_b128 S y0 y1 = some res) : W p l e ({ frames := 2, cells := e_n res - e_n S0, slots := e_s res - e_s S0, locals := 83 } : Room) s m args below meth c H locs (e_n S - e_n S0) (e_s S - e_s S0) (MQ below (e_Qv D cA B res) args s (e_n res - e_n S0) (e_s res - e_s S0) (e_A B)) (F0 m 128 ls [.int (iI (y1)), e_rv B (y0)]) := by
  obtain ⟨hx, hb, hml, hown, hts, hlk, hrt⟩ := id E
  unfold s8_append_b128 at hsh
  obtain ⟨S128, h128, hsh⟩ := Option.bind_eq_some_iff.mp hsh
  refine e_putI (k := 2) hx hb hts in_X10 tyX10 tyX10_ok nmX10 hown hp hS h128 rfl (by decide) (by decide) rfl (hts _ kf8_49) rfl rfl (by decide +kernel) dX8_append_128 (fun H locs hp hS => ?_)
  have nn := pF_n h128
  refine e_cells (c' := e_n S128 - e_n S0) (s' := e_s S128 - e_s S0) (by omega) (by omega) ?_
  cases hsh
  exact e_vret hx hb hrt hlk hp hS dX8_append_131
set_option maxRecDepth 100000 in
set_option maxHeartbeats 4000000 in
theorem w8_append_b118 {p : Program} {l : Launch} {e : Env} {s : State} {m : MethodId} {args : Array Value} {below : List Frame} {meth : Method} {c : Code} {D : va_G} {cA : Nat → ClassId} {B : Nat} {res : HP} {S0 : HP} (hB0 : s.heap.size = B + e_n S0) (E : e_En p s m args meth c cX8_append RX8 4 none) {ls : Array Slot} {H : Heap} {locs : List Loc} {S : HP} {x1 : Int} {x2 : Int} (hp : e_Pic D cA B S s H) (hS : va_S (e_A B) s.heap H locs) (h0 : e_n S0 ≤ e_n S ∧ e_s S0 ≤ e_s S) (hl : e_lo ls 4 [(1, e_rv B (x1)), (2, .int (iI (x2)))]) (hsh : s8_append_b118 S x1 x2 = some res) : W p l e ({ frames := 2, cells := e_n res - e_n S0, slots := e_s res - e_s S0, locals := 83 } : Room) s m args below meth c H locs (e_n S - e_n S0) (e_s S - e_s S0) (MQ below (e_Qv D cA B res) args s (e_n res - e_n S0) (e_s res - e_s S0) (e_A B)) (F0 m 118 ls []) := by
  obtain ⟨hx, hb, hml, hown, hts, hlk, hrt⟩ := id E
  unfold s8_append_b118 at hsh
  refine e_aload_n (B := B) (x := x1) hx hb dX8_append_118 rfl (hl.at 0 rfl) ?_
  refine lv_iload_n hx hb dX8_append_119 rfl (hl.at 1 rfl) ?_
  refine e_if_eq (tgt := 127) hx hb dX8_append_120 (by decide) (fun c120 => ?_) (fun c120 => ?_)
  · rw [if_pos c120] at hsh
    refine lv_iconst (v := iI (2)) hx hb dX8_append_127 rfl ?_
    exact w8_append_b128 (hB0 := hB0) E hp hS ⟨by omega, by omega⟩ (hl.sub [] rfl) hsh
  · rw [if_neg c120] at hsh
    refine lv_iconst (v := iI (1)) hx hb dX8_append_123 rfl ?_
    refine lv_goto (tgt := 128) hx hb dX8_append_124 (by decide) ?_
    exact w8_append_b128 (hB0 := hB0) E hp hS ⟨by omega, by omega⟩ (hl.sub [] rfl) hsh
set_option maxRecDepth 100000 in
set_option maxHeartbeats 4000000 in
theorem w8_append_l65 {p : Program} {l : Launch} {e : Env} {s : State} {m : MethodId} {args : Array Value} {below : List Frame} {meth : Method} {c : Code} {D : va_G} {cA : Nat → ClassId} {B : Nat} {res : HP} {S0 : HP} (hB0 : s.heap.size = B + e_n S0) (E : e_En p s m args meth c cX8_append RX8 4 none) : ∀ (f : Nat) {ls : Array Slot} {H : Heap} {locs : List Loc} {S : HP} {x0 : Int} {x1 : Int} {x2 : Int} {x3 : Int} (hp : e_Pic D cA B S s H) (hS : va_S (e_A B) s.heap H locs) (h0 : e_n S0 ≤ e_n S ∧ e_s S0 ≤ e_s S) (hl : e_lo ls 4 [(0, e_rv B (x0)), (1, e_rv B (x1)), (2, .int (iI (x2))), (3, .int (iI (x3)))]) (hsh : s8_append_l65 f S x0 x1 x2 x3 = some res), W p l e ({ frames := 2, cells := e_n res - e_n S0, slots := e_s res - e_s S0, locals := 83 } : Room) s m args below meth c H locs (e_n S - e_n S0) (e_s S - e_s S0) (MQ below (e_Qv D cA B res) args s (e_n res - e_n S0) (e_s res - e_s S0) (e_A B)) (F0 m 65 ls []) := by
  obtain ⟨hx, hb, hml, hown, hts, hlk, hrt⟩ := id E
  intro f
  induction f with
  | zero => intro ls H locs S x0 x1 x2 x3 hp hS h0 hl hsh; cases hsh
  | succ f ih =>
    intro ls H locs S x0 x1 x2 x3 hp hS h0 hl hsh
    have hk65 : ∀ {ls : Array Slot} {H : Heap} {locs : List Loc} {S : HP} {x0 : Int} {x1 : Int} {x2 : Int} {x3 : Int} (hp : e_Pic D cA B S s H) (hS : va_S (e_A B) s.heap H locs) (h0 : e_n S0 ≤ e_n S ∧ e_s S0 ≤ e_s S) (hl : e_lo ls 4 [(0, e_rv B (x0)), (1, e_rv B (x1)), (2, .int (iI (x2))), (3, .int (iI (x3)))]) (hsh : (s8_append_l65 f) S x0 x1 x2 x3 = some res), W p l e ({ frames := 2, cells := e_n res - e_n S0, slots := e_s res - e_s S0, locals := 83 } : Room) s m args below meth c H locs (e_n S - e_n S0) (e_s S - e_s S0) (MQ below (e_Qv D cA B res) args s (e_n res - e_n S0) (e_s res - e_s S0) (e_A B)) (F0 m 65 ls []) := ih
    generalize hkk : s8_append_l65 f = k65 at hk65
    rw [s8_append_l65] at hsh
    rw [hkk] at hsh
    try dsimp only at hsh
    refine lv_iload_n hx hb dX8_append_65 rfl (hl.at 3 rfl) ?_
    refine e_aload_n (B := B) (x := x0) hx hb dX8_append_66 rfl (hl.at 0 rfl) ?_
    obtain ⟨v67, h67, hsh⟩ := Option.bind_eq_some_iff.mp hsh
    refine e_getR (k := 2) hx hb hts in_X8 hown hp h67 rfl (by decide) (by decide) rfl (hts _ kf8_24) rfl dX8_append_67 ?_
    obtain ⟨v70, h70, hsh⟩ := Option.bind_eq_some_iff.mp hsh
    refine e_getI (k := 1) hx hb hts in_X10 hown hp h70 rfl (by decide) (by decide) rfl (hts _ kf8_52) rfl dX8_append_70 ?_
    refine e_icmp_ge (tgt := 96) hx hb dX8_append_73 (by decide) (fun c73 => ?_) (fun c73 => ?_)
    · rw [if_pos c73] at hsh
      refine lv_iload_n hx hb dX8_append_96 rfl (hl.at 2 rfl) ?_
      refine e_if_ne (tgt := 118) hx hb dX8_append_97 (by decide) (fun c97 => ?_) (fun c97 => ?_)
      · rw [if_neg c97] at hsh
        exact w8_append_b118 (hB0 := hB0) E hp hS ⟨by omega, by omega⟩ (hl.sub [1, 2] rfl) hsh
      · rw [if_pos c97] at hsh
        refine e_aload_n (B := B) (x := x0) hx hb dX8_append_100 rfl (hl.at 0 rfl) ?_
        obtain ⟨v101, h101, hsh⟩ := Option.bind_eq_some_iff.mp hsh
        refine e_getR (k := 2) hx hb hts in_X8 hown hp h101 rfl (by decide) (by decide) rfl (hts _ kf8_24) rfl dX8_append_101 ?_
        obtain ⟨v104, h104, hsh⟩ := Option.bind_eq_some_iff.mp hsh
        refine e_getI (k := 2) hx hb hts in_X10 hown hp h104 rfl (by decide) (by decide) rfl (hts _ kf8_49) rfl dX8_append_104 ?_
        refine lv_iconst (v := iI (1)) hx hb dX8_append_107 rfl ?_
        refine e_icmp_ne (tgt := 118) hx hb dX8_append_108 (by decide) (fun c108 => ?_) (fun c108 => ?_)
        · rw [if_neg c108] at hsh
          exact w8_append_b118 (hB0 := hB0) E hp hS ⟨by omega, by omega⟩ (hl.sub [1, 2] rfl) hsh
        · rw [if_pos c108] at hsh
          refine e_aload_n (B := B) (x := x1) hx hb dX8_append_111 rfl (hl.at 1 rfl) ?_
          refine lv_bipush (v := iI (10)) hx hb dX8_append_112 (by decide +kernel) ?_
          obtain ⟨⟨v114, S114⟩, h114, hsh⟩ := Option.bind_eq_some_iff.mp hsh
          have hsh : _ = _ := hsh
          try dsimp only at hsh
          obtain ⟨hsh, cc114, cd114⟩ := smV_some hsh
          have cd114 : e_n S114 ≤ e_n res ∧ e_s S114 ≤ e_s res := cd114
          have ok114 := ok10_add h114
          refine e_callI (nL := 4) (mc := e_n S114 - e_n S) (ms := e_s S114 - e_s S) (T := TX10) (N := 3) (As := [.int (iI (10))]) (rest := []) hx hb hml hown hts hp hS hl.size ok114.1 ok114.2.1 ok114.2.2 rfl (by decide) (c10_add l D cA B S S114 (x1) (10) v114 h114) rfl rfl kd10_add (kl8_66) ks10_add kv10_add ki10 kh10_add ⟨Nat.le_of_ble_eq_true rfl, Nat.le_of_ble_eq_true rfl⟩ rfl (by simp [e_rv_cat, e_int_cat, e_long_cat]) ⟨(by show _ ≤ e_n res - e_n S0; omega), (by show _ ≤ e_s res - e_s S0; omega)⟩ dX8_append_114 rfl (fun H locs hp hS => ?_)
          refine e_cells (c' := e_n S114 - e_n S0) (s' := e_s S114 - e_s S0) (by omega) (by omega) ?_
          refine lv_pop hx hb dX8_append_117 rfl ?_
          exact w8_append_b118 (hB0 := hB0) E hp hS ⟨by omega, by omega⟩ (hl.sub [1, 2] rfl) hsh
    · rw [if_neg c73] at hsh
      refine e_aload_n (B := B) (x := x1) hx hb dX8_append_76 rfl (hl.at 1 rfl) ?_
      refine e_aload_n (B := B) (x := x0) hx hb dX8_append_77 rfl (hl.at 0 rfl) ?_
      obtain ⟨v78, h78, hsh⟩ := Option.bind_eq_some_iff.mp hsh
      refine e_getR (k := 2) hx hb hts in_X8 hown hp h78 rfl (by decide) (by decide) rfl (hts _ kf8_24) rfl dX8_append_78 ?_
      obtain ⟨v81, h81, hsh⟩ := Option.bind_eq_some_iff.mp hsh
      refine e_getR (k := 0) hx hb hts in_X10 hown hp h81 rfl (by decide) (by decide) rfl (hts _ kf8_69) rfl dX8_append_81 ?_
      refine lv_iload_n hx hb dX8_append_84 rfl (hl.at 3 rfl) ?_
      obtain ⟨v85, h85, hsh⟩ := Option.bind_eq_some_iff.mp hsh
      refine e_cald hx hb hp h85 dX8_append_85 ?_
      obtain ⟨⟨v86, S86⟩, h86, hsh⟩ := Option.bind_eq_some_iff.mp hsh
      have hsh : _ = _ := hsh
      try dsimp only at hsh
      obtain ⟨hsh, cc86, cd86⟩ := smV_some hsh
      have cd86 : e_n S86 ≤ e_n res ∧ e_s S86 ≤ e_s res := cd86
      have ok86 := ok10_add h86
      refine e_callI (nL := 4) (mc := e_n S86 - e_n S) (ms := e_s S86 - e_s S) (T := TX10) (N := 3) (As := [.int (iI (v85))]) (rest := []) hx hb hml hown hts hp hS hl.size ok86.1 ok86.2.1 ok86.2.2 rfl (by decide) (c10_add l D cA B S S86 (x1) (v85) v86 h86) rfl rfl kd10_add (kl8_66) ks10_add kv10_add ki10 kh10_add ⟨Nat.le_of_ble_eq_true rfl, Nat.le_of_ble_eq_true rfl⟩ rfl (by simp [e_rv_cat, e_int_cat, e_long_cat]) ⟨(by show _ ≤ e_n res - e_n S0; omega), (by show _ ≤ e_s res - e_s S0; omega)⟩ dX8_append_86 rfl (fun H locs hp hS => ?_)
      refine e_cells (c' := e_n S86 - e_n S0) (s' := e_s S86 - e_s S0) (by omega) (by omega) ?_
      refine lv_pop hx hb dX8_append_89 rfl ?_
      refine e_iinc (n := 1) (x := x3) (lv' := [(3, .int (iI ((x3 + 1)))), (0, e_rv B (x0)), (1, e_rv B (x1)), (2, .int (iI (x2)))]) hx hb dX8_append_90 hl (k := 3) rfl (by decide) rfl (fun ls hl => ?_)
      refine lv_goto (tgt := 65) hx hb dX8_append_93 (by decide) ?_
      exact hk65 hp hS ⟨by omega, by omega⟩ (hl.sub [1, 2, 3, 0] rfl) hsh
set_option maxRecDepth 100000 in
set_option maxHeartbeats 4000000 in
theorem w8_append_b63 {p : Program} {l : Launch} {e : Env} {s : State} {m : MethodId} {args : Array Value} {below : List Frame} {meth : Method} {c : Code} {D : va_G} {cA : Nat → ClassId} {B : Nat} {res : HP} {S0 : HP} (hB0 : s.heap.size = B + e_n S0) (E : e_En p s m args meth c cX8_append RX8 4 none) {ls : Array Slot} {H : Heap} {locs : List Loc} {S : HP} {x0 : Int} {x1 : Int} {x2 : Int} (hp : e_Pic D cA B S s H) (hS : va_S (e_A B) s.heap H locs) (h0 : e_n S0 ≤ e_n S ∧ e_s S0 ≤ e_s S) (hl : e_lo ls 4 [(0, e_rv B (x0)), (1, e_rv B (x1)), (2, .int (iI (x2)))]) (hsh : s8_append_b63 S x0 x1 x2 = some res) : W p l e ({ frames := 2, cells := e_n res - e_n S0, slots := e_s res - e_s S0, locals := 83 } : Room) s m args below meth c H locs (e_n S - e_n S0) (e_s S - e_s S0) (MQ below (e_Qv D cA B res) args s (e_n res - e_n S0) (e_s res - e_s S0) (e_A B)) (F0 m 63 ls []) := by
  obtain ⟨hx, hb, hml, hown, hts, hlk, hrt⟩ := id E
  unfold s8_append_b63 at hsh
  refine lv_iconst (v := iI (0)) hx hb dX8_append_63 rfl ?_
  refine e_istore_n (lv' := [(3, .int (iI (0))), (0, e_rv B (x0)), (1, e_rv B (x1)), (2, .int (iI (x2)))]) hx hb dX8_append_64 rfl hl (by decide) rfl (fun ls hl => ?_)
  exact w8_append_l65 (hB0 := hB0) E 1000000 hp hS ⟨by omega, by omega⟩ (hl.sub [1, 2, 3, 0] rfl) hsh
set_option maxRecDepth 100000 in
set_option maxHeartbeats 4000000 in
theorem w8_append_b43 {p : Program} {l : Launch} {e : Env} {s : State} {m : MethodId} {args : Array Value} {below : List Frame} {meth : Method} {c : Code} {D : va_G} {cA : Nat → ClassId} {B : Nat} {res : HP} {S0 : HP} (hB0 : s.heap.size = B + e_n S0) (E : e_En p s m args meth c cX8_append RX8 4 none) {ls : Array Slot} {H : Heap} {locs : List Loc} {S : HP} {x0 : Int} {x1 : Int} {y0 : Int} (hp : e_Pic D cA B S s H) (hS : va_S (e_A B) s.heap H locs) (h0 : e_n S0 ≤ e_n S ∧ e_s S0 ≤ e_s S) (hl : e_lo ls 4 [(0, e_rv B (x0)), (1, e_rv B (x1))]) (hsh : s8_append_b43 S x0 x1 y0 = some res) : W p l e ({ frames := 2, cells := e_n res - e_n S0, slots := e_s res - e_s S0, locals := 83 } : Room) s m args below meth c H locs (e_n S - e_n S0) (e_s S - e_s S0) (MQ below (e_Qv D cA B res) args s (e_n res - e_n S0) (e_s res - e_s S0) (e_A B)) (F0 m 43 ls [.int (iI (y0))]) := by
  obtain ⟨hx, hb, hml, hown, hts, hlk, hrt⟩ := id E
  unfold s8_append_b43 at hsh
  refine e_istore_n (lv' := [(2, .int (iI (y0))), (0, e_rv B (x0)), (1, e_rv B (x1))]) hx hb dX8_append_43 rfl hl (by decide) rfl (fun ls hl => ?_)
  refine lv_iload_n hx hb dX8_append_44 rfl (hl.at 0 rfl) ?_
  refine e_if_ne (tgt := 63) hx hb dX8_append_45 (by decide) (fun c45 => ?_) (fun c45 => ?_)
  · rw [if_neg c45] at hsh
    exact w8_append_b63 (hB0 := hB0) E hp hS ⟨by omega, by omega⟩ (hl.sub [1, 2, 0] rfl) hsh
  · rw [if_pos c45] at hsh
    refine e_aload_n (B := B) (x := x1) hx hb dX8_append_48 rfl (hl.at 2 rfl) ?_
    obtain ⟨v49, h49, hsh⟩ := Option.bind_eq_some_iff.mp hsh
    refine e_getI (k := 2) hx hb hts in_X10 hown hp h49 rfl (by decide) (by decide) rfl (hts _ kf8_49) rfl dX8_append_49 ?_
    refine lv_iconst (v := iI (1)) hx hb dX8_append_52 rfl ?_
    refine e_icmp_ne (tgt := 63) hx hb dX8_append_53 (by decide) (fun c53 => ?_) (fun c53 => ?_)
    · rw [if_neg c53] at hsh
      exact w8_append_b63 (hB0 := hB0) E hp hS ⟨by omega, by omega⟩ (hl.sub [1, 2, 0] rfl) hsh
    · rw [if_pos c53] at hsh
      refine e_aload_n (B := B) (x := x1) hx hb dX8_append_56 rfl (hl.at 2 rfl) ?_
      refine lv_bipush (v := iI (10)) hx hb dX8_append_57 (by decide +kernel) ?_
      obtain ⟨⟨v59, S59⟩, h59, hsh⟩ := Option.bind_eq_some_iff.mp hsh
      have hsh : _ = _ := hsh
      try dsimp only at hsh
      obtain ⟨hsh, cc59, cd59⟩ := smV_some hsh
      have cd59 : e_n S59 ≤ e_n res ∧ e_s S59 ≤ e_s res := cd59
      have ok59 := ok10_add h59
      refine e_callI (nL := 4) (mc := e_n S59 - e_n S) (ms := e_s S59 - e_s S) (T := TX10) (N := 3) (As := [.int (iI (10))]) (rest := []) hx hb hml hown hts hp hS hl.size ok59.1 ok59.2.1 ok59.2.2 rfl (by decide) (c10_add l D cA B S S59 (x1) (10) v59 h59) rfl rfl kd10_add (kl8_66) ks10_add kv10_add ki10 kh10_add ⟨Nat.le_of_ble_eq_true rfl, Nat.le_of_ble_eq_true rfl⟩ rfl (by simp [e_rv_cat, e_int_cat, e_long_cat]) ⟨(by show _ ≤ e_n res - e_n S0; omega), (by show _ ≤ e_s res - e_s S0; omega)⟩ dX8_append_59 rfl (fun H locs hp hS => ?_)
      refine e_cells (c' := e_n S59 - e_n S0) (s' := e_s S59 - e_s S0) (by omega) (by omega) ?_
      refine lv_pop hx hb dX8_append_62 rfl ?_
      exact w8_append_b63 (hB0 := hB0) E hp hS ⟨by omega, by omega⟩ (hl.sub [1, 2, 0] rfl) hsh
set_option maxRecDepth 100000 in
set_option maxHeartbeats 4000000 in
theorem w8_append_b42 {p : Program} {l : Launch} {e : Env} {s : State} {m : MethodId} {args : Array Value} {below : List Frame} {meth : Method} {c : Code} {D : va_G} {cA : Nat → ClassId} {B : Nat} {res : HP} {S0 : HP} (hB0 : s.heap.size = B + e_n S0) (E : e_En p s m args meth c cX8_append RX8 4 none) {ls : Array Slot} {H : Heap} {locs : List Loc} {S : HP} {x0 : Int} {x1 : Int} (hp : e_Pic D cA B S s H) (hS : va_S (e_A B) s.heap H locs) (h0 : e_n S0 ≤ e_n S ∧ e_s S0 ≤ e_s S) (hl : e_lo ls 4 [(0, e_rv B (x0)), (1, e_rv B (x1))]) (hsh : s8_append_b42 S x0 x1 = some res) : W p l e ({ frames := 2, cells := e_n res - e_n S0, slots := e_s res - e_s S0, locals := 83 } : Room) s m args below meth c H locs (e_n S - e_n S0) (e_s S - e_s S0) (MQ below (e_Qv D cA B res) args s (e_n res - e_n S0) (e_s res - e_s S0) (e_A B)) (F0 m 42 ls []) := by
  obtain ⟨hx, hb, hml, hown, hts, hlk, hrt⟩ := id E
  unfold s8_append_b42 at hsh
  refine lv_iconst (v := iI (0)) hx hb dX8_append_42 rfl ?_
  exact w8_append_b43 (hB0 := hB0) E hp hS ⟨by omega, by omega⟩ (hl.sub [0, 1] rfl) hsh
set_option maxRecDepth 100000 in
set_option maxHeartbeats 4000000 in
theorem c8_append (l : Launch) (D : va_G) (cA : Nat → ClassId) (B : Nat) (S S' : HP) (x0 : Int) (x1 : Int) (hsh : s8_append S x0 x1 = some S') : Met l yX8_append (e_wu yX8_append cX8_append 4 none) ({ frames := 2, cells := e_n S' - e_n S, slots := e_s S' - e_s S, locals := 83 } : Room) (va_Pc [e_rv B (x0), e_rv B (x1)] (fun U => e_PU D cA B S U)) (e_Qv D cA B S') (e_n S' - e_n S) (e_s S' - e_s S) (e_A B) := by
  refine Met.ofW (cc := cX8_append) (maxL := 4) (ret := none) (by decide +kernel) rfl ?_
  intro p e s m args below meth c s₁ Bd hml hv
  obtain ⟨rfl, hp⟩ := hv
  have hp : e_Pic D cA B S s s.heap := hp
  have hx := Bd.exec
  have hb := Bd.bytes
  have hrt := Bd.returns
  have hlk := Bd.notSynchronized
  have hown : s.vm.findClass RX8 = some m.cls := findClass_of_methodNamed Bd.named
  have hts : ∀ w ∈ e_tb, w.before ([e_rv B (x0), e_rv B (x1)] : List Value).toArray s = true := fun w h => atoms_spec (ws := (e_wu yX8_append cX8_append 4 none)) Bd.pre w (List.mem_cons_of_mem _ h)
  have E : e_En p s m ([e_rv B (x0), e_rv B (x1)] : List Value).toArray meth c cX8_append RX8 4 none := ⟨hx, hb, hml, hown, hts, hlk, hrt⟩
  have hS : va_S (e_A B) s.heap s.heap [] := va_S.rf
  have hB0 : s.heap.size = B + e_n S := hp.2.2.1
  refine e_cells (c' := e_n S - e_n S) (s' := e_s S - e_s S) (Nat.sub_self _).symm (Nat.sub_self _).symm ?_
  have hl := e_entry (vs := [e_rv B (x0), e_rv B (x1)]) (n := 4) (Nat.le_of_ble_eq_true rfl) (e_cc (e_rv_cat _ _) (e_cc (e_rv_cat _ _) e_cn))
  rw [lg_entry_eq]
  generalize (lg_sl [e_rv B (x0), e_rv B (x1)] ++ List.replicate (4 - (lg_sl [e_rv B (x0), e_rv B (x1)]).length) Slot.unset).toArray = ls at hl ⊢
  generalize ([e_rv B (x0), e_rv B (x1)] : List Value).toArray = args at hts E ⊢
  have hl : e_lo ls 4 [(0, e_rv B (x0)), (1, e_rv B (x1))] := hl
  have hsh := (gd_some hsh).2
  refine e_aload_n (B := B) (x := x1) hx hb dX8_append_0 rfl (hl.at 1 rfl) ?_
  obtain ⟨v1, h1, hsh⟩ := Option.bind_eq_some_iff.mp hsh
  refine e_getI (k := 2) hx hb hts in_X10 hown hp h1 rfl (by decide) (by decide) rfl (hts _ kf8_49) rfl dX8_append_1 ?_
  refine e_if_ne (tgt := 19) hx hb dX8_append_4 (by decide) (fun c4 => ?_) (fun c4 => ?_)
  · rw [if_neg c4] at hsh
    refine e_aload_n (B := B) (x := x1) hx hb dX8_append_19 rfl (hl.at 1 rfl) ?_
    obtain ⟨v20, h20, hsh⟩ := Option.bind_eq_some_iff.mp hsh
    refine e_getI (k := 2) hx hb hts in_X10 hown hp h20 rfl (by decide) (by decide) rfl (hts _ kf8_49) rfl dX8_append_20 ?_
    refine lv_iconst (v := iI (1)) hx hb dX8_append_23 rfl ?_
    refine e_icmp_ne (tgt := 42) hx hb dX8_append_24 (by decide) (fun c24 => ?_) (fun c24 => ?_)
    · rw [if_neg c24] at hsh
      exact w8_append_b42 (hB0 := hB0) E hp hS ⟨by omega, by omega⟩ (hl.sub [0, 1] rfl) hsh
    · rw [if_pos c24] at hsh
      refine e_aload_n (B := B) (x := x0) hx hb dX8_append_27 rfl (hl.at 0 rfl) ?_
      obtain ⟨v28, h28, hsh⟩ := Option.bind_eq_some_iff.mp hsh
      refine e_getR (k := 2) hx hb hts in_X8 hown hp h28 rfl (by decide) (by decide) rfl (hts _ kf8_24) rfl dX8_append_28 ?_
      obtain ⟨v31, h31, hsh⟩ := Option.bind_eq_some_iff.mp hsh
      refine e_getI (k := 2) hx hb hts in_X10 hown hp h31 rfl (by decide) (by decide) rfl (hts _ kf8_49) rfl dX8_append_31 ?_
      refine lv_iconst (v := iI (1)) hx hb dX8_append_34 rfl ?_
      refine e_icmp_ne (tgt := 42) hx hb dX8_append_35 (by decide) (fun c35 => ?_) (fun c35 => ?_)
      · rw [if_neg c35] at hsh
        exact w8_append_b42 (hB0 := hB0) E hp hS ⟨by omega, by omega⟩ (hl.sub [0, 1] rfl) hsh
      · rw [if_pos c35] at hsh
        refine lv_iconst (v := iI (1)) hx hb dX8_append_38 rfl ?_
        refine lv_goto (tgt := 43) hx hb dX8_append_39 (by decide) ?_
        exact w8_append_b43 (hB0 := hB0) E hp hS ⟨by omega, by omega⟩ (hl.sub [0, 1] rfl) hsh
  · rw [if_pos c4] at hsh
    refine e_aload_n (B := B) (x := x1) hx hb dX8_append_7 rfl (hl.at 1 rfl) ?_
    refine e_aload_n (B := B) (x := x0) hx hb dX8_append_8 rfl (hl.at 0 rfl) ?_
    obtain ⟨v9, h9, hsh⟩ := Option.bind_eq_some_iff.mp hsh
    refine e_getR (k := 2) hx hb hts in_X8 hown hp h9 rfl (by decide) (by decide) rfl (hts _ kf8_24) rfl dX8_append_9 ?_
    refine lv_sipush (v := iI (3000)) hx hb dX8_append_12 (by decide +kernel) ?_
    obtain ⟨S15, h15, hsh⟩ := Option.bind_eq_some_iff.mp hsh
    obtain ⟨hsh, cc15, cd15⟩ := smV_some hsh
    have cd15 : e_n S15 ≤ e_n S' ∧ e_s S15 ≤ e_s S' := cd15
    have ok15 := ok10_copyOf h15
    refine e_callV (nL := 4) (mc := e_n S15 - e_n S) (ms := e_s S15 - e_s S) (T := TX10) (N := 3) (As := [e_rv B (v9), .int (iI (3000))]) (rest := []) hx hb hml hown hts hp hS hl.size ok15.1 ok15.2.1 ok15.2.2 rfl (by decide) (c10_copyOf l D cA B S S15 (x1) (v9) (3000) h15) rfl rfl kd10_copyOf (kl8_59) ks10_copyOf kv10_copyOf ki10 kh10_copyOf ⟨Nat.le_of_ble_eq_true rfl, Nat.le_of_ble_eq_true rfl⟩ rfl (by simp [e_rv_cat, e_int_cat, e_long_cat]) ⟨(by show _ ≤ e_n S' - e_n S; omega), (by show _ ≤ e_s S' - e_s S; omega)⟩ dX8_append_15 rfl (fun H locs hp hS => ?_)
    refine e_cells (c' := e_n S15 - e_n S) (s' := e_s S15 - e_s S) (by omega) (by omega) ?_
    cases hsh
    exact e_vret hx hb hrt hlk hp hS dX8_append_18
theorem ok11_isLike {S : HP} {x0 : Int} {x1 : Int} {r : Int × HP} (h : s11_isLike S x0 x1 = some r) : 0 ≤ x0 ∧ x0.toNat < e_n S ∧ e_g S x0.toNat = 11 := (gd_some h).1
set_option maxRecDepth 100000 in
set_option maxHeartbeats 4000000 in
theorem w11_isLike_b14 {p : Program} {l : Launch} {e : Env} {s : State} {m : MethodId} {args : Array Value} {below : List Frame} {meth : Method} {c : Code} {D : va_G} {cA : Nat → ClassId} {B : Nat} {res : Int × HP} (E : e_En p s m args meth c cX11_isLike RX11 2 (some .boolean)) {ls : Array Slot} {H : Heap} {locs : List Loc} {S : HP} {y0 : Int} (hp : e_Pic D cA B S s H) (hS : va_S (e_A B) s.heap H locs) (hl : e_lo ls 2 []) (hsh : s11_isLike_b14 S y0 = some res) : W p l e ({ frames := 2, cells := 0, slots := 0, locals := 44 } : Room) s m args below meth c H locs 0 0 (MQ below (e_Qi D cA B res.1 res.2) args s 0 0 (e_A B)) (F0 m 14 ls [.int (iI (y0))]) := by
  obtain ⟨hx, hb, hml, hown, hts, hlk, hrt⟩ := id E
  unfold s11_isLike_b14 at hsh
  obtain ⟨hz, hz1, hz2⟩ := zR_some hsh
  rw [← hz1, ← hz2]
  exact e_zret hx hb hrt hlk hp hS hz dX11_isLike_14
set_option maxRecDepth 100000 in
set_option maxHeartbeats 4000000 in
theorem c11_isLike (l : Launch) (D : va_G) (cA : Nat → ClassId) (B : Nat) (S S' : HP) (x0 : Int) (x1 : Int) (r : Int) (hsh : s11_isLike S x0 x1 = some (r, S')) : Met l yX11_isLike (e_wu yX11_isLike cX11_isLike 2 (some .boolean)) ({ frames := 2, cells := 0, slots := 0, locals := 44 } : Room) (va_Pc [e_rv B (x0), e_rv B (x1)] (fun U => e_PU D cA B S U)) (e_Qi D cA B r S') 0 0 (e_A B) := by
  refine Met.ofW (cc := cX11_isLike) (maxL := 2) (ret := (some .boolean)) (by decide +kernel) rfl ?_
  intro p e s m args below meth c s₁ Bd hml hv
  obtain ⟨rfl, hp⟩ := hv
  have hp : e_Pic D cA B S s s.heap := hp
  have hx := Bd.exec
  have hb := Bd.bytes
  have hrt := Bd.returns
  have hlk := Bd.notSynchronized
  have hown : s.vm.findClass RX11 = some m.cls := findClass_of_methodNamed Bd.named
  have hts : ∀ w ∈ e_tb, w.before ([e_rv B (x0), e_rv B (x1)] : List Value).toArray s = true := fun w h => atoms_spec (ws := (e_wu yX11_isLike cX11_isLike 2 (some .boolean))) Bd.pre w (List.mem_cons_of_mem _ h)
  have E : e_En p s m ([e_rv B (x0), e_rv B (x1)] : List Value).toArray meth c cX11_isLike RX11 2 (some .boolean) := ⟨hx, hb, hml, hown, hts, hlk, hrt⟩
  have hS : va_S (e_A B) s.heap s.heap [] := va_S.rf
  have hl := e_entry (vs := [e_rv B (x0), e_rv B (x1)]) (n := 2) (Nat.le_of_ble_eq_true rfl) (e_cc (e_rv_cat _ _) (e_cc (e_rv_cat _ _) e_cn))
  rw [lg_entry_eq]
  generalize (lg_sl [e_rv B (x0), e_rv B (x1)] ++ List.replicate (2 - (lg_sl [e_rv B (x0), e_rv B (x1)]).length) Slot.unset).toArray = ls at hl ⊢
  generalize ([e_rv B (x0), e_rv B (x1)] : List Value).toArray = args at hts E ⊢
  have hl : e_lo ls 2 [(0, e_rv B (x0)), (1, e_rv B (x1))] := hl
  have hsh := (gd_some hsh).2
  refine e_aload_n (B := B) (x := x0) hx hb dX11_isLike_0 rfl (hl.at 0 rfl) ?_
  refine e_aload_n (B := B) (x := x1) hx hb dX11_isLike_1 rfl (hl.at 1 rfl) ?_
  obtain ⟨⟨v2, S2⟩, h2, hsh⟩ := Option.bind_eq_some_iff.mp hsh
  have hsh : _ = _ := hsh
  try dsimp only at hsh
  have ok2 := ok11_firstDifference h2
  refine e_callI (nL := 2) (mc := 0) (ms := 0) (T := TX11) (N := 6) (As := [e_rv B (x1)]) (rest := []) hx hb hml hown hts hp hS hl.size ok2.1 ok2.2.1 ok2.2.2 rfl (by decide) (c11_firstDifference l D cA B S S2 (x0) (x1) v2 h2) rfl rfl kd11_firstDifference (kl11_37) ks11_firstDifference kv11_firstDifference ki11 kh11_firstDifference ⟨Nat.le_of_ble_eq_true rfl, Nat.le_of_ble_eq_true rfl⟩ rfl (by simp [e_rv_cat, e_int_cat, e_long_cat]) ⟨Nat.le_refl _, Nat.le_refl _⟩ dX11_isLike_2 rfl (fun H locs hp hS => ?_)
  refine lv_iconst (v := iI (-1)) hx hb dX11_isLike_5 rfl ?_
  refine e_icmp_ne (tgt := 13) hx hb dX11_isLike_6 (by decide) (fun c6 => ?_) (fun c6 => ?_)
  · rw [if_neg c6] at hsh
    refine lv_iconst (v := iI (0)) hx hb dX11_isLike_13 rfl ?_
    exact w11_isLike_b14 E hp hS (hl.sub [] rfl) hsh
  · rw [if_pos c6] at hsh
    refine lv_iconst (v := iI (1)) hx hb dX11_isLike_9 rfl ?_
    refine lv_goto (tgt := 14) hx hb dX11_isLike_10 (by decide) ?_
    exact w11_isLike_b14 E hp hS (hl.sub [] rfl) hsh
theorem ok1_sortLines {S : HP} {x0 : Int} {x1 : Int} {x2 : Int} {r : HP} (h : s1_sortLines S x0 x1 x2 = some r) : 0 ≤ x0 ∧ x0.toNat < e_n S ∧ e_g S x0.toNat = 1 := (gd_some h).1
set_option maxRecDepth 100000 in
set_option maxHeartbeats 4000000 in
theorem w1_sortLines_b151 {p : Program} {l : Launch} {e : Env} {s : State} {m : MethodId} {args : Array Value} {below : List Frame} {meth : Method} {c : Code} {D : va_G} {cA : Nat → ClassId} {B : Nat} {res : HP} {S0 : HP} (hB0 : s.heap.size = B + e_n S0) (E : e_En p s m args meth c cX1_sortLines RX1 7 none) {ls : Array Slot} {H : Heap} {locs : List Loc} {S : HP} {x0 : Int} {x2 : Int} (hp : e_Pic D cA B S s H) (hS : va_S (e_A B) s.heap H locs) (h0 : e_n S0 ≤ e_n S ∧ e_s S0 ≤ e_s S) (hl : e_lo ls 7 [(0, e_rv B (x0)), (2, .int (iI (x2)))]) (hsh : s1_sortLines_b151 S x0 x2 = some res) : W p l e ({ frames := 3, cells := e_n res - e_n S0, slots := e_s res - e_s S0, locals := 83 } : Room) s m args below meth c H locs (e_n S - e_n S0) (e_s S - e_s S0) (MQ below (e_Qv D cA B res) args s (e_n res - e_n S0) (e_s res - e_s S0) (e_A B)) (F0 m 151 ls []) := by
  obtain ⟨hx, hb, hml, hown, hts, hlk, hrt⟩ := id E
  unfold s1_sortLines_b151 at hsh
  refine e_aload_n (B := B) (x := x0) hx hb dX1_sortLines_151 rfl (hl.at 0 rfl) ?_
  obtain ⟨v152, h152, hsh⟩ := Option.bind_eq_some_iff.mp hsh
  refine e_getR (k := 1) hx hb hts in_X1 hown hp h152 rfl (by decide) (by decide) rfl (hts _ kf1_45) rfl dX1_sortLines_152 ?_
  refine e_aload_n (B := B) (x := x0) hx hb dX1_sortLines_155 rfl (hl.at 0 rfl) ?_
  obtain ⟨v156, h156, hsh⟩ := Option.bind_eq_some_iff.mp hsh
  refine e_getR (k := 0) hx hb hts in_X1 hown hp h156 rfl (by decide) (by decide) rfl (hts _ kf1_42) rfl dX1_sortLines_156 ?_
  refine lv_iload_n hx hb dX1_sortLines_159 rfl (hl.at 1 rfl) ?_
  obtain ⟨S160, h160, hsh⟩ := Option.bind_eq_some_iff.mp hsh
  obtain ⟨hsh, cc160, cd160⟩ := snV_some hsh
  have cd160 : e_n S160 ≤ e_n res ∧ e_s S160 ≤ e_s res := cd160
  have ok160 := ok6_goToText h160
  refine e_callV (nL := 7) (mc := 0) (ms := 0) (T := TX6) (N := 16) (As := [e_rv B (v156), .int (iI (x2))]) (rest := []) hx hb hml hown hts hp hS hl.size ok160.1 ok160.2.1 ok160.2.2 rfl (by decide) (c6_goToText l D cA B S S160 (v152) (v156) (x2) h160) rfl rfl kd6_goToText (kl1_173) ks6_goToText kv6_goToText ki6 kh6_goToText ⟨Nat.le_of_ble_eq_true rfl, Nat.le_of_ble_eq_true rfl⟩ rfl (by simp [e_rv_cat, e_int_cat, e_long_cat]) ⟨(by show _ ≤ e_n res - e_n S0; omega), (by show _ ≤ e_s res - e_s S0; omega)⟩ dX1_sortLines_160 rfl (fun H locs hp hS => ?_)
  refine e_cells (c' := e_n S160 - e_n S0) (s' := e_s S160 - e_s S0) (by omega) (by omega) ?_
  cases hsh
  exact e_vret hx hb hrt hlk hp hS dX1_sortLines_163
set_option maxRecDepth 100000 in
set_option maxHeartbeats 4000000 in
theorem w1_sortLines_l115 {p : Program} {l : Launch} {e : Env} {s : State} {m : MethodId} {args : Array Value} {below : List Frame} {meth : Method} {c : Code} {D : va_G} {cA : Nat → ClassId} {B : Nat} {res : HP} {S0 : HP} (hB0 : s.heap.size = B + e_n S0) (E : e_En p s m args meth c cX1_sortLines RX1 7 none) : ∀ (f : Nat) {ls : Array Slot} {H : Heap} {locs : List Loc} {S : HP} {x0 : Int} {x2 : Int} {x3 : Int} {x5 : Int} (hp : e_Pic D cA B S s H) (hS : va_S (e_A B) s.heap H locs) (h0 : e_n S0 ≤ e_n S ∧ e_s S0 ≤ e_s S) (hl : e_lo ls 7 [(0, e_rv B (x0)), (2, .int (iI (x2))), (3, e_rv B (x3)), (5, .int (iI (x5)))]) (hsh : s1_sortLines_l115 f S x0 x2 x3 x5 = some res), W p l e ({ frames := 3, cells := e_n res - e_n S0, slots := e_s res - e_s S0, locals := 83 } : Room) s m args below meth c H locs (e_n S - e_n S0) (e_s S - e_s S0) (MQ below (e_Qv D cA B res) args s (e_n res - e_n S0) (e_s res - e_s S0) (e_A B)) (F0 m 115 ls []) := by
  obtain ⟨hx, hb, hml, hown, hts, hlk, hrt⟩ := id E
  intro f
  induction f with
  | zero => intro ls H locs S x0 x2 x3 x5 hp hS h0 hl hsh; cases hsh
  | succ f ih =>
    intro ls H locs S x0 x2 x3 x5 hp hS h0 hl hsh
    have hk115 : ∀ {ls : Array Slot} {H : Heap} {locs : List Loc} {S : HP} {x0 : Int} {x2 : Int} {x3 : Int} {x5 : Int} (hp : e_Pic D cA B S s H) (hS : va_S (e_A B) s.heap H locs) (h0 : e_n S0 ≤ e_n S ∧ e_s S0 ≤ e_s S) (hl : e_lo ls 7 [(0, e_rv B (x0)), (2, .int (iI (x2))), (3, e_rv B (x3)), (5, .int (iI (x5)))]) (hsh : (s1_sortLines_l115 f) S x0 x2 x3 x5 = some res), W p l e ({ frames := 3, cells := e_n res - e_n S0, slots := e_s res - e_s S0, locals := 83 } : Room) s m args below meth c H locs (e_n S - e_n S0) (e_s S - e_s S0) (MQ below (e_Qv D cA B res) args s (e_n res - e_n S0) (e_s res - e_s S0) (e_A B)) (F0 m 115 ls []) := ih
    generalize hkk : s1_sortLines_l115 f = k115 at hk115
    rw [s1_sortLines_l115] at hsh
    rw [hkk] at hsh
    try dsimp only at hsh
    refine lv_iload hx hb dX1_sortLines_115 (hl.at 3 rfl) ?_
    refine lv_iload_n hx hb dX1_sortLines_117 rfl (hl.at 1 rfl) ?_
    refine e_icmp_gt (tgt := 151) hx hb dX1_sortLines_118 (by decide) (fun c118 => ?_) (fun c118 => ?_)
    · rw [if_pos c118] at hsh
      exact w1_sortLines_b151 (hB0 := hB0) E hp hS ⟨by omega, by omega⟩ (hl.sub [0, 1] rfl) hsh
    · rw [if_neg c118] at hsh
      refine lv_iload hx hb dX1_sortLines_121 (hl.at 3 rfl) ?_
      refine lv_bipush (v := iI (40)) hx hb dX1_sortLines_123 (by decide +kernel) ?_
      refine e_icmp_ge (tgt := 151) hx hb dX1_sortLines_125 (by decide) (fun c125 => ?_) (fun c125 => ?_)
      · rw [if_pos c125] at hsh
        exact w1_sortLines_b151 (hB0 := hB0) E hp hS ⟨by omega, by omega⟩ (hl.sub [0, 1] rfl) hsh
      · rw [if_neg c125] at hsh
        refine e_aload_n (B := B) (x := x0) hx hb dX1_sortLines_128 rfl (hl.at 0 rfl) ?_
        obtain ⟨v129, h129, hsh⟩ := Option.bind_eq_some_iff.mp hsh
        refine e_getR (k := 0) hx hb hts in_X1 hown hp h129 rfl (by decide) (by decide) rfl (hts _ kf1_42) rfl dX1_sortLines_129 ?_
        refine lv_iload hx hb dX1_sortLines_132 (hl.at 3 rfl) ?_
        refine e_aload_n (B := B) (x := x0) hx hb dX1_sortLines_134 rfl (hl.at 0 rfl) ?_
        obtain ⟨v135, h135, hsh⟩ := Option.bind_eq_some_iff.mp hsh
        refine e_getR (k := 3) hx hb hts in_X1 hown hp h135 rfl (by decide) (by decide) rfl (hts _ kf1_14) rfl dX1_sortLines_135 ?_
        refine e_aload_n (B := B) (x := x3) hx hb dX1_sortLines_138 rfl (hl.at 2 rfl) ?_
        refine lv_iload hx hb dX1_sortLines_139 (hl.at 3 rfl) ?_
        obtain ⟨v141, h141, hsh⟩ := Option.bind_eq_some_iff.mp hsh
        refine e_iald hx hb hp h141 dX1_sortLines_141 ?_
        obtain ⟨S142, h142, hsh⟩ := Option.bind_eq_some_iff.mp hsh
        obtain ⟨hsh, cc142, cd142⟩ := snV_some hsh
        have cd142 : e_n S142 ≤ e_n res ∧ e_s S142 ≤ e_s res := cd142
        have ok142 := ok11_copyLine h142
        refine e_callV (nL := 7) (mc := 0) (ms := 0) (T := TX11) (N := 6) (As := [.int (iI (x5)), e_rv B (v135), .int (iI (v141))]) (rest := []) hx hb hml hown hts hp hS hl.size ok142.1 ok142.2.1 ok142.2.2 rfl (by decide) (c11_copyLine l D cA B S S142 (v129) (x5) (v135) (v141) h142) rfl rfl kd11_copyLine (kl1_266) ks11_copyLine kv11_copyLine ki11 kh11_copyLine ⟨Nat.le_of_ble_eq_true rfl, Nat.le_of_ble_eq_true rfl⟩ rfl (by simp [e_rv_cat, e_int_cat, e_long_cat]) ⟨(by show _ ≤ e_n res - e_n S0; omega), (by show _ ≤ e_s res - e_s S0; omega)⟩ dX1_sortLines_142 rfl (fun H locs hp hS => ?_)
        refine e_cells (c' := e_n S142 - e_n S0) (s' := e_s S142 - e_s S0) (by omega) (by omega) ?_
        refine e_iinc (n := 1) (x := x5) (lv' := [(5, .int (iI ((x5 + 1)))), (0, e_rv B (x0)), (2, .int (iI (x2))), (3, e_rv B (x3))]) hx hb dX1_sortLines_145 hl (k := 3) rfl (by decide) rfl (fun ls hl => ?_)
        refine lv_goto (tgt := 115) hx hb dX1_sortLines_148 (by decide) ?_
        exact hk115 hp hS ⟨by omega, by omega⟩ (hl.sub [1, 2, 3, 0] rfl) hsh
set_option maxRecDepth 100000 in
set_option maxHeartbeats 4000000 in
theorem w1_sortLines_b83 {p : Program} {l : Launch} {e : Env} {s : State} {m : MethodId} {args : Array Value} {below : List Frame} {meth : Method} {c : Code} {D : va_G} {cA : Nat → ClassId} {B : Nat} {res : HP} {S0 : HP} (hB0 : s.heap.size = B + e_n S0) (E : e_En p s m args meth c cX1_sortLines RX1 7 none) {ls : Array Slot} {H : Heap} {locs : List Loc} {S : HP} {x0 : Int} {x1 : Int} {x2 : Int} {x3 : Int} {x4 : Int} (hp : e_Pic D cA B S s H) (hS : va_S (e_A B) s.heap H locs) (h0 : e_n S0 ≤ e_n S ∧ e_s S0 ≤ e_s S) (hl : e_lo ls 7 [(0, e_rv B (x0)), (1, .int (iI (x1))), (2, .int (iI (x2))), (3, e_rv B (x3)), (4, .int (iI (x4)))]) (hsh : s1_sortLines_b83 S x0 x1 x2 x3 x4 = some res) : W p l e ({ frames := 3, cells := e_n res - e_n S0, slots := e_s res - e_s S0, locals := 83 } : Room) s m args below meth c H locs (e_n S - e_n S0) (e_s S - e_s S0) (MQ below (e_Qv D cA B res) args s (e_n res - e_n S0) (e_s res - e_s S0) (e_A B)) (F0 m 83 ls []) := by
  obtain ⟨hx, hb, hml, hown, hts, hlk, hrt⟩ := id E
  unfold s1_sortLines_b83 at hsh
  refine lv_iload hx hb dX1_sortLines_83 (hl.at 4 rfl) ?_
  refine e_if_eq (tgt := 151) hx hb dX1_sortLines_85 (by decide) (fun c85 => ?_) (fun c85 => ?_)
  · rw [if_pos c85] at hsh
    exact w1_sortLines_b151 (hB0 := hB0) E hp hS ⟨by omega, by omega⟩ (hl.sub [0, 2] rfl) hsh
  · rw [if_neg c85] at hsh
    refine e_aload_n (B := B) (x := x0) hx hb dX1_sortLines_88 rfl (hl.at 0 rfl) ?_
    obtain ⟨v89, h89, hsh⟩ := Option.bind_eq_some_iff.mp hsh
    refine e_getR (k := 3) hx hb hts in_X1 hown hp h89 rfl (by decide) (by decide) rfl (hts _ kf1_14) rfl dX1_sortLines_89 ?_
    refine e_aload_n (B := B) (x := x0) hx hb dX1_sortLines_92 rfl (hl.at 0 rfl) ?_
    obtain ⟨v93, h93, hsh⟩ := Option.bind_eq_some_iff.mp hsh
    refine e_getR (k := 0) hx hb hts in_X1 hown hp h93 rfl (by decide) (by decide) rfl (hts _ kf1_42) rfl dX1_sortLines_93 ?_
    obtain ⟨S96, h96, hsh⟩ := Option.bind_eq_some_iff.mp hsh
    obtain ⟨hsh, cc96, cd96⟩ := snV_some hsh
    have cd96 : e_n S96 ≤ e_n res ∧ e_s S96 ≤ e_s res := cd96
    have ok96 := ok11_copyOf h96
    refine e_callV (nL := 7) (mc := 0) (ms := 0) (T := TX11) (N := 6) (As := [e_rv B (v93)]) (rest := []) hx hb hml hown hts hp hS hl.size ok96.1 ok96.2.1 ok96.2.2 rfl (by decide) (c11_copyOf l D cA B S S96 (v89) (v93) h96) rfl rfl kd11_copyOf (kl1_262) ks11_copyOf kv11_copyOf ki11 kh11_copyOf ⟨Nat.le_of_ble_eq_true rfl, Nat.le_of_ble_eq_true rfl⟩ rfl (by simp [e_rv_cat, e_int_cat, e_long_cat]) ⟨(by show _ ≤ e_n res - e_n S0; omega), (by show _ ≤ e_s res - e_s S0; omega)⟩ dX1_sortLines_96 rfl (fun H locs hp hS => ?_)
    refine e_cells (c' := e_n S96 - e_n S0) (s' := e_s S96 - e_s S0) (by omega) (by omega) ?_
    refine e_aload_n (B := B) (x := x0) hx hb dX1_sortLines_99 rfl (hl.at 0 rfl) ?_
    obtain ⟨v100, h100, hsh⟩ := Option.bind_eq_some_iff.mp hsh
    refine e_getR (k := 0) hx hb hts in_X1 hown hp h100 rfl (by decide) (by decide) rfl (hts _ kf1_42) rfl dX1_sortLines_100 ?_
    refine lv_iload_n hx hb dX1_sortLines_103 rfl (hl.at 1 rfl) ?_
    refine lv_iload_n hx hb dX1_sortLines_104 rfl (hl.at 2 rfl) ?_
    refine lv_iload_n hx hb dX1_sortLines_105 rfl (hl.at 1 rfl) ?_
    refine e_isub hx hb dX1_sortLines_106 ?_
    refine lv_iconst (v := iI (1)) hx hb dX1_sortLines_107 rfl ?_
    refine e_iadd hx hb dX1_sortLines_108 ?_
    obtain ⟨S109, h109, hsh⟩ := Option.bind_eq_some_iff.mp hsh
    obtain ⟨hsh, cc109, cd109⟩ := snV_some hsh
    have cd109 : e_n S109 ≤ e_n res ∧ e_s S109 ≤ e_s res := cd109
    have ok109 := ok11_renewLines h109
    refine e_callV (nL := 7) (mc := 0) (ms := 0) (T := TX11) (N := 6) (As := [.int (iI (x1)), .int (iI (((x2 - x1) + 1)))]) (rest := []) hx hb hml hown hts hp hS hl.size ok109.1 ok109.2.1 ok109.2.2 rfl (by decide) (c11_renewLines l D cA B S96 S109 (v100) (x1) (((x2 - x1) + 1)) h109) rfl rfl kd11_renewLines (kl1_273) ks11_renewLines kv11_renewLines ki11 kh11_renewLines ⟨Nat.le_of_ble_eq_true rfl, Nat.le_of_ble_eq_true rfl⟩ rfl (by simp [e_rv_cat, e_int_cat, e_long_cat]) ⟨(by show _ ≤ e_n res - e_n S0; omega), (by show _ ≤ e_s res - e_s S0; omega)⟩ dX1_sortLines_109 rfl (fun H locs hp hS => ?_)
    refine e_cells (c' := e_n S109 - e_n S0) (s' := e_s S109 - e_s S0) (by omega) (by omega) ?_
    refine lv_iload_n hx hb dX1_sortLines_112 rfl (hl.at 1 rfl) ?_
    refine e_istore (lv' := [(5, .int (iI (x1))), (0, e_rv B (x0)), (1, .int (iI (x1))), (2, .int (iI (x2))), (3, e_rv B (x3)), (4, .int (iI (x4)))]) hx hb dX1_sortLines_113 hl (by decide) rfl (fun ls hl => ?_)
    exact w1_sortLines_l115 (hB0 := hB0) E 1000000 hp hS ⟨by omega, by omega⟩ (hl.sub [1, 3, 4, 0] rfl) hsh
set_option maxRecDepth 100000 in
set_option maxHeartbeats 4000000 in
theorem w1_sortLines_b71 {p : Program} {l : Launch} {e : Env} {s : State} {m : MethodId} {args : Array Value} {below : List Frame} {meth : Method} {c : Code} {D : va_G} {cA : Nat → ClassId} {B : Nat} {res : HP} {S0 : HP} (hB0 : s.heap.size = B + e_n S0) {k11 : HP → Int → Int → Int → Int → Int → Int → Option (HP)} (hk11 : ∀ {ls : Array Slot} {H : Heap} {locs : List Loc} {S : HP} {x0 : Int} {x1 : Int} {x2 : Int} {x3 : Int} {x4 : Int} {x5 : Int} (hp : e_Pic D cA B S s H) (hS : va_S (e_A B) s.heap H locs) (h0 : e_n S0 ≤ e_n S ∧ e_s S0 ≤ e_s S) (hl : e_lo ls 7 [(0, e_rv B (x0)), (1, .int (iI (x1))), (2, .int (iI (x2))), (3, e_rv B (x3)), (4, .int (iI (x4))), (5, .int (iI (x5)))]) (hsh : k11 S x0 x1 x2 x3 x4 x5 = some res), W p l e ({ frames := 3, cells := e_n res - e_n S0, slots := e_s res - e_s S0, locals := 83 } : Room) s m args below meth c H locs (e_n S - e_n S0) (e_s S - e_s S0) (MQ below (e_Qv D cA B res) args s (e_n res - e_n S0) (e_s res - e_s S0) (e_A B)) (F0 m 11 ls [])) (E : e_En p s m args meth c cX1_sortLines RX1 7 none) {ls : Array Slot} {H : Heap} {locs : List Loc} {S : HP} {x0 : Int} {x1 : Int} {x2 : Int} {x3 : Int} {x4 : Int} {x5 : Int} {x6 : Int} (hp : e_Pic D cA B S s H) (hS : va_S (e_A B) s.heap H locs) (h0 : e_n S0 ≤ e_n S ∧ e_s S0 ≤ e_s S) (hl : e_lo ls 7 [(0, e_rv B (x0)), (1, .int (iI (x1))), (2, .int (iI (x2))), (3, e_rv B (x3)), (4, .int (iI (x4))), (5, .int (iI (x5))), (6, .int (iI (x6)))]) (hsh : s1_sortLines_b71 k11 S x0 x1 x2 x3 x4 x5 x6 = some res) : W p l e ({ frames := 3, cells := e_n res - e_n S0, slots := e_s res - e_s S0, locals := 83 } : Room) s m args below meth c H locs (e_n S - e_n S0) (e_s S - e_s S0) (MQ below (e_Qv D cA B res) args s (e_n res - e_n S0) (e_s res - e_s S0) (e_A B)) (F0 m 71 ls []) := by
  obtain ⟨hx, hb, hml, hown, hts, hlk, hrt⟩ := id E
  unfold s1_sortLines_b71 at hsh
  refine e_aload_n (B := B) (x := x3) hx hb dX1_sortLines_71 rfl (hl.at 3 rfl) ?_
  refine lv_iload hx hb dX1_sortLines_72 (hl.at 6 rfl) ?_
  refine lv_iload hx hb dX1_sortLines_74 (hl.at 5 rfl) ?_
  obtain ⟨S76, h76, hsh⟩ := Option.bind_eq_some_iff.mp hsh
  refine e_iast hx hb hp hS h76 dX1_sortLines_76 (fun H locs hp hS => ?_)
  have nn := pA_n h76
  refine e_cells (c' := e_n S76 - e_n S0) (s' := e_s S76 - e_s S0) (by omega) (by omega) ?_
  refine e_iinc (n := 1) (x := x5) (lv' := [(5, .int (iI ((x5 + 1)))), (0, e_rv B (x0)), (1, .int (iI (x1))), (2, .int (iI (x2))), (3, e_rv B (x3)), (4, .int (iI (x4))), (6, .int (iI (x6)))]) hx hb dX1_sortLines_77 hl (k := 5) rfl (by decide) rfl (fun ls hl => ?_)
  refine lv_goto (tgt := 11) hx hb dX1_sortLines_80 (by decide) ?_
  exact hk11 hp hS ⟨by omega, by omega⟩ (hl.sub [1, 2, 3, 4, 5, 0] rfl) hsh
set_option maxRecDepth 100000 in
set_option maxHeartbeats 4000000 in
theorem w1_sortLines_l28 {p : Program} {l : Launch} {e : Env} {s : State} {m : MethodId} {args : Array Value} {below : List Frame} {meth : Method} {c : Code} {D : va_G} {cA : Nat → ClassId} {B : Nat} {res : HP} {S0 : HP} (hB0 : s.heap.size = B + e_n S0) {k11 : HP → Int → Int → Int → Int → Int → Int → Option (HP)} (hk11 : ∀ {ls : Array Slot} {H : Heap} {locs : List Loc} {S : HP} {x0 : Int} {x1 : Int} {x2 : Int} {x3 : Int} {x4 : Int} {x5 : Int} (hp : e_Pic D cA B S s H) (hS : va_S (e_A B) s.heap H locs) (h0 : e_n S0 ≤ e_n S ∧ e_s S0 ≤ e_s S) (hl : e_lo ls 7 [(0, e_rv B (x0)), (1, .int (iI (x1))), (2, .int (iI (x2))), (3, e_rv B (x3)), (4, .int (iI (x4))), (5, .int (iI (x5)))]) (hsh : k11 S x0 x1 x2 x3 x4 x5 = some res), W p l e ({ frames := 3, cells := e_n res - e_n S0, slots := e_s res - e_s S0, locals := 83 } : Room) s m args below meth c H locs (e_n S - e_n S0) (e_s S - e_s S0) (MQ below (e_Qv D cA B res) args s (e_n res - e_n S0) (e_s res - e_s S0) (e_A B)) (F0 m 11 ls [])) (E : e_En p s m args meth c cX1_sortLines RX1 7 none) : ∀ (f : Nat) {ls : Array Slot} {H : Heap} {locs : List Loc} {S : HP} {x0 : Int} {x1 : Int} {x2 : Int} {x3 : Int} {x4 : Int} {x5 : Int} {x6 : Int} (hp : e_Pic D cA B S s H) (hS : va_S (e_A B) s.heap H locs) (h0 : e_n S0 ≤ e_n S ∧ e_s S0 ≤ e_s S) (hl : e_lo ls 7 [(0, e_rv B (x0)), (1, .int (iI (x1))), (2, .int (iI (x2))), (3, e_rv B (x3)), (4, .int (iI (x4))), (5, .int (iI (x5))), (6, .int (iI (x6)))]) (hsh : s1_sortLines_l28 k11 f S x0 x1 x2 x3 x4 x5 x6 = some res), W p l e ({ frames := 3, cells := e_n res - e_n S0, slots := e_s res - e_s S0, locals := 83 } : Room) s m args below meth c H locs (e_n S - e_n S0) (e_s S - e_s S0) (MQ below (e_Qv D cA B res) args s (e_n res - e_n S0) (e_s res - e_s S0) (e_A B)) (F0 m 28 ls []) := by
  obtain ⟨hx, hb, hml, hown, hts, hlk, hrt⟩ := id E
  intro f
  induction f with
  | zero => intro ls H locs S x0 x1 x2 x3 x4 x5 x6 hp hS h0 hl hsh; cases hsh
  | succ f ih =>
    intro ls H locs S x0 x1 x2 x3 x4 x5 x6 hp hS h0 hl hsh
    have hk28 : ∀ {ls : Array Slot} {H : Heap} {locs : List Loc} {S : HP} {x0 : Int} {x1 : Int} {x2 : Int} {x3 : Int} {x4 : Int} {x5 : Int} {x6 : Int} (hp : e_Pic D cA B S s H) (hS : va_S (e_A B) s.heap H locs) (h0 : e_n S0 ≤ e_n S ∧ e_s S0 ≤ e_s S) (hl : e_lo ls 7 [(0, e_rv B (x0)), (1, .int (iI (x1))), (2, .int (iI (x2))), (3, e_rv B (x3)), (4, .int (iI (x4))), (5, .int (iI (x5))), (6, .int (iI (x6)))]) (hsh : (s1_sortLines_l28 k11 f) S x0 x1 x2 x3 x4 x5 x6 = some res), W p l e ({ frames := 3, cells := e_n res - e_n S0, slots := e_s res - e_s S0, locals := 83 } : Room) s m args below meth c H locs (e_n S - e_n S0) (e_s S - e_s S0) (MQ below (e_Qv D cA B res) args s (e_n res - e_n S0) (e_s res - e_s S0) (e_A B)) (F0 m 28 ls []) := ih
    generalize hkk : s1_sortLines_l28 k11 f = k28 at hk28
    rw [s1_sortLines_l28] at hsh
    rw [hkk] at hsh
    try dsimp only at hsh
    refine lv_iload hx hb dX1_sortLines_28 (hl.at 6 rfl) ?_
    refine lv_iload_n hx hb dX1_sortLines_30 rfl (hl.at 1 rfl) ?_
    refine e_icmp_le (tgt := 71) hx hb dX1_sortLines_31 (by decide) (fun c31 => ?_) (fun c31 => ?_)
    · rw [if_pos c31] at hsh
      exact w1_sortLines_b71 (hk11 := hk11) (hB0 := hB0) E hp hS ⟨by omega, by omega⟩ (hl.sub [0, 1, 2, 3, 4, 5, 6] rfl) hsh
    · rw [if_neg c31] at hsh
      refine e_aload_n (B := B) (x := x0) hx hb dX1_sortLines_34 rfl (hl.at 0 rfl) ?_
      obtain ⟨v35, h35, hsh⟩ := Option.bind_eq_some_iff.mp hsh
      refine e_getR (k := 0) hx hb hts in_X1 hown hp h35 rfl (by decide) (by decide) rfl (hts _ kf1_42) rfl dX1_sortLines_35 ?_
      refine e_aload_n (B := B) (x := x3) hx hb dX1_sortLines_38 rfl (hl.at 3 rfl) ?_
      refine lv_iload hx hb dX1_sortLines_39 (hl.at 6 rfl) ?_
      refine lv_iconst (v := iI (1)) hx hb dX1_sortLines_41 rfl ?_
      refine e_isub hx hb dX1_sortLines_42 ?_
      obtain ⟨v43, h43, hsh⟩ := Option.bind_eq_some_iff.mp hsh
      refine e_iald hx hb hp h43 dX1_sortLines_43 ?_
      refine lv_iload hx hb dX1_sortLines_44 (hl.at 5 rfl) ?_
      obtain ⟨⟨v46, S46⟩, h46, hsh⟩ := Option.bind_eq_some_iff.mp hsh
      have hsh : _ = _ := hsh
      try dsimp only at hsh
      obtain ⟨hsh, cc46, cd46⟩ := snV_some hsh
      have cd46 : e_n S46 ≤ e_n res ∧ e_s S46 ≤ e_s res := cd46
      have ok46 := ok11_compareLines h46
      refine e_callI (nL := 7) (mc := 0) (ms := 0) (T := TX11) (N := 6) (As := [.int (iI (v43)), .int (iI (x5))]) (rest := []) hx hb hml hown hts hp hS hl.size ok46.1 ok46.2.1 ok46.2.2 rfl (by decide) (c11_compareLines l D cA B S S46 (v35) (v43) (x5) v46 h46) rfl rfl kd11_compareLines (kl1_270) ks11_compareLines kv11_compareLines ki11 kh11_compareLines ⟨Nat.le_of_ble_eq_true rfl, Nat.le_of_ble_eq_true rfl⟩ rfl (by simp [e_rv_cat, e_int_cat, e_long_cat]) ⟨(by show _ ≤ e_n res - e_n S0; omega), (by show _ ≤ e_s res - e_s S0; omega)⟩ dX1_sortLines_46 rfl (fun H locs hp hS => ?_)
      refine e_cells (c' := e_n S46 - e_n S0) (s' := e_s S46 - e_s S0) (by omega) (by omega) ?_
      refine e_if_le (tgt := 71) hx hb dX1_sortLines_49 (by decide) (fun c49 => ?_) (fun c49 => ?_)
      · rw [if_pos c49] at hsh
        exact w1_sortLines_b71 (hk11 := hk11) (hB0 := hB0) E hp hS ⟨by omega, by omega⟩ (hl.sub [0, 1, 2, 3, 4, 5, 6] rfl) hsh
      · rw [if_neg c49] at hsh
        refine e_aload_n (B := B) (x := x3) hx hb dX1_sortLines_52 rfl (hl.at 3 rfl) ?_
        refine lv_iload hx hb dX1_sortLines_53 (hl.at 6 rfl) ?_
        refine e_aload_n (B := B) (x := x3) hx hb dX1_sortLines_55 rfl (hl.at 3 rfl) ?_
        refine lv_iload hx hb dX1_sortLines_56 (hl.at 6 rfl) ?_
        refine lv_iconst (v := iI (1)) hx hb dX1_sortLines_58 rfl ?_
        refine e_isub hx hb dX1_sortLines_59 ?_
        obtain ⟨v60, h60, hsh⟩ := Option.bind_eq_some_iff.mp hsh
        refine e_iald hx hb hp h60 dX1_sortLines_60 ?_
        obtain ⟨S61, h61, hsh⟩ := Option.bind_eq_some_iff.mp hsh
        refine e_iast hx hb hp hS h61 dX1_sortLines_61 (fun H locs hp hS => ?_)
        have nn := pA_n h61
        refine e_cells (c' := e_n S61 - e_n S0) (s' := e_s S61 - e_s S0) (by omega) (by omega) ?_
        refine e_iinc (n := (-1)) (x := x6) (lv' := [(6, .int (iI ((x6 + (-1))))), (0, e_rv B (x0)), (1, .int (iI (x1))), (2, .int (iI (x2))), (3, e_rv B (x3)), (4, .int (iI (x4))), (5, .int (iI (x5)))]) hx hb dX1_sortLines_62 hl (k := 6) rfl (by decide) rfl (fun ls hl => ?_)
        refine lv_iconst (v := iI (1)) hx hb dX1_sortLines_65 rfl ?_
        refine e_istore (lv' := [(4, .int (iI (1))), (6, .int (iI ((x6 + (-1))))), (0, e_rv B (x0)), (1, .int (iI (x1))), (2, .int (iI (x2))), (3, e_rv B (x3)), (5, .int (iI (x5)))]) hx hb dX1_sortLines_66 hl (by decide) rfl (fun ls hl => ?_)
        refine lv_goto (tgt := 28) hx hb dX1_sortLines_68 (by decide) ?_
        exact hk28 hp hS ⟨by omega, by omega⟩ (hl.sub [2, 3, 4, 5, 0, 6, 1] rfl) hsh
set_option maxRecDepth 100000 in
set_option maxHeartbeats 4000000 in
theorem w1_sortLines_l11 {p : Program} {l : Launch} {e : Env} {s : State} {m : MethodId} {args : Array Value} {below : List Frame} {meth : Method} {c : Code} {D : va_G} {cA : Nat → ClassId} {B : Nat} {res : HP} {S0 : HP} (hB0 : s.heap.size = B + e_n S0) (E : e_En p s m args meth c cX1_sortLines RX1 7 none) : ∀ (f : Nat) {ls : Array Slot} {H : Heap} {locs : List Loc} {S : HP} {x0 : Int} {x1 : Int} {x2 : Int} {x3 : Int} {x4 : Int} {x5 : Int} (hp : e_Pic D cA B S s H) (hS : va_S (e_A B) s.heap H locs) (h0 : e_n S0 ≤ e_n S ∧ e_s S0 ≤ e_s S) (hl : e_lo ls 7 [(0, e_rv B (x0)), (1, .int (iI (x1))), (2, .int (iI (x2))), (3, e_rv B (x3)), (4, .int (iI (x4))), (5, .int (iI (x5)))]) (hsh : s1_sortLines_l11 f S x0 x1 x2 x3 x4 x5 = some res), W p l e ({ frames := 3, cells := e_n res - e_n S0, slots := e_s res - e_s S0, locals := 83 } : Room) s m args below meth c H locs (e_n S - e_n S0) (e_s S - e_s S0) (MQ below (e_Qv D cA B res) args s (e_n res - e_n S0) (e_s res - e_s S0) (e_A B)) (F0 m 11 ls []) := by
  obtain ⟨hx, hb, hml, hown, hts, hlk, hrt⟩ := id E
  intro f
  induction f with
  | zero => intro ls H locs S x0 x1 x2 x3 x4 x5 hp hS h0 hl hsh; cases hsh
  | succ f ih =>
    intro ls H locs S x0 x1 x2 x3 x4 x5 hp hS h0 hl hsh
    have hk11 : ∀ {ls : Array Slot} {H : Heap} {locs : List Loc} {S : HP} {x0 : Int} {x1 : Int} {x2 : Int} {x3 : Int} {x4 : Int} {x5 : Int} (hp : e_Pic D cA B S s H) (hS : va_S (e_A B) s.heap H locs) (h0 : e_n S0 ≤ e_n S ∧ e_s S0 ≤ e_s S) (hl : e_lo ls 7 [(0, e_rv B (x0)), (1, .int (iI (x1))), (2, .int (iI (x2))), (3, e_rv B (x3)), (4, .int (iI (x4))), (5, .int (iI (x5)))]) (hsh : (s1_sortLines_l11 f) S x0 x1 x2 x3 x4 x5 = some res), W p l e ({ frames := 3, cells := e_n res - e_n S0, slots := e_s res - e_s S0, locals := 83 } : Room) s m args below meth c H locs (e_n S - e_n S0) (e_s S - e_s S0) (MQ below (e_Qv D cA B res) args s (e_n res - e_n S0) (e_s res - e_s S0) (e_A B)) (F0 m 11 ls []) := ih
    generalize hkk : s1_sortLines_l11 f = k11 at hk11
    rw [s1_sortLines_l11] at hsh
    rw [hkk] at hsh
    try dsimp only at hsh
    refine lv_iload hx hb dX1_sortLines_11 (hl.at 5 rfl) ?_
    refine lv_iload_n hx hb dX1_sortLines_13 rfl (hl.at 2 rfl) ?_
    refine e_icmp_gt (tgt := 83) hx hb dX1_sortLines_14 (by decide) (fun c14 => ?_) (fun c14 => ?_)
    · rw [if_pos c14] at hsh
      exact w1_sortLines_b83 (hB0 := hB0) E hp hS ⟨by omega, by omega⟩ (hl.sub [0, 1, 2, 3, 4] rfl) hsh
    · rw [if_neg c14] at hsh
      refine lv_iload hx hb dX1_sortLines_17 (hl.at 5 rfl) ?_
      refine lv_bipush (v := iI (40)) hx hb dX1_sortLines_19 (by decide +kernel) ?_
      refine e_icmp_ge (tgt := 83) hx hb dX1_sortLines_21 (by decide) (fun c21 => ?_) (fun c21 => ?_)
      · rw [if_pos c21] at hsh
        exact w1_sortLines_b83 (hB0 := hB0) E hp hS ⟨by omega, by omega⟩ (hl.sub [0, 1, 2, 3, 4] rfl) hsh
      · rw [if_neg c21] at hsh
        refine lv_iload hx hb dX1_sortLines_24 (hl.at 5 rfl) ?_
        refine e_istore (lv' := [(6, .int (iI (x5))), (0, e_rv B (x0)), (1, .int (iI (x1))), (2, .int (iI (x2))), (3, e_rv B (x3)), (4, .int (iI (x4))), (5, .int (iI (x5)))]) hx hb dX1_sortLines_26 hl (by decide) rfl (fun ls hl => ?_)
        exact w1_sortLines_l28 (hk11 := hk11) (hB0 := hB0) E 1000000 hp hS ⟨by omega, by omega⟩ (hl.sub [1, 2, 3, 4, 5, 6, 0] rfl) hsh
set_option maxRecDepth 100000 in
set_option maxHeartbeats 4000000 in
theorem c1_sortLines (l : Launch) (D : va_G) (cA : Nat → ClassId) (B : Nat) (S S' : HP) (x0 : Int) (x1 : Int) (x2 : Int) (hsh : s1_sortLines S x0 x1 x2 = some S') : Met l yX1_sortLines (e_wu yX1_sortLines cX1_sortLines 7 none) ({ frames := 3, cells := e_n S' - e_n S, slots := e_s S' - e_s S, locals := 83 } : Room) (va_Pc [e_rv B (x0), .int (iI (x1)), .int (iI (x2))] (fun U => e_PU D cA B S U)) (e_Qv D cA B S') (e_n S' - e_n S) (e_s S' - e_s S) (e_A B) := by
  refine Met.ofW (cc := cX1_sortLines) (maxL := 7) (ret := none) (by decide +kernel) rfl ?_
  intro p e s m args below meth c s₁ Bd hml hv
  obtain ⟨rfl, hp⟩ := hv
  have hp : e_Pic D cA B S s s.heap := hp
  have hx := Bd.exec
  have hb := Bd.bytes
  have hrt := Bd.returns
  have hlk := Bd.notSynchronized
  have hown : s.vm.findClass RX1 = some m.cls := findClass_of_methodNamed Bd.named
  have hts : ∀ w ∈ e_tb, w.before ([e_rv B (x0), .int (iI (x1)), .int (iI (x2))] : List Value).toArray s = true := fun w h => atoms_spec (ws := (e_wu yX1_sortLines cX1_sortLines 7 none)) Bd.pre w (List.mem_cons_of_mem _ h)
  have E : e_En p s m ([e_rv B (x0), .int (iI (x1)), .int (iI (x2))] : List Value).toArray meth c cX1_sortLines RX1 7 none := ⟨hx, hb, hml, hown, hts, hlk, hrt⟩
  have hS : va_S (e_A B) s.heap s.heap [] := va_S.rf
  have hB0 : s.heap.size = B + e_n S := hp.2.2.1
  refine e_cells (c' := e_n S - e_n S) (s' := e_s S - e_s S) (Nat.sub_self _).symm (Nat.sub_self _).symm ?_
  have hl := e_entry (vs := [e_rv B (x0), .int (iI (x1)), .int (iI (x2))]) (n := 7) (Nat.le_of_ble_eq_true rfl) (e_cc (e_rv_cat _ _) (e_cc rfl (e_cc rfl e_cn)))
  rw [lg_entry_eq]
  generalize (lg_sl [e_rv B (x0), .int (iI (x1)), .int (iI (x2))] ++ List.replicate (7 - (lg_sl [e_rv B (x0), .int (iI (x1)), .int (iI (x2))]).length) Slot.unset).toArray = ls at hl ⊢
  generalize ([e_rv B (x0), .int (iI (x1)), .int (iI (x2))] : List Value).toArray = args at hts E ⊢
  have hl : e_lo ls 7 [(0, e_rv B (x0)), (1, .int (iI (x1))), (2, .int (iI (x2)))] := hl
  have hsh := (gd_some hsh).2
  refine lv_bipush (v := iI (40)) hx hb dX1_sortLines_0 (by decide +kernel) ?_
  obtain ⟨S2, h2, hsh⟩ := Option.bind_eq_some_iff.mp hsh
  obtain ⟨hsh, cc2⟩ := ckV_some hsh
  have cc2 : e_n S2 ≤ e_n S' ∧ e_s S2 ≤ e_s S' := cc2
  have nn := nA_n h2
  refine e_newa (t := 101) (t0 := 1) (atype := .int) (ty := .int) hx hb hts kA_int rfl hp hS h2 (by decide) rfl (fun h => h) (fun _ _ => rfl) (by decide) (by show _ ≤ e_n S' - e_n S; omega) (by show _ ≤ e_s S' - e_s S; omega) dX1_sortLines_2 (fun H hp hS => ?_)
  refine e_cells (c' := e_n S2 - e_n S) (s' := e_s S2 - e_s S) (by omega) (by omega) ?_
  refine e_astore_n (lv' := [(3, e_rv B (((e_n S : Nat) : Int))), (0, e_rv B (x0)), (1, .int (iI (x1))), (2, .int (iI (x2)))]) hx hb dX1_sortLines_4 rfl hl (by decide) rfl (fun ls hl => ?_)
  refine lv_iconst (v := iI (0)) hx hb dX1_sortLines_5 rfl ?_
  refine e_istore (lv' := [(4, .int (iI (0))), (3, e_rv B (((e_n S : Nat) : Int))), (0, e_rv B (x0)), (1, .int (iI (x1))), (2, .int (iI (x2)))]) hx hb dX1_sortLines_6 hl (by decide) rfl (fun ls hl => ?_)
  refine lv_iload_n hx hb dX1_sortLines_8 rfl (hl.at 3 rfl) ?_
  refine e_istore (lv' := [(5, .int (iI (x1))), (4, .int (iI (0))), (3, e_rv B (((e_n S : Nat) : Int))), (0, e_rv B (x0)), (1, .int (iI (x1))), (2, .int (iI (x2)))]) hx hb dX1_sortLines_9 hl (by decide) rfl (fun ls hl => ?_)
  exact w1_sortLines_l11 (hB0 := hB0) E 1000000 hp hS ⟨by omega, by omega⟩ (hl.sub [3, 4, 5, 2, 1, 0] rfl) hsh
theorem ok5_finish {S : HP} {x0 : Int} {r : HP} (h : s5_finish S x0 = some r) : 0 ≤ x0 ∧ x0.toNat < e_n S ∧ e_g S x0.toNat = 5 := (gd_some h).1
set_option maxRecDepth 100000 in
set_option maxHeartbeats 4000000 in
theorem w5_finish_b56 {p : Program} {l : Launch} {e : Env} {s : State} {m : MethodId} {args : Array Value} {below : List Frame} {meth : Method} {c : Code} {D : va_G} {cA : Nat → ClassId} {B : Nat} {res : HP} {S0 : HP} (hB0 : s.heap.size = B + e_n S0) (E : e_En p s m args meth c cX5_finish RX5 2 none) {ls : Array Slot} {H : Heap} {locs : List Loc} {S : HP} {x0 : Int} (hp : e_Pic D cA B S s H) (hS : va_S (e_A B) s.heap H locs) (h0 : e_n S0 ≤ e_n S ∧ e_s S0 ≤ e_s S) (hl : e_lo ls 2 [(0, e_rv B (x0))]) (hsh : s5_finish_b56 S x0 = some res) : W p l e ({ frames := 3, cells := e_n res - e_n S0, slots := e_s res - e_s S0, locals := 104 } : Room) s m args below meth c H locs (e_n S - e_n S0) (e_s S - e_s S0) (MQ below (e_Qv D cA B res) args s (e_n res - e_n S0) (e_s res - e_s S0) (e_A B)) (F0 m 56 ls []) := by
  obtain ⟨hx, hb, hml, hown, hts, hlk, hrt⟩ := id E
  unfold s5_finish_b56 at hsh
  refine e_aload_n (B := B) (x := x0) hx hb dX5_finish_56 rfl (hl.at 0 rfl) ?_
  obtain ⟨v57, h57, hsh⟩ := Option.bind_eq_some_iff.mp hsh
  refine e_getR (k := 8) hx hb hts in_X5 hown hp h57 rfl (by decide) (by decide) rfl (hts _ kf5_78) rfl dX5_finish_57 ?_
  obtain ⟨S60, h60, hsh⟩ := Option.bind_eq_some_iff.mp hsh
  obtain ⟨hsh, cc60, cd60⟩ := snV_some hsh
  have cd60 : e_n S60 ≤ e_n res ∧ e_s S60 ≤ e_s res := cd60
  have ok60 := ok0_clear h60
  refine e_callV (nL := 2) (mc := 0) (ms := 0) (T := TX0) (N := 17) (As := []) (rest := []) hx hb hml hown hts hp hS hl.size ok60.1 ok60.2.1 ok60.2.2 rfl (by decide) (c0_clear l D cA B S S60 (v57) h60) rfl rfl kd0_clear (kl5_123) ks0_clear kv0_clear ki0 kh0_clear ⟨Nat.le_of_ble_eq_true rfl, Nat.le_of_ble_eq_true rfl⟩ rfl (by simp [e_rv_cat, e_int_cat, e_long_cat]) ⟨(by show _ ≤ e_n res - e_n S0; omega), (by show _ ≤ e_s res - e_s S0; omega)⟩ dX5_finish_60 rfl (fun H locs hp hS => ?_)
  refine e_cells (c' := e_n S60 - e_n S0) (s' := e_s S60 - e_s S0) (by omega) (by omega) ?_
  cases hsh
  exact e_vret hx hb hrt hlk hp hS dX5_finish_63
set_option maxRecDepth 100000 in
set_option maxHeartbeats 4000000 in
theorem w5_finish_b30 {p : Program} {l : Launch} {e : Env} {s : State} {m : MethodId} {args : Array Value} {below : List Frame} {meth : Method} {c : Code} {D : va_G} {cA : Nat → ClassId} {B : Nat} {res : HP} {S0 : HP} (hB0 : s.heap.size = B + e_n S0) (E : e_En p s m args meth c cX5_finish RX5 2 none) {ls : Array Slot} {H : Heap} {locs : List Loc} {S : HP} {x0 : Int} {y0 : Int} (hp : e_Pic D cA B S s H) (hS : va_S (e_A B) s.heap H locs) (h0 : e_n S0 ≤ e_n S ∧ e_s S0 ≤ e_s S) (hl : e_lo ls 2 [(0, e_rv B (x0))]) (hsh : s5_finish_b30 S x0 y0 = some res) : W p l e ({ frames := 3, cells := e_n res - e_n S0, slots := e_s res - e_s S0, locals := 104 } : Room) s m args below meth c H locs (e_n S - e_n S0) (e_s S - e_s S0) (MQ below (e_Qv D cA B res) args s (e_n res - e_n S0) (e_s res - e_s S0) (e_A B)) (F0 m 30 ls [.int (iI (y0))]) := by
  obtain ⟨hx, hb, hml, hown, hts, hlk, hrt⟩ := id E
  unfold s5_finish_b30 at hsh
  refine e_istore_n (lv' := [(1, .int (iI (y0))), (0, e_rv B (x0))]) hx hb dX5_finish_30 rfl hl (by decide) rfl (fun ls hl => ?_)
  refine e_aload_n (B := B) (x := x0) hx hb dX5_finish_31 rfl (hl.at 1 rfl) ?_
  obtain ⟨v32, h32, hsh⟩ := Option.bind_eq_some_iff.mp hsh
  refine e_getR (k := 8) hx hb hts in_X5 hown hp h32 rfl (by decide) (by decide) rfl (hts _ kf5_78) rfl dX5_finish_32 ?_
  obtain ⟨⟨v35, S35⟩, h35, hsh⟩ := Option.bind_eq_some_iff.mp hsh
  have hsh : _ = _ := hsh
  try dsimp only at hsh
  obtain ⟨hsh, cc35, cd35⟩ := snV_some hsh
  have cd35 : e_n S35 ≤ e_n res ∧ e_s S35 ≤ e_s res := cd35
  have ok35 := ok0_canBeDoneOnceMore h35
  refine e_callI (nL := 2) (mc := 0) (ms := 0) (T := TX0) (N := 17) (As := []) (rest := []) hx hb hml hown hts hp hS hl.size ok35.1 ok35.2.1 ok35.2.2 rfl (by decide) (c0_canBeDoneOnceMore l D cA B S S35 (v32) v35 h35) rfl rfl kd0_canBeDoneOnceMore (kl5_351) ks0_canBeDoneOnceMore kv0_canBeDoneOnceMore ki0 kh0_canBeDoneOnceMore ⟨Nat.le_of_ble_eq_true rfl, Nat.le_of_ble_eq_true rfl⟩ rfl (by simp [e_rv_cat, e_int_cat, e_long_cat]) ⟨(by show _ ≤ e_n res - e_n S0; omega), (by show _ ≤ e_s res - e_s S0; omega)⟩ dX5_finish_35 rfl (fun H locs hp hS => ?_)
  refine e_cells (c' := e_n S35 - e_n S0) (s' := e_s S35 - e_s S0) (by omega) (by omega) ?_
  refine e_if_eq (tgt := 56) hx hb dX5_finish_38 (by decide) (fun c38 => ?_) (fun c38 => ?_)
  · rw [if_pos c38] at hsh
    exact w5_finish_b56 (hB0 := hB0) E hp hS ⟨by omega, by omega⟩ (hl.sub [1] rfl) hsh
  · rw [if_neg c38] at hsh
    refine lv_iload_n hx hb dX5_finish_41 rfl (hl.at 0 rfl) ?_
    refine e_if_eq (tgt := 56) hx hb dX5_finish_42 (by decide) (fun c42 => ?_) (fun c42 => ?_)
    · rw [if_pos c42] at hsh
      exact w5_finish_b56 (hB0 := hB0) E hp hS ⟨by omega, by omega⟩ (hl.sub [1] rfl) hsh
    · rw [if_neg c42] at hsh
      refine e_aload_n (B := B) (x := x0) hx hb dX5_finish_45 rfl (hl.at 1 rfl) ?_
      obtain ⟨v46, h46, hsh⟩ := Option.bind_eq_some_iff.mp hsh
      refine e_getR (k := 9) hx hb hts in_X5 hown hp h46 rfl (by decide) (by decide) rfl (hts _ kf5_82) rfl dX5_finish_46 ?_
      refine e_aload_n (B := B) (x := x0) hx hb dX5_finish_49 rfl (hl.at 1 rfl) ?_
      obtain ⟨v50, h50, hsh⟩ := Option.bind_eq_some_iff.mp hsh
      refine e_getR (k := 8) hx hb hts in_X5 hown hp h50 rfl (by decide) (by decide) rfl (hts _ kf5_78) rfl dX5_finish_50 ?_
      obtain ⟨S53, h53, hsh⟩ := Option.bind_eq_some_iff.mp hsh
      obtain ⟨hsh, cc53, cd53⟩ := smV_some hsh
      have cd53 : e_n S53 ≤ e_n res ∧ e_s S53 ≤ e_s res := cd53
      have ok53 := ok0_copyOf h53
      refine e_callV (nL := 2) (mc := e_n S53 - e_n S35) (ms := e_s S53 - e_s S35) (T := TX0) (N := 17) (As := [e_rv B (v50)]) (rest := []) hx hb hml hown hts hp hS hl.size ok53.1 ok53.2.1 ok53.2.2 rfl (by decide) (c0_copyOf l D cA B S35 S53 (v46) (v50) h53) rfl rfl kd0_copyOf (kl5_354) ks0_copyOf kv0_copyOf ki0 kh0_copyOf ⟨Nat.le_of_ble_eq_true rfl, Nat.le_of_ble_eq_true rfl⟩ rfl (by simp [e_rv_cat, e_int_cat, e_long_cat]) ⟨(by show _ ≤ e_n res - e_n S0; omega), (by show _ ≤ e_s res - e_s S0; omega)⟩ dX5_finish_53 rfl (fun H locs hp hS => ?_)
      refine e_cells (c' := e_n S53 - e_n S0) (s' := e_s S53 - e_s S0) (by omega) (by omega) ?_
      exact w5_finish_b56 (hB0 := hB0) E hp hS ⟨by omega, by omega⟩ (hl.sub [1] rfl) hsh
set_option maxRecDepth 100000 in
set_option maxHeartbeats 4000000 in
theorem w5_finish_b25 {p : Program} {l : Launch} {e : Env} {s : State} {m : MethodId} {args : Array Value} {below : List Frame} {meth : Method} {c : Code} {D : va_G} {cA : Nat → ClassId} {B : Nat} {res : HP} {S0 : HP} (hB0 : s.heap.size = B + e_n S0) (E : e_En p s m args meth c cX5_finish RX5 2 none) {ls : Array Slot} {H : Heap} {locs : List Loc} {S : HP} {x0 : Int} (hp : e_Pic D cA B S s H) (hS : va_S (e_A B) s.heap H locs) (h0 : e_n S0 ≤ e_n S ∧ e_s S0 ≤ e_s S) (hl : e_lo ls 2 [(0, e_rv B (x0))]) (hsh : s5_finish_b25 S x0 = some res) : W p l e ({ frames := 3, cells := e_n res - e_n S0, slots := e_s res - e_s S0, locals := 104 } : Room) s m args below meth c H locs (e_n S - e_n S0) (e_s S - e_s S0) (MQ below (e_Qv D cA B res) args s (e_n res - e_n S0) (e_s res - e_s S0) (e_A B)) (F0 m 25 ls []) := by
  obtain ⟨hx, hb, hml, hown, hts, hlk, hrt⟩ := id E
  unfold s5_finish_b25 at hsh
  refine lv_iconst (v := iI (1)) hx hb dX5_finish_25 rfl ?_
  refine lv_goto (tgt := 30) hx hb dX5_finish_26 (by decide) ?_
  exact w5_finish_b30 (hB0 := hB0) E hp hS ⟨by omega, by omega⟩ (hl.sub [0] rfl) hsh
set_option maxRecDepth 100000 in
set_option maxHeartbeats 4000000 in
theorem c5_finish (l : Launch) (D : va_G) (cA : Nat → ClassId) (B : Nat) (S S' : HP) (x0 : Int) (hsh : s5_finish S x0 = some S') : Met l yX5_finish (e_wu yX5_finish cX5_finish 2 none) ({ frames := 3, cells := e_n S' - e_n S, slots := e_s S' - e_s S, locals := 104 } : Room) (va_Pc [e_rv B (x0)] (fun U => e_PU D cA B S U)) (e_Qv D cA B S') (e_n S' - e_n S) (e_s S' - e_s S) (e_A B) := by
  refine Met.ofW (cc := cX5_finish) (maxL := 2) (ret := none) (by decide +kernel) rfl ?_
  intro p e s m args below meth c s₁ Bd hml hv
  obtain ⟨rfl, hp⟩ := hv
  have hp : e_Pic D cA B S s s.heap := hp
  have hx := Bd.exec
  have hb := Bd.bytes
  have hrt := Bd.returns
  have hlk := Bd.notSynchronized
  have hown : s.vm.findClass RX5 = some m.cls := findClass_of_methodNamed Bd.named
  have hts : ∀ w ∈ e_tb, w.before ([e_rv B (x0)] : List Value).toArray s = true := fun w h => atoms_spec (ws := (e_wu yX5_finish cX5_finish 2 none)) Bd.pre w (List.mem_cons_of_mem _ h)
  have E : e_En p s m ([e_rv B (x0)] : List Value).toArray meth c cX5_finish RX5 2 none := ⟨hx, hb, hml, hown, hts, hlk, hrt⟩
  have hS : va_S (e_A B) s.heap s.heap [] := va_S.rf
  have hB0 : s.heap.size = B + e_n S := hp.2.2.1
  refine e_cells (c' := e_n S - e_n S) (s' := e_s S - e_s S) (Nat.sub_self _).symm (Nat.sub_self _).symm ?_
  have hl := e_entry (vs := [e_rv B (x0)]) (n := 2) (Nat.le_of_ble_eq_true rfl) (e_cc (e_rv_cat _ _) e_cn)
  rw [lg_entry_eq]
  generalize (lg_sl [e_rv B (x0)] ++ List.replicate (2 - (lg_sl [e_rv B (x0)]).length) Slot.unset).toArray = ls at hl ⊢
  generalize ([e_rv B (x0)] : List Value).toArray = args at hts E ⊢
  have hl : e_lo ls 2 [(0, e_rv B (x0))] := hl
  have hsh := (gd_some hsh).2
  refine e_aload_n (B := B) (x := x0) hx hb dX5_finish_0 rfl (hl.at 0 rfl) ?_
  obtain ⟨v1, h1, hsh⟩ := Option.bind_eq_some_iff.mp hsh
  refine e_getR (k := 7) hx hb hts in_X5 hown hp h1 rfl (by decide) (by decide) rfl (hts _ kf5_71) rfl dX5_finish_1 ?_
  refine lv_iconst (v := iI (1)) hx hb dX5_finish_4 rfl ?_
  obtain ⟨⟨v5, S5⟩, h5, hsh⟩ := Option.bind_eq_some_iff.mp hsh
  have hsh : _ = _ := hsh
  try dsimp only at hsh
  obtain ⟨hsh, cc5, cd5⟩ := snV_some hsh
  have cd5 : e_n S5 ≤ e_n S' ∧ e_s S5 ≤ e_s S' := cd5
  have ok5 := ok7_isOn h5
  refine e_callI (nL := 2) (mc := 0) (ms := 0) (T := TX7) (N := 10) (As := [.int (iI (1))]) (rest := []) hx hb hml hown hts hp hS hl.size ok5.1 ok5.2.1 ok5.2.2 rfl (by decide) (c7_isOn l D cA B S S5 (v1) (1) v5 h5) rfl rfl kd7_isOn (kl5_165) ks7_isOn kv7_isOn ki7 kh7_isOn ⟨Nat.le_of_ble_eq_true rfl, Nat.le_of_ble_eq_true rfl⟩ rfl (by simp [e_rv_cat, e_int_cat, e_long_cat]) ⟨(by show _ ≤ e_n S' - e_n S; omega), (by show _ ≤ e_s S' - e_s S; omega)⟩ dX5_finish_5 rfl (fun H locs hp hS => ?_)
  refine e_cells (c' := e_n S5 - e_n S) (s' := e_s S5 - e_s S) (by omega) (by omega) ?_
  refine e_if_ne (tgt := 25) hx hb dX5_finish_8 (by decide) (fun c8 => ?_) (fun c8 => ?_)
  · rw [if_neg c8] at hsh
    exact w5_finish_b25 (hB0 := hB0) E hp hS ⟨by omega, by omega⟩ (hl.sub [0] rfl) hsh
  · rw [if_pos c8] at hsh
    refine e_aload_n (B := B) (x := x0) hx hb dX5_finish_11 rfl (hl.at 0 rfl) ?_
    obtain ⟨v12, h12, hsh⟩ := Option.bind_eq_some_iff.mp hsh
    refine e_getR (k := 1) hx hb hts in_X5 hown hp h12 rfl (by decide) (by decide) rfl (hts _ kf5_23) rfl dX5_finish_12 ?_
    refine e_aload_n (B := B) (x := x0) hx hb dX5_finish_15 rfl (hl.at 0 rfl) ?_
    obtain ⟨v16, h16, hsh⟩ := Option.bind_eq_some_iff.mp hsh
    refine e_getR (k := 10) hx hb hts in_X5 hown hp h16 rfl (by decide) (by decide) rfl (hts _ kf5_85) rfl dX5_finish_16 ?_
    obtain ⟨⟨v19, S19⟩, h19, hsh⟩ := Option.bind_eq_some_iff.mp hsh
    have hsh : _ = _ := hsh
    try dsimp only at hsh
    obtain ⟨hsh, cc19, cd19⟩ := snV_some hsh
    have cd19 : e_n S19 ≤ e_n S' ∧ e_s S19 ≤ e_s S' := cd19
    have ok19 := ok11_isLike h19
    refine e_callI (nL := 2) (mc := 0) (ms := 0) (T := TX11) (N := 6) (As := [e_rv B (v16)]) (rest := []) hx hb hml hown hts hp hS hl.size ok19.1 ok19.2.1 ok19.2.2 rfl (by decide) (c11_isLike l D cA B S5 S19 (v12) (v16) v19 h19) rfl rfl kd11_isLike (kl5_348) ks11_isLike kv11_isLike ki11 kh11_isLike ⟨Nat.le_of_ble_eq_true rfl, Nat.le_of_ble_eq_true rfl⟩ rfl (by simp [e_rv_cat, e_int_cat, e_long_cat]) ⟨(by show _ ≤ e_n S' - e_n S; omega), (by show _ ≤ e_s S' - e_s S; omega)⟩ dX5_finish_19 rfl (fun H locs hp hS => ?_)
    refine e_cells (c' := e_n S19 - e_n S) (s' := e_s S19 - e_s S) (by omega) (by omega) ?_
    refine e_if_ne (tgt := 29) hx hb dX5_finish_22 (by decide) (fun c22 => ?_) (fun c22 => ?_)
    · rw [if_neg c22] at hsh
      refine lv_iconst (v := iI (0)) hx hb dX5_finish_29 rfl ?_
      exact w5_finish_b30 (hB0 := hB0) E hp hS ⟨by omega, by omega⟩ (hl.sub [0] rfl) hsh
    · rw [if_pos c22] at hsh
      exact w5_finish_b25 (hB0 := hB0) E hp hS ⟨by omega, by omega⟩ (hl.sub [0] rfl) hsh
