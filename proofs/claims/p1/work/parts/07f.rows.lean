set_option maxRecDepth 100000 in
set_option maxHeartbeats 4000000 in
theorem w13_isMotion_b127 {p : Program} {l : Launch} {e : Env} {s : State} {m : MethodId} {args : Array Value} {below : List Frame} {meth : Method} {c : Code} {D : va_G} {cA : Nat → ClassId} {B : Nat} {res : Int × HP} (E : e_En p s m args meth c cX13_isMotion RX13 1 (some .boolean)) {ls : Array Slot} {H : Heap} {locs : List Loc} {S : HP} {y0 : Int} (hp : e_Pic D cA B S s H) (hS : va_S (e_A B) s.heap H locs) (hl : e_lo ls 1 []) (hsh : s13_isMotion_b127 S y0 = some res) : W p l e ({ frames := 1, cells := 0, slots := 0, locals := 20 } : Room) s m args below meth c H locs 0 0 (MQ below (e_Qi D cA B res.1 res.2) args s 0 0 (e_A B)) (F0 m 127 ls [.int (iI (y0))]) := by
  obtain ⟨hx, hb, hml, hown, hts, hlk, hrt⟩ := id E
  unfold s13_isMotion_b127 at hsh
  obtain ⟨hz, hz1, hz2⟩ := zR_some hsh
  rw [← hz1, ← hz2]
  exact e_zret hx hb hrt hlk hp hS hz dX13_isMotion_127
set_option maxRecDepth 100000 in
set_option maxHeartbeats 4000000 in
theorem w13_isMotion_b122 {p : Program} {l : Launch} {e : Env} {s : State} {m : MethodId} {args : Array Value} {below : List Frame} {meth : Method} {c : Code} {D : va_G} {cA : Nat → ClassId} {B : Nat} {res : Int × HP} (E : e_En p s m args meth c cX13_isMotion RX13 1 (some .boolean)) {ls : Array Slot} {H : Heap} {locs : List Loc} {S : HP} (hp : e_Pic D cA B S s H) (hS : va_S (e_A B) s.heap H locs) (hl : e_lo ls 1 []) (hsh : s13_isMotion_b122 S  = some res) : W p l e ({ frames := 1, cells := 0, slots := 0, locals := 20 } : Room) s m args below meth c H locs 0 0 (MQ below (e_Qi D cA B res.1 res.2) args s 0 0 (e_A B)) (F0 m 122 ls []) := by
  obtain ⟨hx, hb, hml, hown, hts, hlk, hrt⟩ := id E
  unfold s13_isMotion_b122 at hsh
  refine lv_iconst (v := iI (1)) hx hb dX13_isMotion_122 rfl ?_
  refine lv_goto (tgt := 127) hx hb dX13_isMotion_123 (by decide) ?_
  exact w13_isMotion_b127 E hp hS (hl.sub [] rfl) hsh
set_option maxRecDepth 100000 in
set_option maxHeartbeats 4000000 in
theorem c13_isMotion (l : Launch) (D : va_G) (cA : Nat → ClassId) (B : Nat) (S S' : HP) (x0 : Int) (r : Int) (hsh : s13_isMotion S x0 = some (r, S')) : Met l yX13_isMotion (e_wu yX13_isMotion cX13_isMotion 1 (some .boolean)) ({ frames := 1, cells := 0, slots := 0, locals := 20 } : Room) (va_Pc [.int (iI (x0))] (fun U => e_PU D cA B S U)) (e_Qi D cA B r S') 0 0 (e_A B) := by
  refine Met.ofW (cc := cX13_isMotion) (maxL := 1) (ret := (some .boolean)) (by decide +kernel) rfl ?_
  intro p e s m args below meth c s₁ Bd hml hv
  obtain ⟨rfl, hp⟩ := hv
  have hp : e_Pic D cA B S s s.heap := hp
  have hx := Bd.exec
  have hb := Bd.bytes
  have hrt := Bd.returns
  have hlk := Bd.notSynchronized
  have hown : s.vm.findClass RX13 = some m.cls := findClass_of_methodNamed Bd.named
  have hts : ∀ w ∈ e_tb, w.before ([.int (iI (x0))] : List Value).toArray s = true := fun w h => atoms_spec (ws := (e_wu yX13_isMotion cX13_isMotion 1 (some .boolean))) Bd.pre w (List.mem_cons_of_mem _ h)
  have E : e_En p s m ([.int (iI (x0))] : List Value).toArray meth c cX13_isMotion RX13 1 (some .boolean) := ⟨hx, hb, hml, hown, hts, hlk, hrt⟩
  have hS : va_S (e_A B) s.heap s.heap [] := va_S.rf
  have hl := e_entry (vs := [.int (iI (x0))]) (n := 1) (Nat.le_of_ble_eq_true rfl) (e_cc rfl e_cn)
  rw [lg_entry_eq]
  generalize (lg_sl [.int (iI (x0))] ++ List.replicate (1 - (lg_sl [.int (iI (x0))]).length) Slot.unset).toArray = ls at hl ⊢
  generalize ([.int (iI (x0))] : List Value).toArray = args at hts E ⊢
  have hl : e_lo ls 1 [(0, .int (iI (x0)))] := hl
  unfold s13_isMotion at hsh
  refine lv_iload_n hx hb dX13_isMotion_0 rfl (hl.at 0 rfl) ?_
  refine lv_bipush (v := iI (104)) hx hb dX13_isMotion_1 (by decide +kernel) ?_
  refine e_icmp_eq (tgt := 122) hx hb dX13_isMotion_3 (by decide) (fun c3 => ?_) (fun c3 => ?_)
  · rw [if_pos c3] at hsh
    exact w13_isMotion_b122 E hp hS (hl.sub [] rfl) hsh
  · rw [if_neg c3] at hsh
    refine lv_iload_n hx hb dX13_isMotion_6 rfl (hl.at 0 rfl) ?_
    refine lv_bipush (v := iI (108)) hx hb dX13_isMotion_7 (by decide +kernel) ?_
    refine e_icmp_eq (tgt := 122) hx hb dX13_isMotion_9 (by decide) (fun c9 => ?_) (fun c9 => ?_)
    · rw [if_pos c9] at hsh
      exact w13_isMotion_b122 E hp hS (hl.sub [] rfl) hsh
    · rw [if_neg c9] at hsh
      refine lv_iload_n hx hb dX13_isMotion_12 rfl (hl.at 0 rfl) ?_
      refine lv_bipush (v := iI (106)) hx hb dX13_isMotion_13 (by decide +kernel) ?_
      refine e_icmp_eq (tgt := 122) hx hb dX13_isMotion_15 (by decide) (fun c15 => ?_) (fun c15 => ?_)
      · rw [if_pos c15] at hsh
        exact w13_isMotion_b122 E hp hS (hl.sub [] rfl) hsh
      · rw [if_neg c15] at hsh
        refine lv_iload_n hx hb dX13_isMotion_18 rfl (hl.at 0 rfl) ?_
        refine lv_bipush (v := iI (107)) hx hb dX13_isMotion_19 (by decide +kernel) ?_
        refine e_icmp_eq (tgt := 122) hx hb dX13_isMotion_21 (by decide) (fun c21 => ?_) (fun c21 => ?_)
        · rw [if_pos c21] at hsh
          exact w13_isMotion_b122 E hp hS (hl.sub [] rfl) hsh
        · rw [if_neg c21] at hsh
          refine lv_iload_n hx hb dX13_isMotion_24 rfl (hl.at 0 rfl) ?_
          refine lv_bipush (v := iI (48)) hx hb dX13_isMotion_25 (by decide +kernel) ?_
          refine e_icmp_eq (tgt := 122) hx hb dX13_isMotion_27 (by decide) (fun c27 => ?_) (fun c27 => ?_)
          · rw [if_pos c27] at hsh
            exact w13_isMotion_b122 E hp hS (hl.sub [] rfl) hsh
          · rw [if_neg c27] at hsh
            refine lv_iload_n hx hb dX13_isMotion_30 rfl (hl.at 0 rfl) ?_
            refine lv_bipush (v := iI (94)) hx hb dX13_isMotion_31 (by decide +kernel) ?_
            refine e_icmp_eq (tgt := 122) hx hb dX13_isMotion_33 (by decide) (fun c33 => ?_) (fun c33 => ?_)
            · rw [if_pos c33] at hsh
              exact w13_isMotion_b122 E hp hS (hl.sub [] rfl) hsh
            · rw [if_neg c33] at hsh
              refine lv_iload_n hx hb dX13_isMotion_36 rfl (hl.at 0 rfl) ?_
              refine lv_bipush (v := iI (36)) hx hb dX13_isMotion_37 (by decide +kernel) ?_
              refine e_icmp_eq (tgt := 122) hx hb dX13_isMotion_39 (by decide) (fun c39 => ?_) (fun c39 => ?_)
              · rw [if_pos c39] at hsh
                exact w13_isMotion_b122 E hp hS (hl.sub [] rfl) hsh
              · rw [if_neg c39] at hsh
                refine lv_iload_n hx hb dX13_isMotion_42 rfl (hl.at 0 rfl) ?_
                refine lv_bipush (v := iI (119)) hx hb dX13_isMotion_43 (by decide +kernel) ?_
                refine e_icmp_eq (tgt := 122) hx hb dX13_isMotion_45 (by decide) (fun c45 => ?_) (fun c45 => ?_)
                · rw [if_pos c45] at hsh
                  exact w13_isMotion_b122 E hp hS (hl.sub [] rfl) hsh
                · rw [if_neg c45] at hsh
                  refine lv_iload_n hx hb dX13_isMotion_48 rfl (hl.at 0 rfl) ?_
                  refine lv_bipush (v := iI (98)) hx hb dX13_isMotion_49 (by decide +kernel) ?_
                  refine e_icmp_eq (tgt := 122) hx hb dX13_isMotion_51 (by decide) (fun c51 => ?_) (fun c51 => ?_)
                  · rw [if_pos c51] at hsh
                    exact w13_isMotion_b122 E hp hS (hl.sub [] rfl) hsh
                  · rw [if_neg c51] at hsh
                    refine lv_iload_n hx hb dX13_isMotion_54 rfl (hl.at 0 rfl) ?_
                    refine lv_bipush (v := iI (101)) hx hb dX13_isMotion_55 (by decide +kernel) ?_
                    refine e_icmp_eq (tgt := 122) hx hb dX13_isMotion_57 (by decide) (fun c57 => ?_) (fun c57 => ?_)
                    · rw [if_pos c57] at hsh
                      exact w13_isMotion_b122 E hp hS (hl.sub [] rfl) hsh
                    · rw [if_neg c57] at hsh
                      refine lv_iload_n hx hb dX13_isMotion_60 rfl (hl.at 0 rfl) ?_
                      refine lv_bipush (v := iI (59)) hx hb dX13_isMotion_61 (by decide +kernel) ?_
                      refine e_icmp_eq (tgt := 122) hx hb dX13_isMotion_63 (by decide) (fun c63 => ?_) (fun c63 => ?_)
                      · rw [if_pos c63] at hsh
                        exact w13_isMotion_b122 E hp hS (hl.sub [] rfl) hsh
                      · rw [if_neg c63] at hsh
                        refine lv_iload_n hx hb dX13_isMotion_66 rfl (hl.at 0 rfl) ?_
                        refine lv_bipush (v := iI (44)) hx hb dX13_isMotion_67 (by decide +kernel) ?_
                        refine e_icmp_eq (tgt := 122) hx hb dX13_isMotion_69 (by decide) (fun c69 => ?_) (fun c69 => ?_)
                        · rw [if_pos c69] at hsh
                          exact w13_isMotion_b122 E hp hS (hl.sub [] rfl) hsh
                        · rw [if_neg c69] at hsh
                          refine lv_iload_n hx hb dX13_isMotion_72 rfl (hl.at 0 rfl) ?_
                          refine lv_bipush (v := iI (71)) hx hb dX13_isMotion_73 (by decide +kernel) ?_
                          refine e_icmp_eq (tgt := 122) hx hb dX13_isMotion_75 (by decide) (fun c75 => ?_) (fun c75 => ?_)
                          · rw [if_pos c75] at hsh
                            exact w13_isMotion_b122 E hp hS (hl.sub [] rfl) hsh
                          · rw [if_neg c75] at hsh
                            refine lv_iload_n hx hb dX13_isMotion_78 rfl (hl.at 0 rfl) ?_
                            refine lv_sipush (v := iI (359)) hx hb dX13_isMotion_79 (by decide +kernel) ?_
                            refine e_icmp_eq (tgt := 122) hx hb dX13_isMotion_82 (by decide) (fun c82 => ?_) (fun c82 => ?_)
                            · rw [if_pos c82] at hsh
                              exact w13_isMotion_b122 E hp hS (hl.sub [] rfl) hsh
                            · rw [if_neg c82] at hsh
                              refine lv_iload_n hx hb dX13_isMotion_85 rfl (hl.at 0 rfl) ?_
                              refine lv_bipush (v := iI (125)) hx hb dX13_isMotion_86 (by decide +kernel) ?_
                              refine e_icmp_eq (tgt := 122) hx hb dX13_isMotion_88 (by decide) (fun c88 => ?_) (fun c88 => ?_)
                              · rw [if_pos c88] at hsh
                                exact w13_isMotion_b122 E hp hS (hl.sub [] rfl) hsh
                              · rw [if_neg c88] at hsh
                                refine lv_iload_n hx hb dX13_isMotion_91 rfl (hl.at 0 rfl) ?_
                                refine lv_bipush (v := iI (123)) hx hb dX13_isMotion_92 (by decide +kernel) ?_
                                refine e_icmp_eq (tgt := 122) hx hb dX13_isMotion_94 (by decide) (fun c94 => ?_) (fun c94 => ?_)
                                · rw [if_pos c94] at hsh
                                  exact w13_isMotion_b122 E hp hS (hl.sub [] rfl) hsh
                                · rw [if_neg c94] at hsh
                                  refine lv_iload_n hx hb dX13_isMotion_97 rfl (hl.at 0 rfl) ?_
                                  refine lv_bipush (v := iI (37)) hx hb dX13_isMotion_98 (by decide +kernel) ?_
                                  refine e_icmp_eq (tgt := 122) hx hb dX13_isMotion_100 (by decide) (fun c100 => ?_) (fun c100 => ?_)
                                  · rw [if_pos c100] at hsh
                                    exact w13_isMotion_b122 E hp hS (hl.sub [] rfl) hsh
                                  · rw [if_neg c100] at hsh
                                    refine lv_iload_n hx hb dX13_isMotion_103 rfl (hl.at 0 rfl) ?_
                                    refine lv_bipush (v := iI (110)) hx hb dX13_isMotion_104 (by decide +kernel) ?_
                                    refine e_icmp_eq (tgt := 122) hx hb dX13_isMotion_106 (by decide) (fun c106 => ?_) (fun c106 => ?_)
                                    · rw [if_pos c106] at hsh
                                      exact w13_isMotion_b122 E hp hS (hl.sub [] rfl) hsh
                                    · rw [if_neg c106] at hsh
                                      refine lv_iload_n hx hb dX13_isMotion_109 rfl (hl.at 0 rfl) ?_
                                      refine lv_bipush (v := iI (78)) hx hb dX13_isMotion_110 (by decide +kernel) ?_
                                      refine e_icmp_eq (tgt := 122) hx hb dX13_isMotion_112 (by decide) (fun c112 => ?_) (fun c112 => ?_)
                                      · rw [if_pos c112] at hsh
                                        exact w13_isMotion_b122 E hp hS (hl.sub [] rfl) hsh
                                      · rw [if_neg c112] at hsh
                                        refine lv_iload_n hx hb dX13_isMotion_115 rfl (hl.at 0 rfl) ?_
                                        obtain ⟨⟨v116, S116⟩, h116, hsh⟩ := Option.bind_eq_some_iff.mp hsh
                                        have hsh : _ = _ := hsh
                                        try dsimp only at hsh
                                        refine e_callS (nL := 1) (mc := 0) (ms := 0) (As := [.int (iI (x0))]) (rest := []) hx hb hml hown hts hp hS hl.size (c13_isLong l D cA B S S116 (x0) v116 h116) rfl rfl kd13_isLong (kl13_597) ks13_isLong ki13 kh13_isLong ⟨Nat.le_of_ble_eq_true rfl, Nat.le_of_ble_eq_true rfl⟩ rfl (by simp [e_rv_cat, e_int_cat]) ⟨Nat.le_refl _, Nat.le_refl _⟩ dX13_isMotion_116 rfl (fun H locs hp hS => ?_)
                                        refine e_if_eq (tgt := 126) hx hb dX13_isMotion_119 (by decide) (fun c119 => ?_) (fun c119 => ?_)
                                        · rw [if_pos c119] at hsh
                                          refine lv_iconst (v := iI (0)) hx hb dX13_isMotion_126 rfl ?_
                                          exact w13_isMotion_b127 E hp hS (hl.sub [] rfl) hsh
                                        · rw [if_neg c119] at hsh
                                          exact w13_isMotion_b122 E hp hS (hl.sub [] rfl) hsh
theorem ok13_readsTarget {S : HP} {x0 : Int} {x1 : Int} {r : Int × HP} (h : s13_readsTarget S x0 x1 = some r) : 0 ≤ x0 ∧ x0.toNat < e_n S ∧ e_g S x0.toNat = 13 := (gd_some h).1
set_option maxRecDepth 100000 in
set_option maxHeartbeats 4000000 in
theorem w13_readsTarget_b73 {p : Program} {l : Launch} {e : Env} {s : State} {m : MethodId} {args : Array Value} {below : List Frame} {meth : Method} {c : Code} {D : va_G} {cA : Nat → ClassId} {B : Nat} {res : Int × HP} (E : e_En p s m args meth c cX13_readsTarget RX13 3 (some .int)) {ls : Array Slot} {H : Heap} {locs : List Loc} {S : HP} {x0 : Int} {x1 : Int} (hp : e_Pic D cA B S s H) (hS : va_S (e_A B) s.heap H locs) (hl : e_lo ls 3 [(0, e_rv B (x0)), (1, .int (iI (x1)))]) (hsh : s13_readsTarget_b73 S x0 x1 = some res) : W p l e ({ frames := 3, cells := 0, slots := 0, locals := 63 } : Room) s m args below meth c H locs 0 0 (MQ below (e_Qi D cA B res.1 res.2) args s 0 0 (e_A B)) (F0 m 73 ls []) := by
  obtain ⟨hx, hb, hml, hown, hts, hlk, hrt⟩ := id E
  unfold s13_readsTarget_b73 at hsh
  refine e_aload_n (B := B) (x := x0) hx hb dX13_readsTarget_73 rfl (hl.at 0 rfl) ?_
  refine lv_iload_n hx hb dX13_readsTarget_74 rfl (hl.at 1 rfl) ?_
  obtain ⟨⟨v75, S75⟩, h75, hsh⟩ := Option.bind_eq_some_iff.mp hsh
  have hsh : _ = _ := hsh
  try dsimp only at hsh
  have ok75 := ok13_readsObject h75
  refine e_callI (nL := 3) (mc := 0) (ms := 0) (T := TX13) (N := 126) (As := [.int (iI (x1))]) (rest := []) hx hb hml hown hts hp hS hl.size ok75.1 ok75.2.1 ok75.2.2 rfl (by decide) (c13_readsObject l D cA B S S75 (x0) (x1) v75 h75) rfl rfl kd13_readsObject (kl13_633) ks13_readsObject kv13_readsObject ki13 kh13_readsObject ⟨Nat.le_of_ble_eq_true rfl, Nat.le_of_ble_eq_true rfl⟩ rfl (by simp [e_rv_cat, e_int_cat]) ⟨Nat.le_refl _, Nat.le_refl _⟩ dX13_readsTarget_75 rfl (fun H locs hp hS => ?_)
  cases hsh
  exact e_iret hx hb hrt hlk hp hS dX13_readsTarget_78
set_option maxRecDepth 100000 in
set_option maxHeartbeats 4000000 in
theorem w13_readsTarget_b159 {p : Program} {l : Launch} {e : Env} {s : State} {m : MethodId} {args : Array Value} {below : List Frame} {meth : Method} {c : Code} {D : va_G} {cA : Nat → ClassId} {B : Nat} {res : Int × HP} (E : e_En p s m args meth c cX13_readsTarget RX13 3 (some .int)) {ls : Array Slot} {H : Heap} {locs : List Loc} {S : HP} {y0 : Int} (hp : e_Pic D cA B S s H) (hS : va_S (e_A B) s.heap H locs) (hl : e_lo ls 3 []) (hsh : s13_readsTarget_b159 S y0 = some res) : W p l e ({ frames := 3, cells := 0, slots := 0, locals := 63 } : Room) s m args below meth c H locs 0 0 (MQ below (e_Qi D cA B res.1 res.2) args s 0 0 (e_A B)) (F0 m 159 ls [.int (iI (y0))]) := by
  obtain ⟨hx, hb, hml, hown, hts, hlk, hrt⟩ := id E
  unfold s13_readsTarget_b159 at hsh
  cases hsh
  exact e_iret hx hb hrt hlk hp hS dX13_readsTarget_159
set_option maxRecDepth 100000 in
set_option maxHeartbeats 4000000 in
theorem w13_readsTarget_b124 {p : Program} {l : Launch} {e : Env} {s : State} {m : MethodId} {args : Array Value} {below : List Frame} {meth : Method} {c : Code} {D : va_G} {cA : Nat → ClassId} {B : Nat} {res : Int × HP} (E : e_En p s m args meth c cX13_readsTarget RX13 3 (some .int)) {ls : Array Slot} {H : Heap} {locs : List Loc} {S : HP} {y0 : Int} (hp : e_Pic D cA B S s H) (hS : va_S (e_A B) s.heap H locs) (hl : e_lo ls 3 []) (hsh : s13_readsTarget_b124 S y0 = some res) : W p l e ({ frames := 3, cells := 0, slots := 0, locals := 63 } : Room) s m args below meth c H locs 0 0 (MQ below (e_Qi D cA B res.1 res.2) args s 0 0 (e_A B)) (F0 m 124 ls [.int (iI (y0))]) := by
  obtain ⟨hx, hb, hml, hown, hts, hlk, hrt⟩ := id E
  unfold s13_readsTarget_b124 at hsh
  cases hsh
  exact e_iret hx hb hrt hlk hp hS dX13_readsTarget_124
set_option maxRecDepth 100000 in
set_option maxHeartbeats 4000000 in
theorem w13_readsTarget_b49 {p : Program} {l : Launch} {e : Env} {s : State} {m : MethodId} {args : Array Value} {below : List Frame} {meth : Method} {c : Code} {D : va_G} {cA : Nat → ClassId} {B : Nat} {res : Int × HP} (E : e_En p s m args meth c cX13_readsTarget RX13 3 (some .int)) {ls : Array Slot} {H : Heap} {locs : List Loc} {S : HP} {x0 : Int} {x1 : Int} {x2 : Int} {y0 : Int} {y1 : Int} (hp : e_Pic D cA B S s H) (hS : va_S (e_A B) s.heap H locs) (hl : e_lo ls 3 [(0, e_rv B (x0)), (1, .int (iI (x1))), (2, .int (iI (x2)))]) (hsh : s13_readsTarget_b49 S x0 x1 x2 y0 y1 = some res) : W p l e ({ frames := 3, cells := 0, slots := 0, locals := 63 } : Room) s m args below meth c H locs 0 0 (MQ below (e_Qi D cA B res.1 res.2) args s 0 0 (e_A B)) (F0 m 49 ls [.int (iI (y1)), .int (iI (y0))]) := by
  obtain ⟨hx, hb, hml, hown, hts, hlk, hrt⟩ := id E
  unfold s13_readsTarget_b49 at hsh
  refine e_icmp_ne (tgt := 61) hx hb dX13_readsTarget_49 (by decide) (fun c49 => ?_) (fun c49 => ?_)
  · rw [if_neg c49] at hsh
    refine lv_iload_n hx hb dX13_readsTarget_61 rfl (hl.at 2 rfl) ?_
    refine lv_bipush (v := iI (105)) hx hb dX13_readsTarget_62 (by decide +kernel) ?_
    refine e_icmp_eq (tgt := 73) hx hb dX13_readsTarget_64 (by decide) (fun c64 => ?_) (fun c64 => ?_)
    · rw [if_pos c64] at hsh
      exact w13_readsTarget_b73 E hp hS (hl.sub [0, 1] rfl) hsh
    · rw [if_neg c64] at hsh
      refine lv_iload_n hx hb dX13_readsTarget_67 rfl (hl.at 2 rfl) ?_
      refine lv_bipush (v := iI (97)) hx hb dX13_readsTarget_68 (by decide +kernel) ?_
      refine e_icmp_ne (tgt := 79) hx hb dX13_readsTarget_70 (by decide) (fun c70 => ?_) (fun c70 => ?_)
      · rw [if_neg c70] at hsh
        refine lv_iload_n hx hb dX13_readsTarget_79 rfl (hl.at 2 rfl) ?_
        refine lv_bipush (v := iI (103)) hx hb dX13_readsTarget_80 (by decide +kernel) ?_
        refine e_icmp_ne (tgt := 125) hx hb dX13_readsTarget_82 (by decide) (fun c82 => ?_) (fun c82 => ?_)
        · rw [if_neg c82] at hsh
          refine e_aload_n (B := B) (x := x0) hx hb dX13_readsTarget_125 rfl (hl.at 0 rfl) ?_
          refine lv_iload_n hx hb dX13_readsTarget_126 rfl (hl.at 2 rfl) ?_
          obtain ⟨S127, h127, hsh⟩ := Option.bind_eq_some_iff.mp hsh
          refine e_putI (k := 62) hx hb hts in_X13 tyX13 tyX13_ok nmX13 hown hp hS h127 rfl (by decide) (by decide) rfl (hts _ kf13_615) rfl rfl (by decide +kernel) dX13_readsTarget_127 (fun H locs hp hS => ?_)
          refine lv_iload_n hx hb dX13_readsTarget_130 rfl (hl.at 2 rfl) ?_
          obtain ⟨⟨v131, S131⟩, h131, hsh⟩ := Option.bind_eq_some_iff.mp hsh
          have hsh : _ = _ := hsh
          try dsimp only at hsh
          refine e_callS (nL := 3) (mc := 0) (ms := 0) (As := [.int (iI (x2))]) (rest := []) hx hb hml hown hts hp hS hl.size (c13_isMotion l D cA B S127 S131 (x2) v131 h131) rfl rfl kd13_isMotion (kl13_636) ks13_isMotion ki13 kh13_isMotion ⟨Nat.le_of_ble_eq_true rfl, Nat.le_of_ble_eq_true rfl⟩ rfl (by simp [e_rv_cat, e_int_cat]) ⟨Nat.le_refl _, Nat.le_refl _⟩ dX13_readsTarget_131 rfl (fun H locs hp hS => ?_)
          refine e_if_ne (tgt := 141) hx hb dX13_readsTarget_134 (by decide) (fun c134 => ?_) (fun c134 => ?_)
          · rw [if_neg c134] at hsh
            refine lv_iload_n hx hb dX13_readsTarget_141 rfl (hl.at 2 rfl) ?_
            obtain ⟨⟨v142, S142⟩, h142, hsh⟩ := Option.bind_eq_some_iff.mp hsh
            have hsh : _ = _ := hsh
            try dsimp only at hsh
            refine e_callS (nL := 3) (mc := 0) (ms := 0) (As := [.int (iI (x2))]) (rest := []) hx hb hml hown hts hp hS hl.size (c13_isLong l D cA B S131 S142 (x2) v142 h142) rfl rfl kd13_isLong (kl13_597) ks13_isLong ki13 kh13_isLong ⟨Nat.le_of_ble_eq_true rfl, Nat.le_of_ble_eq_true rfl⟩ rfl (by simp [e_rv_cat, e_int_cat]) ⟨Nat.le_refl _, Nat.le_refl _⟩ dX13_readsTarget_142 rfl (fun H locs hp hS => ?_)
            refine e_if_eq (tgt := 158) hx hb dX13_readsTarget_145 (by decide) (fun c145 => ?_) (fun c145 => ?_)
            · rw [if_pos c145] at hsh
              refine lv_iconst (v := iI (2)) hx hb dX13_readsTarget_158 rfl ?_
              exact w13_readsTarget_b159 E hp hS (hl.sub [] rfl) hsh
            · rw [if_neg c145] at hsh
              refine e_aload_n (B := B) (x := x0) hx hb dX13_readsTarget_148 rfl (hl.at 0 rfl) ?_
              refine lv_iload_n hx hb dX13_readsTarget_149 rfl (hl.at 1 rfl) ?_
              refine lv_iconst (v := iI (1)) hx hb dX13_readsTarget_150 rfl ?_
              refine e_iadd hx hb dX13_readsTarget_151 ?_
              obtain ⟨⟨v152, S152⟩, h152, hsh⟩ := Option.bind_eq_some_iff.mp hsh
              have hsh : _ = _ := hsh
              try dsimp only at hsh
              have ok152 := ok13_readsArgument h152
              refine e_callI (nL := 3) (mc := 0) (ms := 0) (T := TX13) (N := 126) (As := [.int (iI ((x1 + 1)))]) (rest := []) hx hb hml hown hts hp hS hl.size ok152.1 ok152.2.1 ok152.2.2 rfl (by decide) (c13_readsArgument l D cA B S142 S152 (x0) ((x1 + 1)) v152 h152) rfl rfl kd13_readsArgument (kl13_639) ks13_readsArgument kv13_readsArgument ki13 kh13_readsArgument ⟨Nat.le_of_ble_eq_true rfl, Nat.le_of_ble_eq_true rfl⟩ rfl (by simp [e_rv_cat, e_int_cat]) ⟨Nat.le_refl _, Nat.le_refl _⟩ dX13_readsTarget_152 rfl (fun H locs hp hS => ?_)
              refine lv_goto (tgt := 159) hx hb dX13_readsTarget_155 (by decide) ?_
              exact w13_readsTarget_b159 E hp hS (hl.sub [] rfl) hsh
          · rw [if_pos c134] at hsh
            refine lv_iconst (v := iI (1)) hx hb dX13_readsTarget_137 rfl ?_
            refine lv_goto (tgt := 159) hx hb dX13_readsTarget_138 (by decide) ?_
            exact w13_readsTarget_b159 E hp hS (hl.sub [] rfl) hsh
        · rw [if_pos c82] at hsh
          refine e_aload_n (B := B) (x := x0) hx hb dX13_readsTarget_85 rfl (hl.at 0 rfl) ?_
          refine lv_sipush (v := iI (359)) hx hb dX13_readsTarget_86 (by decide +kernel) ?_
          obtain ⟨S89, h89, hsh⟩ := Option.bind_eq_some_iff.mp hsh
          refine e_putI (k := 62) hx hb hts in_X13 tyX13 tyX13_ok nmX13 hown hp hS h89 rfl (by decide) (by decide) rfl (hts _ kf13_615) rfl rfl (by decide +kernel) dX13_readsTarget_89 (fun H locs hp hS => ?_)
          refine lv_iload_n hx hb dX13_readsTarget_92 rfl (hl.at 1 rfl) ?_
          refine lv_iconst (v := iI (1)) hx hb dX13_readsTarget_93 rfl ?_
          refine e_iadd hx hb dX13_readsTarget_94 ?_
          refine e_aload_n (B := B) (x := x0) hx hb dX13_readsTarget_95 rfl (hl.at 0 rfl) ?_
          obtain ⟨v96, h96, hsh⟩ := Option.bind_eq_some_iff.mp hsh
          refine e_getI (k := 55) hx hb hts in_X13 hown hp h96 rfl (by decide) (by decide) rfl (hts _ kf13_609) rfl dX13_readsTarget_96 ?_
          refine e_icmp_ne (tgt := 106) hx hb dX13_readsTarget_99 (by decide) (fun c99 => ?_) (fun c99 => ?_)
          · rw [if_neg c99] at hsh
            refine e_aload_n (B := B) (x := x0) hx hb dX13_readsTarget_106 rfl (hl.at 0 rfl) ?_
            obtain ⟨v107, h107, hsh⟩ := Option.bind_eq_some_iff.mp hsh
            refine e_getR (k := 57) hx hb hts in_X13 hown hp h107 rfl (by decide) (by decide) rfl (hts _ kf13_95) rfl dX13_readsTarget_107 ?_
            refine lv_iload_n hx hb dX13_readsTarget_110 rfl (hl.at 1 rfl) ?_
            refine lv_iconst (v := iI (1)) hx hb dX13_readsTarget_111 rfl ?_
            refine e_iadd hx hb dX13_readsTarget_112 ?_
            obtain ⟨v113, h113, hsh⟩ := Option.bind_eq_some_iff.mp hsh
            refine e_iald hx hb hp h113 dX13_readsTarget_113 ?_
            refine lv_bipush (v := iI (103)) hx hb dX13_readsTarget_114 (by decide +kernel) ?_
            refine e_icmp_ne (tgt := 123) hx hb dX13_readsTarget_116 (by decide) (fun c116 => ?_) (fun c116 => ?_)
            · rw [if_neg c116] at hsh
              refine lv_iconst (v := iI (1)) hx hb dX13_readsTarget_123 rfl ?_
              exact w13_readsTarget_b124 E hp hS (hl.sub [] rfl) hsh
            · rw [if_pos c116] at hsh
              refine lv_iconst (v := iI (2)) hx hb dX13_readsTarget_119 rfl ?_
              refine lv_goto (tgt := 124) hx hb dX13_readsTarget_120 (by decide) ?_
              exact w13_readsTarget_b124 E hp hS (hl.sub [] rfl) hsh
          · rw [if_pos c99] at hsh
            refine lv_iconst (v := iI (0)) hx hb dX13_readsTarget_102 rfl ?_
            refine lv_goto (tgt := 124) hx hb dX13_readsTarget_103 (by decide) ?_
            exact w13_readsTarget_b124 E hp hS (hl.sub [] rfl) hsh
      · rw [if_pos c70] at hsh
        exact w13_readsTarget_b73 E hp hS (hl.sub [0, 1] rfl) hsh
  · rw [if_pos c49] at hsh
    refine e_aload_n (B := B) (x := x0) hx hb dX13_readsTarget_52 rfl (hl.at 0 rfl) ?_
    refine lv_sipush (v := iI (1025)) hx hb dX13_readsTarget_53 (by decide +kernel) ?_
    obtain ⟨S56, h56, hsh⟩ := Option.bind_eq_some_iff.mp hsh
    refine e_putI (k := 62) hx hb hts in_X13 tyX13 tyX13_ok nmX13 hown hp hS h56 rfl (by decide) (by decide) rfl (hts _ kf13_615) rfl rfl (by decide +kernel) dX13_readsTarget_56 (fun H locs hp hS => ?_)
    refine lv_iconst (v := iI (2)) hx hb dX13_readsTarget_59 rfl ?_
    cases hsh
    exact e_iret hx hb hrt hlk hp hS dX13_readsTarget_60
set_option maxRecDepth 100000 in
set_option maxHeartbeats 4000000 in
theorem c13_readsTarget (l : Launch) (D : va_G) (cA : Nat → ClassId) (B : Nat) (S S' : HP) (x0 : Int) (x1 : Int) (r : Int) (hsh : s13_readsTarget S x0 x1 = some (r, S')) : Met l yX13_readsTarget (e_wu yX13_readsTarget cX13_readsTarget 3 (some .int)) ({ frames := 3, cells := 0, slots := 0, locals := 63 } : Room) (va_Pc [e_rv B (x0), .int (iI (x1))] (fun U => e_PU D cA B S U)) (e_Qi D cA B r S') 0 0 (e_A B) := by
  refine Met.ofW (cc := cX13_readsTarget) (maxL := 3) (ret := (some .int)) (by decide +kernel) rfl ?_
  intro p e s m args below meth c s₁ Bd hml hv
  obtain ⟨rfl, hp⟩ := hv
  have hp : e_Pic D cA B S s s.heap := hp
  have hx := Bd.exec
  have hb := Bd.bytes
  have hrt := Bd.returns
  have hlk := Bd.notSynchronized
  have hown : s.vm.findClass RX13 = some m.cls := findClass_of_methodNamed Bd.named
  have hts : ∀ w ∈ e_tb, w.before ([e_rv B (x0), .int (iI (x1))] : List Value).toArray s = true := fun w h => atoms_spec (ws := (e_wu yX13_readsTarget cX13_readsTarget 3 (some .int))) Bd.pre w (List.mem_cons_of_mem _ h)
  have E : e_En p s m ([e_rv B (x0), .int (iI (x1))] : List Value).toArray meth c cX13_readsTarget RX13 3 (some .int) := ⟨hx, hb, hml, hown, hts, hlk, hrt⟩
  have hS : va_S (e_A B) s.heap s.heap [] := va_S.rf
  have hl := e_entry (vs := [e_rv B (x0), .int (iI (x1))]) (n := 3) (Nat.le_of_ble_eq_true rfl) (e_cc (e_rv_cat _ _) (e_cc rfl e_cn))
  rw [lg_entry_eq]
  generalize (lg_sl [e_rv B (x0), .int (iI (x1))] ++ List.replicate (3 - (lg_sl [e_rv B (x0), .int (iI (x1))]).length) Slot.unset).toArray = ls at hl ⊢
  generalize ([e_rv B (x0), .int (iI (x1))] : List Value).toArray = args at hts E ⊢
  have hl : e_lo ls 3 [(0, e_rv B (x0)), (1, .int (iI (x1)))] := hl
  have hsh := (gd_some hsh).2
  refine e_aload_n (B := B) (x := x0) hx hb dX13_readsTarget_0 rfl (hl.at 0 rfl) ?_
  obtain ⟨v1, h1, hsh⟩ := Option.bind_eq_some_iff.mp hsh
  refine e_getR (k := 57) hx hb hts in_X13 hown hp h1 rfl (by decide) (by decide) rfl (hts _ kf13_95) rfl dX13_readsTarget_1 ?_
  refine lv_iload_n hx hb dX13_readsTarget_4 rfl (hl.at 1 rfl) ?_
  obtain ⟨v5, h5, hsh⟩ := Option.bind_eq_some_iff.mp hsh
  refine e_iald hx hb hp h5 dX13_readsTarget_5 ?_
  refine e_istore_n (lv' := [(2, .int (iI (v5))), (0, e_rv B (x0)), (1, .int (iI (x1)))]) hx hb dX13_readsTarget_6 rfl hl (by decide) rfl (fun ls hl => ?_)
  refine e_aload_n (B := B) (x := x0) hx hb dX13_readsTarget_7 rfl (hl.at 1 rfl) ?_
  refine lv_iload_n hx hb dX13_readsTarget_8 rfl (hl.at 2 rfl) ?_
  refine lv_iconst (v := iI (1)) hx hb dX13_readsTarget_9 rfl ?_
  refine e_iadd hx hb dX13_readsTarget_10 ?_
  obtain ⟨S11, h11, hsh⟩ := Option.bind_eq_some_iff.mp hsh
  refine e_putI (k := 64) hx hb hts in_X13 tyX13 tyX13_ok nmX13 hown hp hS h11 rfl (by decide) (by decide) rfl (hts _ kf13_627) rfl rfl (by decide +kernel) dX13_readsTarget_11 (fun H locs hp hS => ?_)
  refine lv_iload_n hx hb dX13_readsTarget_14 rfl (hl.at 0 rfl) ?_
  refine e_aload_n (B := B) (x := x0) hx hb dX13_readsTarget_15 rfl (hl.at 1 rfl) ?_
  obtain ⟨v16, h16, hsh⟩ := Option.bind_eq_some_iff.mp hsh
  refine e_getI (k := 60) hx hb hts in_X13 hown hp h16 rfl (by decide) (by decide) rfl (hts _ kf13_630) rfl dX13_readsTarget_16 ?_
  refine lv_sipush (v := iI (382)) hx hb dX13_readsTarget_19 (by decide +kernel) ?_
  refine e_icmp_ne (tgt := 30) hx hb dX13_readsTarget_22 (by decide) (fun c22 => ?_) (fun c22 => ?_)
  · rw [if_neg c22] at hsh
    refine e_aload_n (B := B) (x := x0) hx hb dX13_readsTarget_30 rfl (hl.at 1 rfl) ?_
    obtain ⟨v31, h31, hsh⟩ := Option.bind_eq_some_iff.mp hsh
    refine e_getI (k := 60) hx hb hts in_X13 hown hp h31 rfl (by decide) (by decide) rfl (hts _ kf13_630) rfl dX13_readsTarget_31 ?_
    refine lv_sipush (v := iI (614)) hx hb dX13_readsTarget_34 (by decide +kernel) ?_
    refine e_icmp_ne (tgt := 45) hx hb dX13_readsTarget_37 (by decide) (fun c37 => ?_) (fun c37 => ?_)
    · rw [if_neg c37] at hsh
      refine e_aload_n (B := B) (x := x0) hx hb dX13_readsTarget_45 rfl (hl.at 1 rfl) ?_
      obtain ⟨v46, h46, hsh⟩ := Option.bind_eq_some_iff.mp hsh
      refine e_getI (k := 60) hx hb hts in_X13 hown hp h46 rfl (by decide) (by decide) rfl (hts _ kf13_630) rfl dX13_readsTarget_46 ?_
      exact w13_readsTarget_b49 E hp hS (hl.sub [1, 2, 0] rfl) hsh
    · rw [if_pos c37] at hsh
      refine lv_bipush (v := iI (122)) hx hb dX13_readsTarget_40 (by decide +kernel) ?_
      refine lv_goto (tgt := 49) hx hb dX13_readsTarget_42 (by decide) ?_
      exact w13_readsTarget_b49 E hp hS (hl.sub [1, 2, 0] rfl) hsh
  · rw [if_pos c22] at hsh
    refine lv_bipush (v := iI (126)) hx hb dX13_readsTarget_25 (by decide +kernel) ?_
    refine lv_goto (tgt := 49) hx hb dX13_readsTarget_27 (by decide) ?_
    exact w13_readsTarget_b49 E hp hS (hl.sub [1, 2, 0] rfl) hsh
theorem ok13_reads {S : HP} {x0 : Int} {r : Int × HP} (h : s13_reads S x0 = some r) : 0 ≤ x0 ∧ x0.toNat < e_n S ∧ e_g S x0.toNat = 13 := (gd_some h).1
set_option maxRecDepth 100000 in
set_option maxHeartbeats 4000000 in
theorem w13_reads_b393 {p : Program} {l : Launch} {e : Env} {s : State} {m : MethodId} {args : Array Value} {below : List Frame} {meth : Method} {c : Code} {D : va_G} {cA : Nat → ClassId} {B : Nat} {res : Int × HP} (E : e_En p s m args meth c cX13_reads RX13 3 (some .int)) {ls : Array Slot} {H : Heap} {locs : List Loc} {S : HP} {y0 : Int} (hp : e_Pic D cA B S s H) (hS : va_S (e_A B) s.heap H locs) (hl : e_lo ls 3 []) (hsh : s13_reads_b393 S y0 = some res) : W p l e ({ frames := 4, cells := 0, slots := 0, locals := 85 } : Room) s m args below meth c H locs 0 0 (MQ below (e_Qi D cA B res.1 res.2) args s 0 0 (e_A B)) (F0 m 393 ls [.int (iI (y0))]) := by
  obtain ⟨hx, hb, hml, hown, hts, hlk, hrt⟩ := id E
  unfold s13_reads_b393 at hsh
  cases hsh
  exact e_iret hx hb hrt hlk hp hS dX13_reads_393
set_option maxRecDepth 100000 in
set_option maxHeartbeats 4000000 in
theorem w13_reads_b388 {p : Program} {l : Launch} {e : Env} {s : State} {m : MethodId} {args : Array Value} {below : List Frame} {meth : Method} {c : Code} {D : va_G} {cA : Nat → ClassId} {B : Nat} {res : Int × HP} (E : e_En p s m args meth c cX13_reads RX13 3 (some .int)) {ls : Array Slot} {H : Heap} {locs : List Loc} {S : HP} {x0 : Int} {x1 : Int} (hp : e_Pic D cA B S s H) (hS : va_S (e_A B) s.heap H locs) (hl : e_lo ls 3 [(0, e_rv B (x0)), (1, .int (iI (x1)))]) (hsh : s13_reads_b388 S x0 x1 = some res) : W p l e ({ frames := 4, cells := 0, slots := 0, locals := 85 } : Room) s m args below meth c H locs 0 0 (MQ below (e_Qi D cA B res.1 res.2) args s 0 0 (e_A B)) (F0 m 388 ls []) := by
  obtain ⟨hx, hb, hml, hown, hts, hlk, hrt⟩ := id E
  unfold s13_reads_b388 at hsh
  refine e_aload_n (B := B) (x := x0) hx hb dX13_reads_388 rfl (hl.at 0 rfl) ?_
  refine lv_iload_n hx hb dX13_reads_389 rfl (hl.at 1 rfl) ?_
  obtain ⟨⟨v390, S390⟩, h390, hsh⟩ := Option.bind_eq_some_iff.mp hsh
  have hsh : _ = _ := hsh
  try dsimp only at hsh
  have ok390 := ok13_readsArgument h390
  refine e_callI (nL := 3) (mc := 0) (ms := 0) (T := TX13) (N := 126) (As := [.int (iI (x1))]) (rest := []) hx hb hml hown hts hp hS hl.size ok390.1 ok390.2.1 ok390.2.2 rfl (by decide) (c13_readsArgument l D cA B S S390 (x0) (x1) v390 h390) rfl rfl kd13_readsArgument (kl13_639) ks13_readsArgument kv13_readsArgument ki13 kh13_readsArgument ⟨Nat.le_of_ble_eq_true rfl, Nat.le_of_ble_eq_true rfl⟩ rfl (by simp [e_rv_cat, e_int_cat]) ⟨Nat.le_refl _, Nat.le_refl _⟩ dX13_reads_390 rfl (fun H locs hp hS => ?_)
  exact w13_reads_b393 E hp hS (hl.sub [] rfl) hsh
set_option maxRecDepth 100000 in
set_option maxHeartbeats 4000000 in
theorem w13_reads_b364 {p : Program} {l : Launch} {e : Env} {s : State} {m : MethodId} {args : Array Value} {below : List Frame} {meth : Method} {c : Code} {D : va_G} {cA : Nat → ClassId} {B : Nat} {res : Int × HP} (E : e_En p s m args meth c cX13_reads RX13 3 (some .int)) {ls : Array Slot} {H : Heap} {locs : List Loc} {S : HP} {x0 : Int} {x1 : Int} (hp : e_Pic D cA B S s H) (hS : va_S (e_A B) s.heap H locs) (hl : e_lo ls 3 [(0, e_rv B (x0)), (1, .int (iI (x1)))]) (hsh : s13_reads_b364 S x0 x1 = some res) : W p l e ({ frames := 4, cells := 0, slots := 0, locals := 85 } : Room) s m args below meth c H locs 0 0 (MQ below (e_Qi D cA B res.1 res.2) args s 0 0 (e_A B)) (F0 m 364 ls []) := by
  obtain ⟨hx, hb, hml, hown, hts, hlk, hrt⟩ := id E
  unfold s13_reads_b364 at hsh
  refine e_aload_n (B := B) (x := x0) hx hb dX13_reads_364 rfl (hl.at 0 rfl) ?_
  obtain ⟨v365, h365, hsh⟩ := Option.bind_eq_some_iff.mp hsh
  refine e_getI (k := 62) hx hb hts in_X13 hown hp h365 rfl (by decide) (by decide) rfl (hts _ kf13_615) rfl dX13_reads_365 ?_
  obtain ⟨⟨v368, S368⟩, h368, hsh⟩ := Option.bind_eq_some_iff.mp hsh
  have hsh : _ = _ := hsh
  try dsimp only at hsh
  refine e_callS (nL := 3) (mc := 0) (ms := 0) (As := [.int (iI (v365))]) (rest := []) hx hb hml hown hts hp hS hl.size (c13_isMotion l D cA B S S368 (v365) v368 h368) rfl rfl kd13_isMotion (kl13_636) ks13_isMotion ki13 kh13_isMotion ⟨Nat.le_of_ble_eq_true rfl, Nat.le_of_ble_eq_true rfl⟩ rfl (by simp [e_rv_cat, e_int_cat]) ⟨Nat.le_refl _, Nat.le_refl _⟩ dX13_reads_368 rfl (fun H locs hp hS => ?_)
  refine e_if_eq (tgt := 388) hx hb dX13_reads_371 (by decide) (fun c371 => ?_) (fun c371 => ?_)
  · rw [if_pos c371] at hsh
    exact w13_reads_b388 E hp hS (hl.sub [0, 1] rfl) hsh
  · rw [if_neg c371] at hsh
    refine e_aload_n (B := B) (x := x0) hx hb dX13_reads_374 rfl (hl.at 0 rfl) ?_
    obtain ⟨v375, h375, hsh⟩ := Option.bind_eq_some_iff.mp hsh
    refine e_getI (k := 62) hx hb hts in_X13 hown hp h375 rfl (by decide) (by decide) rfl (hts _ kf13_615) rfl dX13_reads_375 ?_
    obtain ⟨⟨v378, S378⟩, h378, hsh⟩ := Option.bind_eq_some_iff.mp hsh
    have hsh : _ = _ := hsh
    try dsimp only at hsh
    refine e_callS (nL := 3) (mc := 0) (ms := 0) (As := [.int (iI (v375))]) (rest := []) hx hb hml hown hts hp hS hl.size (c13_isLong l D cA B S368 S378 (v375) v378 h378) rfl rfl kd13_isLong (kl13_597) ks13_isLong ki13 kh13_isLong ⟨Nat.le_of_ble_eq_true rfl, Nat.le_of_ble_eq_true rfl⟩ rfl (by simp [e_rv_cat, e_int_cat]) ⟨Nat.le_refl _, Nat.le_refl _⟩ dX13_reads_378 rfl (fun H locs hp hS => ?_)
    refine e_if_ne (tgt := 388) hx hb dX13_reads_381 (by decide) (fun c381 => ?_) (fun c381 => ?_)
    · rw [if_neg c381] at hsh
      exact w13_reads_b388 E hp hS (hl.sub [0, 1] rfl) hsh
    · rw [if_pos c381] at hsh
      refine lv_iconst (v := iI (2)) hx hb dX13_reads_384 rfl ?_
      refine lv_goto (tgt := 393) hx hb dX13_reads_385 (by decide) ?_
      exact w13_reads_b393 E hp hS (hl.sub [] rfl) hsh
set_option maxRecDepth 100000 in
set_option maxHeartbeats 4000000 in
theorem w13_reads_b394 {p : Program} {l : Launch} {e : Env} {s : State} {m : MethodId} {args : Array Value} {below : List Frame} {meth : Method} {c : Code} {D : va_G} {cA : Nat → ClassId} {B : Nat} {res : Int × HP} (E : e_En p s m args meth c cX13_reads RX13 3 (some .int)) {ls : Array Slot} {H : Heap} {locs : List Loc} {S : HP} (hp : e_Pic D cA B S s H) (hS : va_S (e_A B) s.heap H locs) (hl : e_lo ls 3 []) (hsh : s13_reads_b394 S  = some res) : W p l e ({ frames := 4, cells := 0, slots := 0, locals := 85 } : Room) s m args below meth c H locs 0 0 (MQ below (e_Qi D cA B res.1 res.2) args s 0 0 (e_A B)) (F0 m 394 ls []) := by
  obtain ⟨hx, hb, hml, hown, hts, hlk, hrt⟩ := id E
  unfold s13_reads_b394 at hsh
  refine lv_iconst (v := iI (1)) hx hb dX13_reads_394 rfl ?_
  cases hsh
  exact e_iret hx hb hrt hlk hp hS dX13_reads_395
set_option maxRecDepth 100000 in
set_option maxHeartbeats 4000000 in
theorem w13_reads_b298 {p : Program} {l : Launch} {e : Env} {s : State} {m : MethodId} {args : Array Value} {below : List Frame} {meth : Method} {c : Code} {D : va_G} {cA : Nat → ClassId} {B : Nat} {res : Int × HP} (E : e_En p s m args meth c cX13_reads RX13 3 (some .int)) {ls : Array Slot} {H : Heap} {locs : List Loc} {S : HP} {x0 : Int} {x1 : Int} (hp : e_Pic D cA B S s H) (hS : va_S (e_A B) s.heap H locs) (hl : e_lo ls 3 [(0, e_rv B (x0)), (1, .int (iI (x1)))]) (hsh : s13_reads_b298 S x0 x1 = some res) : W p l e ({ frames := 4, cells := 0, slots := 0, locals := 85 } : Room) s m args below meth c H locs 0 0 (MQ below (e_Qi D cA B res.1 res.2) args s 0 0 (e_A B)) (F0 m 298 ls []) := by
  obtain ⟨hx, hb, hml, hown, hts, hlk, hrt⟩ := id E
  unfold s13_reads_b298 at hsh
  refine e_aload_n (B := B) (x := x0) hx hb dX13_reads_298 rfl (hl.at 0 rfl) ?_
  refine e_aload_n (B := B) (x := x0) hx hb dX13_reads_299 rfl (hl.at 0 rfl) ?_
  obtain ⟨v300, h300, hsh⟩ := Option.bind_eq_some_iff.mp hsh
  refine e_getI (k := 62) hx hb hts in_X13 hown hp h300 rfl (by decide) (by decide) rfl (hts _ kf13_615) rfl dX13_reads_300 ?_
  obtain ⟨⟨v303, S303⟩, h303, hsh⟩ := Option.bind_eq_some_iff.mp hsh
  have hsh : _ = _ := hsh
  try dsimp only at hsh
  have ok303 := ok13_isPlainHere h303
  refine e_callI (nL := 3) (mc := 0) (ms := 0) (T := TX13) (N := 126) (As := [.int (iI (v300))]) (rest := []) hx hb hml hown hts hp hS hl.size ok303.1 ok303.2.1 ok303.2.2 rfl (by decide) (c13_isPlainHere l D cA B S S303 (x0) (v300) v303 h303) rfl rfl kd13_isPlainHere (kl13_669) ks13_isPlainHere kv13_isPlainHere ki13 kh13_isPlainHere ⟨Nat.le_of_ble_eq_true rfl, Nat.le_of_ble_eq_true rfl⟩ rfl (by simp [e_rv_cat, e_int_cat]) ⟨Nat.le_refl _, Nat.le_refl _⟩ dX13_reads_303 rfl (fun H locs hp hS => ?_)
  refine e_if_eq (tgt := 311) hx hb dX13_reads_306 (by decide) (fun c306 => ?_) (fun c306 => ?_)
  · rw [if_pos c306] at hsh
    refine e_aload_n (B := B) (x := x0) hx hb dX13_reads_311 rfl (hl.at 0 rfl) ?_
    obtain ⟨v312, h312, hsh⟩ := Option.bind_eq_some_iff.mp hsh
    refine e_getI (k := 62) hx hb hts in_X13 hown hp h312 rfl (by decide) (by decide) rfl (hts _ kf13_615) rfl dX13_reads_312 ?_
    obtain ⟨⟨v315, S315⟩, h315, hsh⟩ := Option.bind_eq_some_iff.mp hsh
    have hsh : _ = _ := hsh
    try dsimp only at hsh
    refine e_callS (nL := 3) (mc := 0) (ms := 0) (As := [.int (iI (v312))]) (rest := []) hx hb hml hown hts hp hS hl.size (c13_isMotion l D cA B S303 S315 (v312) v315 h315) rfl rfl kd13_isMotion (kl13_636) ks13_isMotion ki13 kh13_isMotion ⟨Nat.le_of_ble_eq_true rfl, Nat.le_of_ble_eq_true rfl⟩ rfl (by simp [e_rv_cat, e_int_cat]) ⟨Nat.le_refl _, Nat.le_refl _⟩ dX13_reads_315 rfl (fun H locs hp hS => ?_)
    refine e_if_ne (tgt := 364) hx hb dX13_reads_318 (by decide) (fun c318 => ?_) (fun c318 => ?_)
    · rw [if_neg c318] at hsh
      exact w13_reads_b364 E hp hS (hl.sub [0, 1] rfl) hsh
    · rw [if_pos c318] at hsh
      refine e_aload_n (B := B) (x := x0) hx hb dX13_reads_321 rfl (hl.at 0 rfl) ?_
      obtain ⟨v322, h322, hsh⟩ := Option.bind_eq_some_iff.mp hsh
      refine e_getI (k := 62) hx hb hts in_X13 hown hp h322 rfl (by decide) (by decide) rfl (hts _ kf13_615) rfl dX13_reads_322 ?_
      refine lv_bipush (v := iI (114)) hx hb dX13_reads_325 (by decide +kernel) ?_
      refine e_icmp_eq (tgt := 364) hx hb dX13_reads_327 (by decide) (fun c327 => ?_) (fun c327 => ?_)
      · rw [if_pos c327] at hsh
        exact w13_reads_b364 E hp hS (hl.sub [0, 1] rfl) hsh
      · rw [if_neg c327] at hsh
        refine e_aload_n (B := B) (x := x0) hx hb dX13_reads_330 rfl (hl.at 0 rfl) ?_
        obtain ⟨v331, h331, hsh⟩ := Option.bind_eq_some_iff.mp hsh
        refine e_getI (k := 8) hx hb hts in_X13 hown hp h331 rfl (by decide) (by decide) rfl (hts _ kf13_466) rfl dX13_reads_331 ?_
        refine e_if_ne (tgt := 394) hx hb dX13_reads_334 (by decide) (fun c334 => ?_) (fun c334 => ?_)
        · rw [if_neg c334] at hsh
          exact w13_reads_b394 E hp hS (hl.sub [] rfl) hsh
        · rw [if_pos c334] at hsh
          refine e_aload_n (B := B) (x := x0) hx hb dX13_reads_337 rfl (hl.at 0 rfl) ?_
          obtain ⟨v338, h338, hsh⟩ := Option.bind_eq_some_iff.mp hsh
          refine e_getI (k := 62) hx hb hts in_X13 hown hp h338 rfl (by decide) (by decide) rfl (hts _ kf13_615) rfl dX13_reads_338 ?_
          refine lv_bipush (v := iI (109)) hx hb dX13_reads_341 (by decide +kernel) ?_
          refine e_icmp_eq (tgt := 364) hx hb dX13_reads_343 (by decide) (fun c343 => ?_) (fun c343 => ?_)
          · rw [if_pos c343] at hsh
            exact w13_reads_b364 E hp hS (hl.sub [0, 1] rfl) hsh
          · rw [if_neg c343] at hsh
            refine e_aload_n (B := B) (x := x0) hx hb dX13_reads_346 rfl (hl.at 0 rfl) ?_
            obtain ⟨v347, h347, hsh⟩ := Option.bind_eq_some_iff.mp hsh
            refine e_getI (k := 62) hx hb hts in_X13 hown hp h347 rfl (by decide) (by decide) rfl (hts _ kf13_615) rfl dX13_reads_347 ?_
            refine lv_bipush (v := iI (113)) hx hb dX13_reads_350 (by decide +kernel) ?_
            refine e_icmp_eq (tgt := 364) hx hb dX13_reads_352 (by decide) (fun c352 => ?_) (fun c352 => ?_)
            · rw [if_pos c352] at hsh
              exact w13_reads_b364 E hp hS (hl.sub [0, 1] rfl) hsh
            · rw [if_neg c352] at hsh
              refine e_aload_n (B := B) (x := x0) hx hb dX13_reads_355 rfl (hl.at 0 rfl) ?_
              obtain ⟨v356, h356, hsh⟩ := Option.bind_eq_some_iff.mp hsh
              refine e_getI (k := 62) hx hb hts in_X13 hown hp h356 rfl (by decide) (by decide) rfl (hts _ kf13_615) rfl dX13_reads_356 ?_
              refine lv_bipush (v := iI (64)) hx hb dX13_reads_359 (by decide +kernel) ?_
              refine e_icmp_ne (tgt := 394) hx hb dX13_reads_361 (by decide) (fun c361 => ?_) (fun c361 => ?_)
              · rw [if_neg c361] at hsh
                exact w13_reads_b394 E hp hS (hl.sub [] rfl) hsh
              · rw [if_pos c361] at hsh
                exact w13_reads_b364 E hp hS (hl.sub [0, 1] rfl) hsh
  · rw [if_neg c306] at hsh
    refine lv_iconst (v := iI (2)) hx hb dX13_reads_309 rfl ?_
    cases hsh
    exact e_iret hx hb hrt hlk hp hS dX13_reads_310
set_option maxRecDepth 100000 in
set_option maxHeartbeats 4000000 in
theorem w13_reads_b297 {p : Program} {l : Launch} {e : Env} {s : State} {m : MethodId} {args : Array Value} {below : List Frame} {meth : Method} {c : Code} {D : va_G} {cA : Nat → ClassId} {B : Nat} {res : Int × HP} (E : e_En p s m args meth c cX13_reads RX13 3 (some .int)) {ls : Array Slot} {H : Heap} {locs : List Loc} {S : HP} {y0 : Int} (hp : e_Pic D cA B S s H) (hS : va_S (e_A B) s.heap H locs) (hl : e_lo ls 3 []) (hsh : s13_reads_b297 S y0 = some res) : W p l e ({ frames := 4, cells := 0, slots := 0, locals := 85 } : Room) s m args below meth c H locs 0 0 (MQ below (e_Qi D cA B res.1 res.2) args s 0 0 (e_A B)) (F0 m 297 ls [.int (iI (y0))]) := by
  obtain ⟨hx, hb, hml, hown, hts, hlk, hrt⟩ := id E
  unfold s13_reads_b297 at hsh
  cases hsh
  exact e_iret hx hb hrt hlk hp hS dX13_reads_297
set_option maxRecDepth 100000 in
set_option maxHeartbeats 4000000 in
theorem w13_reads_b228 {p : Program} {l : Launch} {e : Env} {s : State} {m : MethodId} {args : Array Value} {below : List Frame} {meth : Method} {c : Code} {D : va_G} {cA : Nat → ClassId} {B : Nat} {res : Int × HP} (E : e_En p s m args meth c cX13_reads RX13 3 (some .int)) {ls : Array Slot} {H : Heap} {locs : List Loc} {S : HP} {x0 : Int} {x1 : Int} (hp : e_Pic D cA B S s H) (hS : va_S (e_A B) s.heap H locs) (hl : e_lo ls 3 [(0, e_rv B (x0)), (1, .int (iI (x1)))]) (hsh : s13_reads_b228 S x0 x1 = some res) : W p l e ({ frames := 4, cells := 0, slots := 0, locals := 85 } : Room) s m args below meth c H locs 0 0 (MQ below (e_Qi D cA B res.1 res.2) args s 0 0 (e_A B)) (F0 m 228 ls []) := by
  obtain ⟨hx, hb, hml, hown, hts, hlk, hrt⟩ := id E
  unfold s13_reads_b228 at hsh
  refine e_iinc (n := 1) (x := x1) (lv' := [(1, .int (iI ((x1 + 1)))), (0, e_rv B (x0))]) hx hb dX13_reads_228 hl (k := 1) rfl (by decide) rfl (fun ls hl => ?_)
  refine e_aload_n (B := B) (x := x0) hx hb dX13_reads_231 rfl (hl.at 1 rfl) ?_
  obtain ⟨v232, h232, hsh⟩ := Option.bind_eq_some_iff.mp hsh
  refine e_getI (k := 8) hx hb hts in_X13 hown hp h232 rfl (by decide) (by decide) rfl (hts _ kf13_466) rfl dX13_reads_232 ?_
  refine e_if_ne (tgt := 298) hx hb dX13_reads_235 (by decide) (fun c235 => ?_) (fun c235 => ?_)
  · rw [if_neg c235] at hsh
    exact w13_reads_b298 E hp hS (hl.sub [1, 0] rfl) hsh
  · rw [if_pos c235] at hsh
    refine e_aload_n (B := B) (x := x0) hx hb dX13_reads_238 rfl (hl.at 1 rfl) ?_
    obtain ⟨v239, h239, hsh⟩ := Option.bind_eq_some_iff.mp hsh
    refine e_getI (k := 62) hx hb hts in_X13 hown hp h239 rfl (by decide) (by decide) rfl (hts _ kf13_615) rfl dX13_reads_239 ?_
    obtain ⟨⟨v242, S242⟩, h242, hsh⟩ := Option.bind_eq_some_iff.mp hsh
    have hsh : _ = _ := hsh
    try dsimp only at hsh
    refine e_callS (nL := 3) (mc := 0) (ms := 0) (As := [.int (iI (v239))]) (rest := []) hx hb hml hown hts hp hS hl.size (c13_isOperator l D cA B S S242 (v239) v242 h242) rfl rfl kd13_isOperator (kl13_603) ks13_isOperator ki13 kh13_isOperator ⟨Nat.le_of_ble_eq_true rfl, Nat.le_of_ble_eq_true rfl⟩ rfl (by simp [e_rv_cat, e_int_cat]) ⟨Nat.le_refl _, Nat.le_refl _⟩ dX13_reads_242 rfl (fun H locs hp hS => ?_)
    refine e_if_eq (tgt := 298) hx hb dX13_reads_245 (by decide) (fun c245 => ?_) (fun c245 => ?_)
    · rw [if_pos c245] at hsh
      exact w13_reads_b298 E hp hS (hl.sub [1, 0] rfl) hsh
    · rw [if_neg c245] at hsh
      refine e_aload_n (B := B) (x := x0) hx hb dX13_reads_248 rfl (hl.at 1 rfl) ?_
      refine e_aload_n (B := B) (x := x0) hx hb dX13_reads_249 rfl (hl.at 1 rfl) ?_
      obtain ⟨v250, h250, hsh⟩ := Option.bind_eq_some_iff.mp hsh
      refine e_getI (k := 62) hx hb hts in_X13 hown hp h250 rfl (by decide) (by decide) rfl (hts _ kf13_615) rfl dX13_reads_250 ?_
      obtain ⟨S253, h253, hsh⟩ := Option.bind_eq_some_iff.mp hsh
      refine e_putI (k := 60) hx hb hts in_X13 tyX13 tyX13_ok nmX13 hown hp hS h253 rfl (by decide) (by decide) rfl (hts _ kf13_630) rfl rfl (by decide +kernel) dX13_reads_253 (fun H locs hp hS => ?_)
      refine e_aload_n (B := B) (x := x0) hx hb dX13_reads_256 rfl (hl.at 1 rfl) ?_
      refine lv_iload_n hx hb dX13_reads_257 rfl (hl.at 0 rfl) ?_
      obtain ⟨S258, h258, hsh⟩ := Option.bind_eq_some_iff.mp hsh
      refine e_putI (k := 69) hx hb hts in_X13 tyX13 tyX13_ok nmX13 hown hp hS h258 rfl (by decide) (by decide) rfl (hts _ kf13_660) rfl rfl (by decide +kernel) dX13_reads_258 (fun H locs hp hS => ?_)
      refine e_aload_n (B := B) (x := x0) hx hb dX13_reads_261 rfl (hl.at 1 rfl) ?_
      refine lv_iload_n hx hb dX13_reads_262 rfl (hl.at 0 rfl) ?_
      obtain ⟨⟨v263, S263⟩, h263, hsh⟩ := Option.bind_eq_some_iff.mp hsh
      have hsh : _ = _ := hsh
      try dsimp only at hsh
      have ok263 := ok13_counts h263
      refine e_callI (nL := 3) (mc := 0) (ms := 0) (T := TX13) (N := 126) (As := [.int (iI ((x1 + 1)))]) (rest := []) hx hb hml hown hts hp hS hl.size ok263.1 ok263.2.1 ok263.2.2 rfl (by decide) (c13_counts l D cA B S258 S263 (x0) ((x1 + 1)) v263 h263) rfl rfl kd13_counts (kl13_651) ks13_counts kv13_counts ki13 kh13_counts ⟨Nat.le_of_ble_eq_true rfl, Nat.le_of_ble_eq_true rfl⟩ rfl (by simp [e_rv_cat, e_int_cat]) ⟨Nat.le_refl _, Nat.le_refl _⟩ dX13_reads_263 rfl (fun H locs hp hS => ?_)
      refine e_istore_n (lv' := [(1, .int (iI (v263))), (0, e_rv B (x0))]) hx hb dX13_reads_266 rfl hl (by decide) rfl (fun ls hl => ?_)
      refine e_aload_n (B := B) (x := x0) hx hb dX13_reads_267 rfl (hl.at 1 rfl) ?_
      refine e_aload_n (B := B) (x := x0) hx hb dX13_reads_268 rfl (hl.at 1 rfl) ?_
      obtain ⟨v269, h269, hsh⟩ := Option.bind_eq_some_iff.mp hsh
      refine e_getI (k := 66) hx hb hts in_X13 hown hp h269 rfl (by decide) (by decide) rfl (hts _ kf13_606) rfl dX13_reads_269 ?_
      obtain ⟨S272, h272, hsh⟩ := Option.bind_eq_some_iff.mp hsh
      refine e_putI (k := 61) hx hb hts in_X13 tyX13 tyX13_ok nmX13 hown hp hS h272 rfl (by decide) (by decide) rfl (hts _ kf13_645) rfl rfl (by decide +kernel) dX13_reads_272 (fun H locs hp hS => ?_)
      refine e_aload_n (B := B) (x := x0) hx hb dX13_reads_275 rfl (hl.at 1 rfl) ?_
      refine lv_iload_n hx hb dX13_reads_276 rfl (hl.at 0 rfl) ?_
      obtain ⟨S277, h277, hsh⟩ := Option.bind_eq_some_iff.mp hsh
      refine e_putI (k := 70) hx hb hts in_X13 tyX13 tyX13_ok nmX13 hown hp hS h277 rfl (by decide) (by decide) rfl (hts _ kf13_663) rfl rfl (by decide +kernel) dX13_reads_277 (fun H locs hp hS => ?_)
      refine lv_iload_n hx hb dX13_reads_280 rfl (hl.at 0 rfl) ?_
      refine e_aload_n (B := B) (x := x0) hx hb dX13_reads_281 rfl (hl.at 1 rfl) ?_
      obtain ⟨v282, h282, hsh⟩ := Option.bind_eq_some_iff.mp hsh
      refine e_getI (k := 55) hx hb hts in_X13 hown hp h282 rfl (by decide) (by decide) rfl (hts _ kf13_609) rfl dX13_reads_282 ?_
      refine e_icmp_ne (tgt := 292) hx hb dX13_reads_285 (by decide) (fun c285 => ?_) (fun c285 => ?_)
      · rw [if_neg c285] at hsh
        refine e_aload_n (B := B) (x := x0) hx hb dX13_reads_292 rfl (hl.at 1 rfl) ?_
        refine lv_iload_n hx hb dX13_reads_293 rfl (hl.at 0 rfl) ?_
        obtain ⟨⟨v294, S294⟩, h294, hsh⟩ := Option.bind_eq_some_iff.mp hsh
        have hsh : _ = _ := hsh
        try dsimp only at hsh
        have ok294 := ok13_readsTarget h294
        refine e_callI (nL := 3) (mc := 0) (ms := 0) (T := TX13) (N := 126) (As := [.int (iI (v263))]) (rest := []) hx hb hml hown hts hp hS hl.size ok294.1 ok294.2.1 ok294.2.2 rfl (by decide) (c13_readsTarget l D cA B S277 S294 (x0) (v263) v294 h294) rfl rfl kd13_readsTarget (kl13_666) ks13_readsTarget kv13_readsTarget ki13 kh13_readsTarget ⟨Nat.le_of_ble_eq_true rfl, Nat.le_of_ble_eq_true rfl⟩ rfl (by simp [e_rv_cat, e_int_cat]) ⟨Nat.le_refl _, Nat.le_refl _⟩ dX13_reads_294 rfl (fun H locs hp hS => ?_)
        exact w13_reads_b297 E hp hS (hl.sub [] rfl) hsh
      · rw [if_pos c285] at hsh
        refine lv_iconst (v := iI (0)) hx hb dX13_reads_288 rfl ?_
        refine lv_goto (tgt := 297) hx hb dX13_reads_289 (by decide) ?_
        exact w13_reads_b297 E hp hS (hl.sub [] rfl) hsh
set_option maxRecDepth 100000 in
set_option maxHeartbeats 4000000 in
theorem w13_reads_b213 {p : Program} {l : Launch} {e : Env} {s : State} {m : MethodId} {args : Array Value} {below : List Frame} {meth : Method} {c : Code} {D : va_G} {cA : Nat → ClassId} {B : Nat} {res : Int × HP} (E : e_En p s m args meth c cX13_reads RX13 3 (some .int)) {ls : Array Slot} {H : Heap} {locs : List Loc} {S : HP} {x0 : Int} {x1 : Int} {y0 : Int} {y1 : Int} (hp : e_Pic D cA B S s H) (hS : va_S (e_A B) s.heap H locs) (hl : e_lo ls 3 [(0, e_rv B (x0)), (1, .int (iI (x1)))]) (hsh : s13_reads_b213 S x0 x1 y0 y1 = some res) : W p l e ({ frames := 4, cells := 0, slots := 0, locals := 85 } : Room) s m args below meth c H locs 0 0 (MQ below (e_Qi D cA B res.1 res.2) args s 0 0 (e_A B)) (F0 m 213 ls [.int (iI (y1)), e_rv B (y0)]) := by
  obtain ⟨hx, hb, hml, hown, hts, hlk, hrt⟩ := id E
  unfold s13_reads_b213 at hsh
  refine e_aload_n (B := B) (x := x0) hx hb dX13_reads_213 rfl (hl.at 0 rfl) ?_
  obtain ⟨v214, h214, hsh⟩ := Option.bind_eq_some_iff.mp hsh
  refine e_getR (k := 57) hx hb hts in_X13 hown hp h214 rfl (by decide) (by decide) rfl (hts _ kf13_95) rfl dX13_reads_214 ?_
  refine lv_iload_n hx hb dX13_reads_217 rfl (hl.at 1 rfl) ?_
  refine lv_iconst (v := iI (1)) hx hb dX13_reads_218 rfl ?_
  refine e_iadd hx hb dX13_reads_219 ?_
  obtain ⟨v220, h220, hsh⟩ := Option.bind_eq_some_iff.mp hsh
  refine e_iald hx hb hp h220 dX13_reads_220 ?_
  refine e_iadd hx hb dX13_reads_221 ?_
  obtain ⟨S222, h222, hsh⟩ := Option.bind_eq_some_iff.mp hsh
  refine e_putI (k := 62) hx hb hts in_X13 tyX13 tyX13_ok nmX13 hown hp hS h222 rfl (by decide) (by decide) rfl (hts _ kf13_615) rfl rfl (by decide +kernel) dX13_reads_222 (fun H locs hp hS => ?_)
  refine e_iinc (n := 1) (x := x1) (lv' := [(1, .int (iI ((x1 + 1)))), (0, e_rv B (x0))]) hx hb dX13_reads_225 hl (k := 1) rfl (by decide) rfl (fun ls hl => ?_)
  exact w13_reads_b228 E hp hS (hl.sub [1, 0] rfl) hsh
set_option maxRecDepth 100000 in
set_option maxHeartbeats 4000000 in
theorem w13_reads_b185 {p : Program} {l : Launch} {e : Env} {s : State} {m : MethodId} {args : Array Value} {below : List Frame} {meth : Method} {c : Code} {D : va_G} {cA : Nat → ClassId} {B : Nat} {res : Int × HP} (E : e_En p s m args meth c cX13_reads RX13 3 (some .int)) {ls : Array Slot} {H : Heap} {locs : List Loc} {S : HP} {x0 : Int} {x1 : Int} {x2 : Int} (hp : e_Pic D cA B S s H) (hS : va_S (e_A B) s.heap H locs) (hl : e_lo ls 3 [(0, e_rv B (x0)), (1, .int (iI (x1))), (2, .int (iI (x2)))]) (hsh : s13_reads_b185 S x0 x1 x2 = some res) : W p l e ({ frames := 4, cells := 0, slots := 0, locals := 85 } : Room) s m args below meth c H locs 0 0 (MQ below (e_Qi D cA B res.1 res.2) args s 0 0 (e_A B)) (F0 m 185 ls []) := by
  obtain ⟨hx, hb, hml, hown, hts, hlk, hrt⟩ := id E
  unfold s13_reads_b185 at hsh
  refine lv_iload_n hx hb dX13_reads_185 rfl (hl.at 1 rfl) ?_
  refine lv_iconst (v := iI (1)) hx hb dX13_reads_186 rfl ?_
  refine e_iadd hx hb dX13_reads_187 ?_
  refine e_aload_n (B := B) (x := x0) hx hb dX13_reads_188 rfl (hl.at 0 rfl) ?_
  obtain ⟨v189, h189, hsh⟩ := Option.bind_eq_some_iff.mp hsh
  refine e_getI (k := 55) hx hb hts in_X13 hown hp h189 rfl (by decide) (by decide) rfl (hts _ kf13_609) rfl dX13_reads_189 ?_
  refine e_icmp_ne (tgt := 197) hx hb dX13_reads_192 (by decide) (fun c192 => ?_) (fun c192 => ?_)
  · rw [if_neg c192] at hsh
    refine e_aload_n (B := B) (x := x0) hx hb dX13_reads_197 rfl (hl.at 0 rfl) ?_
    refine lv_iload_n hx hb dX13_reads_198 rfl (hl.at 2 rfl) ?_
    refine lv_bipush (v := iI (103)) hx hb dX13_reads_199 (by decide +kernel) ?_
    refine e_icmp_ne (tgt := 210) hx hb dX13_reads_201 (by decide) (fun c201 => ?_) (fun c201 => ?_)
    · rw [if_neg c201] at hsh
      refine lv_sipush (v := iI (512)) hx hb dX13_reads_210 (by decide +kernel) ?_
      exact w13_reads_b213 E hp hS (hl.sub [0, 1] rfl) hsh
    · rw [if_pos c201] at hsh
      refine lv_sipush (v := iI (256)) hx hb dX13_reads_204 (by decide +kernel) ?_
      refine lv_goto (tgt := 213) hx hb dX13_reads_207 (by decide) ?_
      exact w13_reads_b213 E hp hS (hl.sub [0, 1] rfl) hsh
  · rw [if_pos c192] at hsh
    refine lv_iconst (v := iI (0)) hx hb dX13_reads_195 rfl ?_
    cases hsh
    exact e_iret hx hb hrt hlk hp hS dX13_reads_196
set_option maxRecDepth 100000 in
set_option maxHeartbeats 4000000 in
theorem w13_reads_b173 {p : Program} {l : Launch} {e : Env} {s : State} {m : MethodId} {args : Array Value} {below : List Frame} {meth : Method} {c : Code} {D : va_G} {cA : Nat → ClassId} {B : Nat} {res : Int × HP} (E : e_En p s m args meth c cX13_reads RX13 3 (some .int)) {ls : Array Slot} {H : Heap} {locs : List Loc} {S : HP} {x0 : Int} {x1 : Int} {x2 : Int} (hp : e_Pic D cA B S s H) (hS : va_S (e_A B) s.heap H locs) (hl : e_lo ls 3 [(0, e_rv B (x0)), (1, .int (iI (x1))), (2, .int (iI (x2)))]) (hsh : s13_reads_b173 S x0 x1 x2 = some res) : W p l e ({ frames := 4, cells := 0, slots := 0, locals := 85 } : Room) s m args below meth c H locs 0 0 (MQ below (e_Qi D cA B res.1 res.2) args s 0 0 (e_A B)) (F0 m 173 ls []) := by
  obtain ⟨hx, hb, hml, hown, hts, hlk, hrt⟩ := id E
  unfold s13_reads_b173 at hsh
  refine lv_iload_n hx hb dX13_reads_173 rfl (hl.at 2 rfl) ?_
  refine lv_bipush (v := iI (103)) hx hb dX13_reads_174 (by decide +kernel) ?_
  refine e_icmp_eq (tgt := 185) hx hb dX13_reads_176 (by decide) (fun c176 => ?_) (fun c176 => ?_)
  · rw [if_pos c176] at hsh
    exact w13_reads_b185 E hp hS (hl.sub [0, 1, 2] rfl) hsh
  · rw [if_neg c176] at hsh
    refine lv_iload_n hx hb dX13_reads_179 rfl (hl.at 2 rfl) ?_
    refine lv_bipush (v := iI (122)) hx hb dX13_reads_180 (by decide +kernel) ?_
    refine e_icmp_ne (tgt := 228) hx hb dX13_reads_182 (by decide) (fun c182 => ?_) (fun c182 => ?_)
    · rw [if_neg c182] at hsh
      exact w13_reads_b228 E hp hS (hl.sub [0, 1] rfl) hsh
    · rw [if_pos c182] at hsh
      exact w13_reads_b185 E hp hS (hl.sub [0, 1, 2] rfl) hsh
set_option maxRecDepth 100000 in
set_option maxHeartbeats 4000000 in
theorem w13_reads_b167 {p : Program} {l : Launch} {e : Env} {s : State} {m : MethodId} {args : Array Value} {below : List Frame} {meth : Method} {c : Code} {D : va_G} {cA : Nat → ClassId} {B : Nat} {res : Int × HP} (E : e_En p s m args meth c cX13_reads RX13 3 (some .int)) {ls : Array Slot} {H : Heap} {locs : List Loc} {S : HP} {x0 : Int} {x1 : Int} (hp : e_Pic D cA B S s H) (hS : va_S (e_A B) s.heap H locs) (hl : e_lo ls 3 [(0, e_rv B (x0)), (1, .int (iI (x1)))]) (hsh : s13_reads_b167 S x0 x1 = some res) : W p l e ({ frames := 4, cells := 0, slots := 0, locals := 85 } : Room) s m args below meth c H locs 0 0 (MQ below (e_Qi D cA B res.1 res.2) args s 0 0 (e_A B)) (F0 m 167 ls []) := by
  obtain ⟨hx, hb, hml, hown, hts, hlk, hrt⟩ := id E
  unfold s13_reads_b167 at hsh
  refine e_aload_n (B := B) (x := x0) hx hb dX13_reads_167 rfl (hl.at 0 rfl) ?_
  refine lv_iload_n hx hb dX13_reads_168 rfl (hl.at 1 rfl) ?_
  obtain ⟨⟨v169, S169⟩, h169, hsh⟩ := Option.bind_eq_some_iff.mp hsh
  have hsh : _ = _ := hsh
  try dsimp only at hsh
  have ok169 := ok13_readsObject h169
  refine e_callI (nL := 3) (mc := 0) (ms := 0) (T := TX13) (N := 126) (As := [.int (iI (x1))]) (rest := []) hx hb hml hown hts hp hS hl.size ok169.1 ok169.2.1 ok169.2.2 rfl (by decide) (c13_readsObject l D cA B S S169 (x0) (x1) v169 h169) rfl rfl kd13_readsObject (kl13_633) ks13_readsObject kv13_readsObject ki13 kh13_readsObject ⟨Nat.le_of_ble_eq_true rfl, Nat.le_of_ble_eq_true rfl⟩ rfl (by simp [e_rv_cat, e_int_cat]) ⟨Nat.le_refl _, Nat.le_refl _⟩ dX13_reads_169 rfl (fun H locs hp hS => ?_)
  cases hsh
  exact e_iret hx hb hrt hlk hp hS dX13_reads_172
set_option maxRecDepth 100000 in
set_option maxHeartbeats 4000000 in
theorem w13_reads_b85 {p : Program} {l : Launch} {e : Env} {s : State} {m : MethodId} {args : Array Value} {below : List Frame} {meth : Method} {c : Code} {D : va_G} {cA : Nat → ClassId} {B : Nat} {res : Int × HP} (E : e_En p s m args meth c cX13_reads RX13 3 (some .int)) {ls : Array Slot} {H : Heap} {locs : List Loc} {S : HP} {x0 : Int} {x1 : Int} (hp : e_Pic D cA B S s H) (hS : va_S (e_A B) s.heap H locs) (hl : e_lo ls 3 [(0, e_rv B (x0)), (1, .int (iI (x1)))]) (hsh : s13_reads_b85 S x0 x1 = some res) : W p l e ({ frames := 4, cells := 0, slots := 0, locals := 85 } : Room) s m args below meth c H locs 0 0 (MQ below (e_Qi D cA B res.1 res.2) args s 0 0 (e_A B)) (F0 m 85 ls []) := by
  obtain ⟨hx, hb, hml, hown, hts, hlk, hrt⟩ := id E
  unfold s13_reads_b85 at hsh
  refine e_aload_n (B := B) (x := x0) hx hb dX13_reads_85 rfl (hl.at 0 rfl) ?_
  refine lv_iload_n hx hb dX13_reads_86 rfl (hl.at 1 rfl) ?_
  obtain ⟨S87, h87, hsh⟩ := Option.bind_eq_some_iff.mp hsh
  refine e_putI (k := 67) hx hb hts in_X13 tyX13 tyX13_ok nmX13 hown hp hS h87 rfl (by decide) (by decide) rfl (hts _ kf13_648) rfl rfl (by decide +kernel) dX13_reads_87 (fun H locs hp hS => ?_)
  refine e_aload_n (B := B) (x := x0) hx hb dX13_reads_90 rfl (hl.at 0 rfl) ?_
  refine lv_iload_n hx hb dX13_reads_91 rfl (hl.at 1 rfl) ?_
  obtain ⟨⟨v92, S92⟩, h92, hsh⟩ := Option.bind_eq_some_iff.mp hsh
  have hsh : _ = _ := hsh
  try dsimp only at hsh
  have ok92 := ok13_counts h92
  refine e_callI (nL := 3) (mc := 0) (ms := 0) (T := TX13) (N := 126) (As := [.int (iI (x1))]) (rest := []) hx hb hml hown hts hp hS hl.size ok92.1 ok92.2.1 ok92.2.2 rfl (by decide) (c13_counts l D cA B S87 S92 (x0) (x1) v92 h92) rfl rfl kd13_counts (kl13_651) ks13_counts kv13_counts ki13 kh13_counts ⟨Nat.le_of_ble_eq_true rfl, Nat.le_of_ble_eq_true rfl⟩ rfl (by simp [e_rv_cat, e_int_cat]) ⟨Nat.le_refl _, Nat.le_refl _⟩ dX13_reads_92 rfl (fun H locs hp hS => ?_)
  refine e_istore_n (lv' := [(1, .int (iI (v92))), (0, e_rv B (x0))]) hx hb dX13_reads_95 rfl hl (by decide) rfl (fun ls hl => ?_)
  refine e_aload_n (B := B) (x := x0) hx hb dX13_reads_96 rfl (hl.at 1 rfl) ?_
  refine e_aload_n (B := B) (x := x0) hx hb dX13_reads_97 rfl (hl.at 1 rfl) ?_
  obtain ⟨v98, h98, hsh⟩ := Option.bind_eq_some_iff.mp hsh
  refine e_getI (k := 66) hx hb hts in_X13 hown hp h98 rfl (by decide) (by decide) rfl (hts _ kf13_606) rfl dX13_reads_98 ?_
  obtain ⟨S101, h101, hsh⟩ := Option.bind_eq_some_iff.mp hsh
  refine e_putI (k := 59) hx hb hts in_X13 tyX13 tyX13_ok nmX13 hown hp hS h101 rfl (by decide) (by decide) rfl (hts _ kf13_654) rfl rfl (by decide +kernel) dX13_reads_101 (fun H locs hp hS => ?_)
  refine e_aload_n (B := B) (x := x0) hx hb dX13_reads_104 rfl (hl.at 1 rfl) ?_
  refine lv_iload_n hx hb dX13_reads_105 rfl (hl.at 0 rfl) ?_
  obtain ⟨S106, h106, hsh⟩ := Option.bind_eq_some_iff.mp hsh
  refine e_putI (k := 68) hx hb hts in_X13 tyX13 tyX13_ok nmX13 hown hp hS h106 rfl (by decide) (by decide) rfl (hts _ kf13_657) rfl rfl (by decide +kernel) dX13_reads_106 (fun H locs hp hS => ?_)
  refine e_aload_n (B := B) (x := x0) hx hb dX13_reads_109 rfl (hl.at 1 rfl) ?_
  refine lv_iload_n hx hb dX13_reads_110 rfl (hl.at 0 rfl) ?_
  obtain ⟨S111, h111, hsh⟩ := Option.bind_eq_some_iff.mp hsh
  refine e_putI (k := 69) hx hb hts in_X13 tyX13 tyX13_ok nmX13 hown hp hS h111 rfl (by decide) (by decide) rfl (hts _ kf13_660) rfl rfl (by decide +kernel) dX13_reads_111 (fun H locs hp hS => ?_)
  refine e_aload_n (B := B) (x := x0) hx hb dX13_reads_114 rfl (hl.at 1 rfl) ?_
  refine lv_iload_n hx hb dX13_reads_115 rfl (hl.at 0 rfl) ?_
  obtain ⟨S116, h116, hsh⟩ := Option.bind_eq_some_iff.mp hsh
  refine e_putI (k := 70) hx hb hts in_X13 tyX13 tyX13_ok nmX13 hown hp hS h116 rfl (by decide) (by decide) rfl (hts _ kf13_663) rfl rfl (by decide +kernel) dX13_reads_116 (fun H locs hp hS => ?_)
  refine lv_iload_n hx hb dX13_reads_119 rfl (hl.at 0 rfl) ?_
  refine e_aload_n (B := B) (x := x0) hx hb dX13_reads_120 rfl (hl.at 1 rfl) ?_
  obtain ⟨v121, h121, hsh⟩ := Option.bind_eq_some_iff.mp hsh
  refine e_getI (k := 55) hx hb hts in_X13 hown hp h121 rfl (by decide) (by decide) rfl (hts _ kf13_609) rfl dX13_reads_121 ?_
  refine e_icmp_ne (tgt := 129) hx hb dX13_reads_124 (by decide) (fun c124 => ?_) (fun c124 => ?_)
  · rw [if_neg c124] at hsh
    refine e_aload_n (B := B) (x := x0) hx hb dX13_reads_129 rfl (hl.at 1 rfl) ?_
    obtain ⟨v130, h130, hsh⟩ := Option.bind_eq_some_iff.mp hsh
    refine e_getR (k := 57) hx hb hts in_X13 hown hp h130 rfl (by decide) (by decide) rfl (hts _ kf13_95) rfl dX13_reads_130 ?_
    refine lv_iload_n hx hb dX13_reads_133 rfl (hl.at 0 rfl) ?_
    obtain ⟨v134, h134, hsh⟩ := Option.bind_eq_some_iff.mp hsh
    refine e_iald hx hb hp h134 dX13_reads_134 ?_
    refine e_istore_n (lv' := [(2, .int (iI (v134))), (1, .int (iI (v92))), (0, e_rv B (x0))]) hx hb dX13_reads_135 rfl hl (by decide) rfl (fun ls hl => ?_)
    refine e_aload_n (B := B) (x := x0) hx hb dX13_reads_136 rfl (hl.at 2 rfl) ?_
    refine lv_iload_n hx hb dX13_reads_137 rfl (hl.at 0 rfl) ?_
    obtain ⟨S138, h138, hsh⟩ := Option.bind_eq_some_iff.mp hsh
    refine e_putI (k := 62) hx hb hts in_X13 tyX13 tyX13_ok nmX13 hown hp hS h138 rfl (by decide) (by decide) rfl (hts _ kf13_615) rfl rfl (by decide +kernel) dX13_reads_138 (fun H locs hp hS => ?_)
    refine e_aload_n (B := B) (x := x0) hx hb dX13_reads_141 rfl (hl.at 2 rfl) ?_
    refine lv_iload_n hx hb dX13_reads_142 rfl (hl.at 1 rfl) ?_
    refine lv_iconst (v := iI (1)) hx hb dX13_reads_143 rfl ?_
    refine e_iadd hx hb dX13_reads_144 ?_
    obtain ⟨S145, h145, hsh⟩ := Option.bind_eq_some_iff.mp hsh
    refine e_putI (k := 64) hx hb hts in_X13 tyX13 tyX13_ok nmX13 hown hp hS h145 rfl (by decide) (by decide) rfl (hts _ kf13_627) rfl rfl (by decide +kernel) dX13_reads_145 (fun H locs hp hS => ?_)
    refine e_aload_n (B := B) (x := x0) hx hb dX13_reads_148 rfl (hl.at 2 rfl) ?_
    obtain ⟨v149, h149, hsh⟩ := Option.bind_eq_some_iff.mp hsh
    refine e_getI (k := 8) hx hb hts in_X13 hown hp h149 rfl (by decide) (by decide) rfl (hts _ kf13_466) rfl dX13_reads_149 ?_
    refine e_if_eq (tgt := 173) hx hb dX13_reads_152 (by decide) (fun c152 => ?_) (fun c152 => ?_)
    · rw [if_pos c152] at hsh
      exact w13_reads_b173 E hp hS (hl.sub [2, 1, 0] rfl) hsh
    · rw [if_neg c152] at hsh
      refine lv_iload_n hx hb dX13_reads_155 rfl (hl.at 0 rfl) ?_
      refine lv_bipush (v := iI (105)) hx hb dX13_reads_156 (by decide +kernel) ?_
      refine e_icmp_eq (tgt := 167) hx hb dX13_reads_158 (by decide) (fun c158 => ?_) (fun c158 => ?_)
      · rw [if_pos c158] at hsh
        exact w13_reads_b167 E hp hS (hl.sub [2, 1] rfl) hsh
      · rw [if_neg c158] at hsh
        refine lv_iload_n hx hb dX13_reads_161 rfl (hl.at 0 rfl) ?_
        refine lv_bipush (v := iI (97)) hx hb dX13_reads_162 (by decide +kernel) ?_
        refine e_icmp_ne (tgt := 173) hx hb dX13_reads_164 (by decide) (fun c164 => ?_) (fun c164 => ?_)
        · rw [if_neg c164] at hsh
          exact w13_reads_b173 E hp hS (hl.sub [2, 1, 0] rfl) hsh
        · rw [if_pos c164] at hsh
          exact w13_reads_b167 E hp hS (hl.sub [2, 1] rfl) hsh
  · rw [if_pos c124] at hsh
    refine lv_iconst (v := iI (0)) hx hb dX13_reads_127 rfl ?_
    cases hsh
    exact e_iret hx hb hrt hlk hp hS dX13_reads_128
set_option maxRecDepth 100000 in
set_option maxHeartbeats 4000000 in
theorem w13_reads_b82 {p : Program} {l : Launch} {e : Env} {s : State} {m : MethodId} {args : Array Value} {below : List Frame} {meth : Method} {c : Code} {D : va_G} {cA : Nat → ClassId} {B : Nat} {res : Int × HP} (E : e_En p s m args meth c cX13_reads RX13 3 (some .int)) {ls : Array Slot} {H : Heap} {locs : List Loc} {S : HP} {y0 : Int} (hp : e_Pic D cA B S s H) (hS : va_S (e_A B) s.heap H locs) (hl : e_lo ls 3 []) (hsh : s13_reads_b82 S y0 = some res) : W p l e ({ frames := 4, cells := 0, slots := 0, locals := 85 } : Room) s m args below meth c H locs 0 0 (MQ below (e_Qi D cA B res.1 res.2) args s 0 0 (e_A B)) (F0 m 82 ls [.int (iI (y0))]) := by
  obtain ⟨hx, hb, hml, hown, hts, hlk, hrt⟩ := id E
  unfold s13_reads_b82 at hsh
  cases hsh
  exact e_iret hx hb hrt hlk hp hS dX13_reads_82
set_option maxRecDepth 100000 in
set_option maxHeartbeats 4000000 in
theorem w13_reads_b69 {p : Program} {l : Launch} {e : Env} {s : State} {m : MethodId} {args : Array Value} {below : List Frame} {meth : Method} {c : Code} {D : va_G} {cA : Nat → ClassId} {B : Nat} {res : Int × HP} (E : e_En p s m args meth c cX13_reads RX13 3 (some .int)) {ls : Array Slot} {H : Heap} {locs : List Loc} {S : HP} {x0 : Int} (hp : e_Pic D cA B S s H) (hS : va_S (e_A B) s.heap H locs) (hl : e_lo ls 3 [(0, e_rv B (x0))]) (hsh : s13_reads_b69 S x0 = some res) : W p l e ({ frames := 4, cells := 0, slots := 0, locals := 85 } : Room) s m args below meth c H locs 0 0 (MQ below (e_Qi D cA B res.1 res.2) args s 0 0 (e_A B)) (F0 m 69 ls []) := by
  obtain ⟨hx, hb, hml, hown, hts, hlk, hrt⟩ := id E
  unfold s13_reads_b69 at hsh
  refine e_aload_n (B := B) (x := x0) hx hb dX13_reads_69 rfl (hl.at 0 rfl) ?_
  obtain ⟨v70, h70, hsh⟩ := Option.bind_eq_some_iff.mp hsh
  refine e_getI (k := 55) hx hb hts in_X13 hown hp h70 rfl (by decide) (by decide) rfl (hts _ kf13_609) rfl dX13_reads_70 ?_
  refine lv_iconst (v := iI (1)) hx hb dX13_reads_73 rfl ?_
  refine e_icmp_ne (tgt := 81) hx hb dX13_reads_74 (by decide) (fun c74 => ?_) (fun c74 => ?_)
  · rw [if_neg c74] at hsh
    refine lv_iconst (v := iI (1)) hx hb dX13_reads_81 rfl ?_
    exact w13_reads_b82 E hp hS (hl.sub [] rfl) hsh
  · rw [if_pos c74] at hsh
    refine lv_iconst (v := iI (0)) hx hb dX13_reads_77 rfl ?_
    refine lv_goto (tgt := 82) hx hb dX13_reads_78 (by decide) ?_
    exact w13_reads_b82 E hp hS (hl.sub [] rfl) hsh
set_option maxRecDepth 100000 in
set_option maxHeartbeats 4000000 in
theorem w13_reads_b47 {p : Program} {l : Launch} {e : Env} {s : State} {m : MethodId} {args : Array Value} {below : List Frame} {meth : Method} {c : Code} {D : va_G} {cA : Nat → ClassId} {B : Nat} {res : Int × HP} (E : e_En p s m args meth c cX13_reads RX13 3 (some .int)) {ls : Array Slot} {H : Heap} {locs : List Loc} {S : HP} {x0 : Int} {y0 : Int} {y1 : Int} (hp : e_Pic D cA B S s H) (hS : va_S (e_A B) s.heap H locs) (hl : e_lo ls 3 [(0, e_rv B (x0))]) (hsh : s13_reads_b47 S x0 y0 y1 = some res) : W p l e ({ frames := 4, cells := 0, slots := 0, locals := 85 } : Room) s m args below meth c H locs 0 0 (MQ below (e_Qi D cA B res.1 res.2) args s 0 0 (e_A B)) (F0 m 47 ls [.int (iI (y1)), e_rv B (y0)]) := by
  obtain ⟨hx, hb, hml, hown, hts, hlk, hrt⟩ := id E
  unfold s13_reads_b47 at hsh
  obtain ⟨S47, h47, hsh⟩ := Option.bind_eq_some_iff.mp hsh
  refine e_putI (k := 58) hx hb hts in_X13 tyX13 tyX13_ok nmX13 hown hp hS h47 rfl (by decide) (by decide) rfl (hts _ kf13_642) rfl rfl (by decide +kernel) dX13_reads_47 (fun H locs hp hS => ?_)
  refine e_aload_n (B := B) (x := x0) hx hb dX13_reads_50 rfl (hl.at 0 rfl) ?_
  obtain ⟨v51, h51, hsh⟩ := Option.bind_eq_some_iff.mp hsh
  refine e_getI (k := 55) hx hb hts in_X13 hown hp h51 rfl (by decide) (by decide) rfl (hts _ kf13_609) rfl dX13_reads_51 ?_
  refine lv_iconst (v := iI (1)) hx hb dX13_reads_54 rfl ?_
  refine e_icmp_eq (tgt := 69) hx hb dX13_reads_55 (by decide) (fun c55 => ?_) (fun c55 => ?_)
  · rw [if_pos c55] at hsh
    exact w13_reads_b69 E hp hS (hl.sub [0] rfl) hsh
  · rw [if_neg c55] at hsh
    refine e_aload_n (B := B) (x := x0) hx hb dX13_reads_58 rfl (hl.at 0 rfl) ?_
    obtain ⟨v59, h59, hsh⟩ := Option.bind_eq_some_iff.mp hsh
    refine e_getI (k := 58) hx hb hts in_X13 hown hp h59 rfl (by decide) (by decide) rfl (hts _ kf13_642) rfl dX13_reads_59 ?_
    obtain ⟨⟨v62, S62⟩, h62, hsh⟩ := Option.bind_eq_some_iff.mp hsh
    have hsh : _ = _ := hsh
    try dsimp only at hsh
    refine e_callS (nL := 3) (mc := 0) (ms := 0) (As := [.int (iI (v59))]) (rest := []) hx hb hml hown hts hp hS hl.size (c13_registerOf l D cA B S47 S62 (v59) v62 h62) rfl rfl kd13_registerOf (kl13_457) ks13_registerOf ki13 kh13_registerOf ⟨Nat.le_of_ble_eq_true rfl, Nat.le_of_ble_eq_true rfl⟩ rfl (by simp [e_rv_cat, e_int_cat]) ⟨Nat.le_refl _, Nat.le_refl _⟩ dX13_reads_62 rfl (fun H locs hp hS => ?_)
    refine lv_iconst (v := iI (-1)) hx hb dX13_reads_65 rfl ?_
    refine e_icmp_ne (tgt := 83) hx hb dX13_reads_66 (by decide) (fun c66 => ?_) (fun c66 => ?_)
    · rw [if_neg c66] at hsh
      refine lv_iconst (v := iI (2)) hx hb dX13_reads_83 rfl ?_
      refine e_istore_n (lv' := [(1, .int (iI (2))), (0, e_rv B (x0))]) hx hb dX13_reads_84 rfl hl (by decide) rfl (fun ls hl => ?_)
      exact w13_reads_b85 E hp hS (hl.sub [1, 0] rfl) hsh
    · rw [if_pos c66] at hsh
      exact w13_reads_b69 E hp hS (hl.sub [0] rfl) hsh
set_option maxRecDepth 100000 in
set_option maxHeartbeats 4000000 in
theorem c13_reads (l : Launch) (D : va_G) (cA : Nat → ClassId) (B : Nat) (S S' : HP) (x0 : Int) (r : Int) (hsh : s13_reads S x0 = some (r, S')) : Met l yX13_reads (e_wu yX13_reads cX13_reads 3 (some .int)) ({ frames := 4, cells := 0, slots := 0, locals := 85 } : Room) (va_Pc [e_rv B (x0)] (fun U => e_PU D cA B S U)) (e_Qi D cA B r S') 0 0 (e_A B) := by
  refine Met.ofW (cc := cX13_reads) (maxL := 3) (ret := (some .int)) (by decide +kernel) rfl ?_
  intro p e s m args below meth c s₁ Bd hml hv
  obtain ⟨rfl, hp⟩ := hv
  have hp : e_Pic D cA B S s s.heap := hp
  have hx := Bd.exec
  have hb := Bd.bytes
  have hrt := Bd.returns
  have hlk := Bd.notSynchronized
  have hown : s.vm.findClass RX13 = some m.cls := findClass_of_methodNamed Bd.named
  have hts : ∀ w ∈ e_tb, w.before ([e_rv B (x0)] : List Value).toArray s = true := fun w h => atoms_spec (ws := (e_wu yX13_reads cX13_reads 3 (some .int))) Bd.pre w (List.mem_cons_of_mem _ h)
  have E : e_En p s m ([e_rv B (x0)] : List Value).toArray meth c cX13_reads RX13 3 (some .int) := ⟨hx, hb, hml, hown, hts, hlk, hrt⟩
  have hS : va_S (e_A B) s.heap s.heap [] := va_S.rf
  have hl := e_entry (vs := [e_rv B (x0)]) (n := 3) (Nat.le_of_ble_eq_true rfl) (e_cc (e_rv_cat _ _) e_cn)
  rw [lg_entry_eq]
  generalize (lg_sl [e_rv B (x0)] ++ List.replicate (3 - (lg_sl [e_rv B (x0)]).length) Slot.unset).toArray = ls at hl ⊢
  generalize ([e_rv B (x0)] : List Value).toArray = args at hts E ⊢
  have hl : e_lo ls 3 [(0, e_rv B (x0))] := hl
  have hsh := (gd_some hsh).2
  refine lv_iconst (v := iI (0)) hx hb dX13_reads_0 rfl ?_
  refine e_istore_n (lv' := [(1, .int (iI (0))), (0, e_rv B (x0))]) hx hb dX13_reads_1 rfl hl (by decide) rfl (fun ls hl => ?_)
  refine e_aload_n (B := B) (x := x0) hx hb dX13_reads_2 rfl (hl.at 1 rfl) ?_
  refine lv_iconst (v := iI (0)) hx hb dX13_reads_3 rfl ?_
  obtain ⟨S4, h4, hsh⟩ := Option.bind_eq_some_iff.mp hsh
  refine e_putI (k := 58) hx hb hts in_X13 tyX13 tyX13_ok nmX13 hown hp hS h4 rfl (by decide) (by decide) rfl (hts _ kf13_642) rfl rfl (by decide +kernel) dX13_reads_4 (fun H locs hp hS => ?_)
  refine e_aload_n (B := B) (x := x0) hx hb dX13_reads_7 rfl (hl.at 1 rfl) ?_
  refine lv_iconst (v := iI (0)) hx hb dX13_reads_8 rfl ?_
  obtain ⟨S9, h9, hsh⟩ := Option.bind_eq_some_iff.mp hsh
  refine e_putI (k := 60) hx hb hts in_X13 tyX13 tyX13_ok nmX13 hown hp hS h9 rfl (by decide) (by decide) rfl (hts _ kf13_630) rfl rfl (by decide +kernel) dX13_reads_9 (fun H locs hp hS => ?_)
  refine e_aload_n (B := B) (x := x0) hx hb dX13_reads_12 rfl (hl.at 1 rfl) ?_
  refine lv_iconst (v := iI (0)) hx hb dX13_reads_13 rfl ?_
  obtain ⟨S14, h14, hsh⟩ := Option.bind_eq_some_iff.mp hsh
  refine e_putI (k := 61) hx hb hts in_X13 tyX13 tyX13_ok nmX13 hown hp hS h14 rfl (by decide) (by decide) rfl (hts _ kf13_645) rfl rfl (by decide +kernel) dX13_reads_14 (fun H locs hp hS => ?_)
  refine e_aload_n (B := B) (x := x0) hx hb dX13_reads_17 rfl (hl.at 1 rfl) ?_
  obtain ⟨v18, h18, hsh⟩ := Option.bind_eq_some_iff.mp hsh
  refine e_getR (k := 57) hx hb hts in_X13 hown hp h18 rfl (by decide) (by decide) rfl (hts _ kf13_95) rfl dX13_reads_18 ?_
  refine lv_iconst (v := iI (0)) hx hb dX13_reads_21 rfl ?_
  obtain ⟨v22, h22, hsh⟩ := Option.bind_eq_some_iff.mp hsh
  refine e_iald hx hb hp h22 dX13_reads_22 ?_
  refine lv_bipush (v := iI (34)) hx hb dX13_reads_23 (by decide +kernel) ?_
  refine e_icmp_ne (tgt := 85) hx hb dX13_reads_25 (by decide) (fun c25 => ?_) (fun c25 => ?_)
  · rw [if_neg c25] at hsh
    exact w13_reads_b85 E hp hS (hl.sub [1, 0] rfl) hsh
  · rw [if_pos c25] at hsh
    refine e_aload_n (B := B) (x := x0) hx hb dX13_reads_28 rfl (hl.at 1 rfl) ?_
    refine e_aload_n (B := B) (x := x0) hx hb dX13_reads_29 rfl (hl.at 1 rfl) ?_
    obtain ⟨v30, h30, hsh⟩ := Option.bind_eq_some_iff.mp hsh
    refine e_getI (k := 55) hx hb hts in_X13 hown hp h30 rfl (by decide) (by decide) rfl (hts _ kf13_609) rfl dX13_reads_30 ?_
    refine lv_iconst (v := iI (1)) hx hb dX13_reads_33 rfl ?_
    refine e_icmp_le (tgt := 46) hx hb dX13_reads_34 (by decide) (fun c34 => ?_) (fun c34 => ?_)
    · rw [if_pos c34] at hsh
      refine lv_iconst (v := iI (0)) hx hb dX13_reads_46 rfl ?_
      exact w13_reads_b47 E hp hS (hl.sub [1] rfl) hsh
    · rw [if_neg c34] at hsh
      refine e_aload_n (B := B) (x := x0) hx hb dX13_reads_37 rfl (hl.at 1 rfl) ?_
      obtain ⟨v38, h38, hsh⟩ := Option.bind_eq_some_iff.mp hsh
      refine e_getR (k := 57) hx hb hts in_X13 hown hp h38 rfl (by decide) (by decide) rfl (hts _ kf13_95) rfl dX13_reads_38 ?_
      refine lv_iconst (v := iI (1)) hx hb dX13_reads_41 rfl ?_
      obtain ⟨v42, h42, hsh⟩ := Option.bind_eq_some_iff.mp hsh
      refine e_iald hx hb hp h42 dX13_reads_42 ?_
      refine lv_goto (tgt := 47) hx hb dX13_reads_43 (by decide) ?_
      exact w13_reads_b47 E hp hS (hl.sub [1] rfl) hsh
theorem ok13_fails {S : HP} {x0 : Int} {r : HP} (h : s13_fails S x0 = some r) : 0 ≤ x0 ∧ x0.toNat < e_n S ∧ e_g S x0.toNat = 13 := (gd_some h).1
set_option maxRecDepth 100000 in
set_option maxHeartbeats 4000000 in
theorem c13_fails (l : Launch) (D : va_G) (cA : Nat → ClassId) (B : Nat) (S S' : HP) (x0 : Int) (hsh : s13_fails S x0 = some S') : Met l yX13_fails (e_wu yX13_fails cX13_fails 1 none) ({ frames := 1, cells := 0, slots := 0, locals := 22 } : Room) (va_Pc [e_rv B (x0)] (fun U => e_PU D cA B S U)) (e_Qv D cA B S') 0 0 (e_A B) := by
  refine Met.ofW (cc := cX13_fails) (maxL := 1) (ret := none) (by decide +kernel) rfl ?_
  intro p e s m args below meth c s₁ Bd hml hv
  obtain ⟨rfl, hp⟩ := hv
  have hp : e_Pic D cA B S s s.heap := hp
  have hx := Bd.exec
  have hb := Bd.bytes
  have hrt := Bd.returns
  have hlk := Bd.notSynchronized
  have hown : s.vm.findClass RX13 = some m.cls := findClass_of_methodNamed Bd.named
  have hts : ∀ w ∈ e_tb, w.before ([e_rv B (x0)] : List Value).toArray s = true := fun w h => atoms_spec (ws := (e_wu yX13_fails cX13_fails 1 none)) Bd.pre w (List.mem_cons_of_mem _ h)
  have E : e_En p s m ([e_rv B (x0)] : List Value).toArray meth c cX13_fails RX13 1 none := ⟨hx, hb, hml, hown, hts, hlk, hrt⟩
  have hS : va_S (e_A B) s.heap s.heap [] := va_S.rf
  have hl := e_entry (vs := [e_rv B (x0)]) (n := 1) (Nat.le_of_ble_eq_true rfl) (e_cc (e_rv_cat _ _) e_cn)
  rw [lg_entry_eq]
  generalize (lg_sl [e_rv B (x0)] ++ List.replicate (1 - (lg_sl [e_rv B (x0)]).length) Slot.unset).toArray = ls at hl ⊢
  generalize ([e_rv B (x0)] : List Value).toArray = args at hts E ⊢
  have hl : e_lo ls 1 [(0, e_rv B (x0))] := hl
  have hsh := (gd_some hsh).2
  refine e_aload_n (B := B) (x := x0) hx hb dX13_fails_0 rfl (hl.at 0 rfl) ?_
  obtain ⟨S1, h1, hsh⟩ := Option.bind_eq_some_iff.mp hsh
  have ok1 := ok13_forgets h1
  refine e_callV (nL := 1) (mc := 0) (ms := 0) (T := TX13) (N := 126) (As := []) (rest := []) hx hb hml hown hts hp hS hl.size ok1.1 ok1.2.1 ok1.2.2 rfl (by decide) (c13_forgets l D cA B S S1 (x0) h1) rfl rfl kd13_forgets (kl13_678) ks13_forgets kv13_forgets ki13 kh13_forgets ⟨Nat.le_of_ble_eq_true rfl, Nat.le_of_ble_eq_true rfl⟩ rfl (by simp [e_rv_cat, e_int_cat]) ⟨Nat.le_refl _, Nat.le_refl _⟩ dX13_fails_1 rfl (fun H locs hp hS => ?_)
  refine e_aload_n (B := B) (x := x0) hx hb dX13_fails_4 rfl (hl.at 0 rfl) ?_
  obtain ⟨⟨v5, S5⟩, h5, hsh⟩ := Option.bind_eq_some_iff.mp hsh
  have hsh : _ = _ := hsh
  try dsimp only at hsh
  have ok5 := ok13_isServing h5
  refine e_callI (nL := 1) (mc := 0) (ms := 0) (T := TX13) (N := 126) (As := []) (rest := []) hx hb hml hown hts hp hS hl.size ok5.1 ok5.2.1 ok5.2.2 rfl (by decide) (c13_isServing l D cA B S1 S5 (x0) v5 h5) rfl rfl kd13_isServing (kl13_247) ks13_isServing kv13_isServing ki13 kh13_isServing ⟨Nat.le_of_ble_eq_true rfl, Nat.le_of_ble_eq_true rfl⟩ rfl (by simp [e_rv_cat, e_int_cat]) ⟨Nat.le_refl _, Nat.le_refl _⟩ dX13_fails_5 rfl (fun H locs hp hS => ?_)
  refine e_if_eq (tgt := 39) hx hb dX13_fails_8 (by decide) (fun c8 => ?_) (fun c8 => ?_)
  · rw [if_pos c8] at hsh
    refine e_aload_n (B := B) (x := x0) hx hb dX13_fails_39 rfl (hl.at 0 rfl) ?_
    refine lv_dup hx hb dX13_fails_40 (e_rv_cat _ _) ?_
    obtain ⟨v41, h41, hsh⟩ := Option.bind_eq_some_iff.mp hsh
    refine e_getI (k := 33) hx hb hts in_X13 hown hp h41 rfl (by decide) (by decide) rfl (hts _ kf13_684) rfl dX13_fails_41 ?_
    refine lv_iconst (v := iI (1)) hx hb dX13_fails_44 rfl ?_
    refine e_iadd hx hb dX13_fails_45 ?_
    obtain ⟨S46, h46, hsh⟩ := Option.bind_eq_some_iff.mp hsh
    refine e_putI (k := 33) hx hb hts in_X13 tyX13 tyX13_ok nmX13 hown hp hS h46 rfl (by decide) (by decide) rfl (hts _ kf13_684) rfl rfl (by decide +kernel) dX13_fails_46 (fun H locs hp hS => ?_)
    refine e_aload_n (B := B) (x := x0) hx hb dX13_fails_49 rfl (hl.at 0 rfl) ?_
    refine lv_iconst (v := iI (0)) hx hb dX13_fails_50 rfl ?_
    obtain ⟨S51, h51, hsh⟩ := Option.bind_eq_some_iff.mp hsh
    refine e_putI (k := 90) hx hb hts in_X13 tyX13 tyX13_ok nmX13 hown hp hS h51 rfl (by decide) (by decide) rfl (hts _ kf13_672) rfl rfl (by decide +kernel) dX13_fails_51 (fun H locs hp hS => ?_)
    refine e_aload_n (B := B) (x := x0) hx hb dX13_fails_54 rfl (hl.at 0 rfl) ?_
    obtain ⟨S55, h55, hsh⟩ := Option.bind_eq_some_iff.mp hsh
    have ok55 := ok13_dropsMapped h55
    refine e_callV (nL := 1) (mc := 0) (ms := 0) (T := TX13) (N := 126) (As := []) (rest := []) hx hb hml hown hts hp hS hl.size ok55.1 ok55.2.1 ok55.2.2 rfl (by decide) (c13_dropsMapped l D cA B S51 S55 (x0) h55) rfl rfl kd13_dropsMapped (kl13_687) ks13_dropsMapped kv13_dropsMapped ki13 kh13_dropsMapped ⟨Nat.le_of_ble_eq_true rfl, Nat.le_of_ble_eq_true rfl⟩ rfl (by simp [e_rv_cat, e_int_cat]) ⟨Nat.le_refl _, Nat.le_refl _⟩ dX13_fails_55 rfl (fun H locs hp hS => ?_)
    cases hsh
    exact e_vret hx hb hrt hlk hp hS dX13_fails_58
  · rw [if_neg c8] at hsh
    refine e_aload_n (B := B) (x := x0) hx hb dX13_fails_11 rfl (hl.at 0 rfl) ?_
    obtain ⟨v12, h12, hsh⟩ := Option.bind_eq_some_iff.mp hsh
    refine e_getR (k := 94) hx hb hts in_X13 hown hp h12 rfl (by decide) (by decide) rfl (hts _ kf13_132) rfl dX13_fails_12 ?_
    refine e_aload_n (B := B) (x := x0) hx hb dX13_fails_15 rfl (hl.at 0 rfl) ?_
    obtain ⟨v16, h16, hsh⟩ := Option.bind_eq_some_iff.mp hsh
    refine e_getI (k := 90) hx hb hts in_X13 hown hp h16 rfl (by decide) (by decide) rfl (hts _ kf13_672) rfl dX13_fails_16 ?_
    refine lv_iconst (v := iI (1)) hx hb dX13_fails_19 rfl ?_
    refine e_isub hx hb dX13_fails_20 ?_
    refine e_aload_n (B := B) (x := x0) hx hb dX13_fails_21 rfl (hl.at 0 rfl) ?_
    obtain ⟨v22, h22, hsh⟩ := Option.bind_eq_some_iff.mp hsh
    refine e_getR (k := 93) hx hb hts in_X13 hown hp h22 rfl (by decide) (by decide) rfl (hts _ kf13_129) rfl dX13_fails_22 ?_
    refine e_aload_n (B := B) (x := x0) hx hb dX13_fails_25 rfl (hl.at 0 rfl) ?_
    obtain ⟨v26, h26, hsh⟩ := Option.bind_eq_some_iff.mp hsh
    refine e_getI (k := 90) hx hb hts in_X13 hown hp h26 rfl (by decide) (by decide) rfl (hts _ kf13_672) rfl dX13_fails_26 ?_
    refine lv_iconst (v := iI (1)) hx hb dX13_fails_29 rfl ?_
    refine e_isub hx hb dX13_fails_30 ?_
    obtain ⟨v31, h31, hsh⟩ := Option.bind_eq_some_iff.mp hsh
    refine e_iald hx hb hp h31 dX13_fails_31 ?_
    obtain ⟨S32, h32, hsh⟩ := Option.bind_eq_some_iff.mp hsh
    refine e_iast hx hb hp hS h32 dX13_fails_32 (fun H locs hp hS => ?_)
    refine e_aload_n (B := B) (x := x0) hx hb dX13_fails_33 rfl (hl.at 0 rfl) ?_
    refine lv_iconst (v := iI (1)) hx hb dX13_fails_34 rfl ?_
    obtain ⟨S35, h35, hsh⟩ := Option.bind_eq_some_iff.mp hsh
    refine e_putZ (k := 79) hx hb hts in_X13 tyX13 tyX13_ok nmX13 hown hp hS h35 rfl (by decide) (by decide) rfl (hts _ kf13_681) rfl rfl (by decide +kernel) dX13_fails_35 (fun H locs hp hS => ?_)
    cases hsh
    exact e_vret hx hb hrt hlk hp hS dX13_fails_38
theorem ok13_isServed {S : HP} {x0 : Int} {x1 : Int} {x2 : Int} {r : Int × HP} (h : s13_isServed S x0 x1 x2 = some r) : 0 ≤ x0 ∧ x0.toNat < e_n S ∧ e_g S x0.toNat = 13 := (gd_some h).1
set_option maxRecDepth 100000 in
set_option maxHeartbeats 4000000 in
theorem w13_isServed_b100 {p : Program} {l : Launch} {e : Env} {s : State} {m : MethodId} {args : Array Value} {below : List Frame} {meth : Method} {c : Code} {D : va_G} {cA : Nat → ClassId} {B : Nat} {res : Int × HP} (E : e_En p s m args meth c cX13_isServed RX13 3 (some .boolean)) {ls : Array Slot} {H : Heap} {locs : List Loc} {S : HP} {y0 : Int} (hp : e_Pic D cA B S s H) (hS : va_S (e_A B) s.heap H locs) (hl : e_lo ls 3 []) (hsh : s13_isServed_b100 S y0 = some res) : W p l e ({ frames := 2, cells := 0, slots := 0, locals := 40 } : Room) s m args below meth c H locs 0 0 (MQ below (e_Qi D cA B res.1 res.2) args s 0 0 (e_A B)) (F0 m 100 ls [.int (iI (y0))]) := by
  obtain ⟨hx, hb, hml, hown, hts, hlk, hrt⟩ := id E
  unfold s13_isServed_b100 at hsh
  obtain ⟨hz, hz1, hz2⟩ := zR_some hsh
  rw [← hz1, ← hz2]
  exact e_zret hx hb hrt hlk hp hS hz dX13_isServed_100
set_option maxRecDepth 100000 in
set_option maxHeartbeats 4000000 in
theorem w13_isServed_b95 {p : Program} {l : Launch} {e : Env} {s : State} {m : MethodId} {args : Array Value} {below : List Frame} {meth : Method} {c : Code} {D : va_G} {cA : Nat → ClassId} {B : Nat} {res : Int × HP} (E : e_En p s m args meth c cX13_isServed RX13 3 (some .boolean)) {ls : Array Slot} {H : Heap} {locs : List Loc} {S : HP} (hp : e_Pic D cA B S s H) (hS : va_S (e_A B) s.heap H locs) (hl : e_lo ls 3 []) (hsh : s13_isServed_b95 S  = some res) : W p l e ({ frames := 2, cells := 0, slots := 0, locals := 40 } : Room) s m args below meth c H locs 0 0 (MQ below (e_Qi D cA B res.1 res.2) args s 0 0 (e_A B)) (F0 m 95 ls []) := by
  obtain ⟨hx, hb, hml, hown, hts, hlk, hrt⟩ := id E
  unfold s13_isServed_b95 at hsh
  refine lv_iconst (v := iI (1)) hx hb dX13_isServed_95 rfl ?_
  refine lv_goto (tgt := 100) hx hb dX13_isServed_96 (by decide) ?_
  exact w13_isServed_b100 E hp hS (hl.sub [] rfl) hsh
set_option maxRecDepth 100000 in
set_option maxHeartbeats 4000000 in
theorem c13_isServed (l : Launch) (D : va_G) (cA : Nat → ClassId) (B : Nat) (S S' : HP) (x0 : Int) (x1 : Int) (x2 : Int) (r : Int) (hsh : s13_isServed S x0 x1 x2 = some (r, S')) : Met l yX13_isServed (e_wu yX13_isServed cX13_isServed 3 (some .boolean)) ({ frames := 2, cells := 0, slots := 0, locals := 40 } : Room) (va_Pc [e_rv B (x0), .int (iI (x1)), .int (iI (x2))] (fun U => e_PU D cA B S U)) (e_Qi D cA B r S') 0 0 (e_A B) := by
  refine Met.ofW (cc := cX13_isServed) (maxL := 3) (ret := (some .boolean)) (by decide +kernel) rfl ?_
  intro p e s m args below meth c s₁ Bd hml hv
  obtain ⟨rfl, hp⟩ := hv
  have hp : e_Pic D cA B S s s.heap := hp
  have hx := Bd.exec
  have hb := Bd.bytes
  have hrt := Bd.returns
  have hlk := Bd.notSynchronized
  have hown : s.vm.findClass RX13 = some m.cls := findClass_of_methodNamed Bd.named
  have hts : ∀ w ∈ e_tb, w.before ([e_rv B (x0), .int (iI (x1)), .int (iI (x2))] : List Value).toArray s = true := fun w h => atoms_spec (ws := (e_wu yX13_isServed cX13_isServed 3 (some .boolean))) Bd.pre w (List.mem_cons_of_mem _ h)
  have E : e_En p s m ([e_rv B (x0), .int (iI (x1)), .int (iI (x2))] : List Value).toArray meth c cX13_isServed RX13 3 (some .boolean) := ⟨hx, hb, hml, hown, hts, hlk, hrt⟩
  have hS : va_S (e_A B) s.heap s.heap [] := va_S.rf
  have hl := e_entry (vs := [e_rv B (x0), .int (iI (x1)), .int (iI (x2))]) (n := 3) (Nat.le_of_ble_eq_true rfl) (e_cc (e_rv_cat _ _) (e_cc rfl (e_cc rfl e_cn)))
  rw [lg_entry_eq]
  generalize (lg_sl [e_rv B (x0), .int (iI (x1)), .int (iI (x2))] ++ List.replicate (3 - (lg_sl [e_rv B (x0), .int (iI (x1)), .int (iI (x2))]).length) Slot.unset).toArray = ls at hl ⊢
  generalize ([e_rv B (x0), .int (iI (x1)), .int (iI (x2))] : List Value).toArray = args at hts E ⊢
  have hl : e_lo ls 3 [(0, e_rv B (x0)), (1, .int (iI (x1))), (2, .int (iI (x2)))] := hl
  have hsh := (gd_some hsh).2
  refine lv_iload_n hx hb dX13_isServed_0 rfl (hl.at 1 rfl) ?_
  refine e_if_ne (tgt := 95) hx hb dX13_isServed_1 (by decide) (fun c1 => ?_) (fun c1 => ?_)
  · rw [if_neg c1] at hsh
    exact w13_isServed_b95 E hp hS (hl.sub [] rfl) hsh
  · rw [if_pos c1] at hsh
    refine lv_iload_n hx hb dX13_isServed_4 rfl (hl.at 2 rfl) ?_
    obtain ⟨⟨v5, S5⟩, h5, hsh⟩ := Option.bind_eq_some_iff.mp hsh
    have hsh : _ = _ := hsh
    try dsimp only at hsh
    refine e_callS (nL := 3) (mc := 0) (ms := 0) (As := [.int (iI (x2))]) (rest := []) hx hb hml hown hts hp hS hl.size (c13_isMotion l D cA B S S5 (x2) v5 h5) rfl rfl kd13_isMotion (kl13_636) ks13_isMotion ki13 kh13_isMotion ⟨Nat.le_of_ble_eq_true rfl, Nat.le_of_ble_eq_true rfl⟩ rfl (by simp [e_rv_cat, e_int_cat]) ⟨Nat.le_refl _, Nat.le_refl _⟩ dX13_isServed_5 rfl (fun H locs hp hS => ?_)
    refine e_if_ne (tgt := 95) hx hb dX13_isServed_8 (by decide) (fun c8 => ?_) (fun c8 => ?_)
    · rw [if_neg c8] at hsh
      exact w13_isServed_b95 E hp hS (hl.sub [] rfl) hsh
    · rw [if_pos c8] at hsh
      refine lv_iload_n hx hb dX13_isServed_11 rfl (hl.at 2 rfl) ?_
      refine lv_bipush (v := iI (120)) hx hb dX13_isServed_12 (by decide +kernel) ?_
      refine e_icmp_eq (tgt := 95) hx hb dX13_isServed_14 (by decide) (fun c14 => ?_) (fun c14 => ?_)
      · rw [if_pos c14] at hsh
        exact w13_isServed_b95 E hp hS (hl.sub [] rfl) hsh
      · rw [if_neg c14] at hsh
        refine lv_iload_n hx hb dX13_isServed_17 rfl (hl.at 2 rfl) ?_
        refine lv_bipush (v := iI (88)) hx hb dX13_isServed_18 (by decide +kernel) ?_
        refine e_icmp_eq (tgt := 95) hx hb dX13_isServed_20 (by decide) (fun c20 => ?_) (fun c20 => ?_)
        · rw [if_pos c20] at hsh
          exact w13_isServed_b95 E hp hS (hl.sub [] rfl) hsh
        · rw [if_neg c20] at hsh
          refine lv_iload_n hx hb dX13_isServed_23 rfl (hl.at 2 rfl) ?_
          refine lv_bipush (v := iI (68)) hx hb dX13_isServed_24 (by decide +kernel) ?_
          refine e_icmp_eq (tgt := 95) hx hb dX13_isServed_26 (by decide) (fun c26 => ?_) (fun c26 => ?_)
          · rw [if_pos c26] at hsh
            exact w13_isServed_b95 E hp hS (hl.sub [] rfl) hsh
          · rw [if_neg c26] at hsh
            refine lv_iload_n hx hb dX13_isServed_29 rfl (hl.at 2 rfl) ?_
            refine lv_bipush (v := iI (115)) hx hb dX13_isServed_30 (by decide +kernel) ?_
            refine e_icmp_eq (tgt := 95) hx hb dX13_isServed_32 (by decide) (fun c32 => ?_) (fun c32 => ?_)
            · rw [if_pos c32] at hsh
              exact w13_isServed_b95 E hp hS (hl.sub [] rfl) hsh
            · rw [if_neg c32] at hsh
              refine lv_iload_n hx hb dX13_isServed_35 rfl (hl.at 2 rfl) ?_
              refine lv_bipush (v := iI (114)) hx hb dX13_isServed_36 (by decide +kernel) ?_
              refine e_icmp_eq (tgt := 95) hx hb dX13_isServed_38 (by decide) (fun c38 => ?_) (fun c38 => ?_)
              · rw [if_pos c38] at hsh
                exact w13_isServed_b95 E hp hS (hl.sub [] rfl) hsh
              · rw [if_neg c38] at hsh
                refine lv_iload_n hx hb dX13_isServed_41 rfl (hl.at 2 rfl) ?_
                refine lv_bipush (v := iI (126)) hx hb dX13_isServed_42 (by decide +kernel) ?_
                refine e_icmp_eq (tgt := 95) hx hb dX13_isServed_44 (by decide) (fun c44 => ?_) (fun c44 => ?_)
                · rw [if_pos c44] at hsh
                  exact w13_isServed_b95 E hp hS (hl.sub [] rfl) hsh
                · rw [if_neg c44] at hsh
                  refine lv_iload_n hx hb dX13_isServed_47 rfl (hl.at 2 rfl) ?_
                  refine lv_bipush (v := iI (74)) hx hb dX13_isServed_48 (by decide +kernel) ?_
                  refine e_icmp_eq (tgt := 95) hx hb dX13_isServed_50 (by decide) (fun c50 => ?_) (fun c50 => ?_)
                  · rw [if_pos c50] at hsh
                    exact w13_isServed_b95 E hp hS (hl.sub [] rfl) hsh
                  · rw [if_neg c50] at hsh
                    refine lv_iload_n hx hb dX13_isServed_53 rfl (hl.at 2 rfl) ?_
                    refine lv_bipush (v := iI (112)) hx hb dX13_isServed_54 (by decide +kernel) ?_
                    refine e_icmp_eq (tgt := 95) hx hb dX13_isServed_56 (by decide) (fun c56 => ?_) (fun c56 => ?_)
                    · rw [if_pos c56] at hsh
                      exact w13_isServed_b95 E hp hS (hl.sub [] rfl) hsh
                    · rw [if_neg c56] at hsh
                      refine lv_iload_n hx hb dX13_isServed_59 rfl (hl.at 2 rfl) ?_
                      refine lv_bipush (v := iI (80)) hx hb dX13_isServed_60 (by decide +kernel) ?_
                      refine e_icmp_eq (tgt := 95) hx hb dX13_isServed_62 (by decide) (fun c62 => ?_) (fun c62 => ?_)
                      · rw [if_pos c62] at hsh
                        exact w13_isServed_b95 E hp hS (hl.sub [] rfl) hsh
                      · rw [if_neg c62] at hsh
                        refine lv_iload_n hx hb dX13_isServed_65 rfl (hl.at 2 rfl) ?_
                        refine lv_bipush (v := iI (105)) hx hb dX13_isServed_66 (by decide +kernel) ?_
                        refine e_icmp_eq (tgt := 95) hx hb dX13_isServed_68 (by decide) (fun c68 => ?_) (fun c68 => ?_)
                        · rw [if_pos c68] at hsh
                          exact w13_isServed_b95 E hp hS (hl.sub [] rfl) hsh
                        · rw [if_neg c68] at hsh
                          refine lv_iload_n hx hb dX13_isServed_71 rfl (hl.at 2 rfl) ?_
                          refine lv_bipush (v := iI (97)) hx hb dX13_isServed_72 (by decide +kernel) ?_
                          refine e_icmp_eq (tgt := 95) hx hb dX13_isServed_74 (by decide) (fun c74 => ?_) (fun c74 => ?_)
                          · rw [if_pos c74] at hsh
                            exact w13_isServed_b95 E hp hS (hl.sub [] rfl) hsh
                          · rw [if_neg c74] at hsh
                            refine lv_iload_n hx hb dX13_isServed_77 rfl (hl.at 2 rfl) ?_
                            refine lv_bipush (v := iI (73)) hx hb dX13_isServed_78 (by decide +kernel) ?_
                            refine e_icmp_eq (tgt := 95) hx hb dX13_isServed_80 (by decide) (fun c80 => ?_) (fun c80 => ?_)
                            · rw [if_pos c80] at hsh
                              exact w13_isServed_b95 E hp hS (hl.sub [] rfl) hsh
                            · rw [if_neg c80] at hsh
                              refine lv_iload_n hx hb dX13_isServed_83 rfl (hl.at 2 rfl) ?_
                              refine lv_bipush (v := iI (65)) hx hb dX13_isServed_84 (by decide +kernel) ?_
                              refine e_icmp_eq (tgt := 95) hx hb dX13_isServed_86 (by decide) (fun c86 => ?_) (fun c86 => ?_)
                              · rw [if_pos c86] at hsh
                                exact w13_isServed_b95 E hp hS (hl.sub [] rfl) hsh
                              · rw [if_neg c86] at hsh
                                refine lv_iload_n hx hb dX13_isServed_89 rfl (hl.at 2 rfl) ?_
                                refine lv_bipush (v := iI (67)) hx hb dX13_isServed_90 (by decide +kernel) ?_
                                refine e_icmp_ne (tgt := 99) hx hb dX13_isServed_92 (by decide) (fun c92 => ?_) (fun c92 => ?_)
                                · rw [if_neg c92] at hsh
                                  refine lv_iconst (v := iI (0)) hx hb dX13_isServed_99 rfl ?_
                                  exact w13_isServed_b100 E hp hS (hl.sub [] rfl) hsh
                                · rw [if_pos c92] at hsh
                                  exact w13_isServed_b95 E hp hS (hl.sub [] rfl) hsh
theorem ok13_servesOthers {S : HP} {x0 : Int} {r : HP} (h : s13_servesOthers S x0 = some r) : 0 ≤ x0 ∧ x0.toNat < e_n S ∧ e_g S x0.toNat = 13 := (gd_some h).1
set_option maxRecDepth 100000 in
set_option maxHeartbeats 4000000 in
theorem w13_servesOthers_b164 {p : Program} {l : Launch} {e : Env} {s : State} {m : MethodId} {args : Array Value} {below : List Frame} {meth : Method} {c : Code} {D : va_G} {cA : Nat → ClassId} {B : Nat} {res : HP} (E : e_En p s m args meth c cX13_servesOthers RX13 2 none) {ls : Array Slot} {H : Heap} {locs : List Loc} {S : HP} (hp : e_Pic D cA B S s H) (hS : va_S (e_A B) s.heap H locs) (hl : e_lo ls 2 []) (hsh : s13_servesOthers_b164 S  = some res) : W p l e ({ frames := 2, cells := 0, slots := 0, locals := 45 } : Room) s m args below meth c H locs 0 0 (MQ below (e_Qv D cA B res) args s 0 0 (e_A B)) (F0 m 164 ls []) := by
  obtain ⟨hx, hb, hml, hown, hts, hlk, hrt⟩ := id E
  unfold s13_servesOthers_b164 at hsh
  cases hsh
  exact e_vret hx hb hrt hlk hp hS dX13_servesOthers_164
set_option maxRecDepth 100000 in
set_option maxHeartbeats 4000000 in
theorem w13_servesOthers_b160 {p : Program} {l : Launch} {e : Env} {s : State} {m : MethodId} {args : Array Value} {below : List Frame} {meth : Method} {c : Code} {D : va_G} {cA : Nat → ClassId} {B : Nat} {res : HP} (E : e_En p s m args meth c cX13_servesOthers RX13 2 none) {ls : Array Slot} {H : Heap} {locs : List Loc} {S : HP} {x0 : Int} (hp : e_Pic D cA B S s H) (hS : va_S (e_A B) s.heap H locs) (hl : e_lo ls 2 [(0, e_rv B (x0))]) (hsh : s13_servesOthers_b160 S x0 = some res) : W p l e ({ frames := 2, cells := 0, slots := 0, locals := 45 } : Room) s m args below meth c H locs 0 0 (MQ below (e_Qv D cA B res) args s 0 0 (e_A B)) (F0 m 160 ls []) := by
  obtain ⟨hx, hb, hml, hown, hts, hlk, hrt⟩ := id E
  unfold s13_servesOthers_b160 at hsh
  refine e_aload_n (B := B) (x := x0) hx hb dX13_servesOthers_160 rfl (hl.at 0 rfl) ?_
  obtain ⟨S161, h161, hsh⟩ := Option.bind_eq_some_iff.mp hsh
  have ok161 := ok13_keepsChange h161
  refine e_callV (nL := 2) (mc := 0) (ms := 0) (T := TX13) (N := 126) (As := []) (rest := []) hx hb hml hown hts hp hS hl.size ok161.1 ok161.2.1 ok161.2.2 rfl (by decide) (c13_keepsChange l D cA B S S161 (x0) h161) rfl rfl kd13_keepsChange (kl13_720) ks13_keepsChange kv13_keepsChange ki13 kh13_keepsChange ⟨Nat.le_of_ble_eq_true rfl, Nat.le_of_ble_eq_true rfl⟩ rfl (by simp [e_rv_cat, e_int_cat]) ⟨Nat.le_refl _, Nat.le_refl _⟩ dX13_servesOthers_161 rfl (fun H locs hp hS => ?_)
  exact w13_servesOthers_b164 E hp hS (hl.sub [] rfl) hsh
set_option maxRecDepth 100000 in
set_option maxHeartbeats 4000000 in
theorem w13_servesOthers_b139 {p : Program} {l : Launch} {e : Env} {s : State} {m : MethodId} {args : Array Value} {below : List Frame} {meth : Method} {c : Code} {D : va_G} {cA : Nat → ClassId} {B : Nat} {res : HP} (E : e_En p s m args meth c cX13_servesOthers RX13 2 none) {ls : Array Slot} {H : Heap} {locs : List Loc} {S : HP} {x0 : Int} (hp : e_Pic D cA B S s H) (hS : va_S (e_A B) s.heap H locs) (hl : e_lo ls 2 [(0, e_rv B (x0))]) (hsh : s13_servesOthers_b139 S x0 = some res) : W p l e ({ frames := 2, cells := 0, slots := 0, locals := 45 } : Room) s m args below meth c H locs 0 0 (MQ below (e_Qv D cA B res) args s 0 0 (e_A B)) (F0 m 139 ls []) := by
  obtain ⟨hx, hb, hml, hown, hts, hlk, hrt⟩ := id E
  unfold s13_servesOthers_b139 at hsh
  refine e_aload_n (B := B) (x := x0) hx hb dX13_servesOthers_139 rfl (hl.at 0 rfl) ?_
  obtain ⟨v140, h140, hsh⟩ := Option.bind_eq_some_iff.mp hsh
  refine e_getI (k := 77) hx hb hts in_X13 hown hp h140 rfl (by decide) (by decide) rfl (hts _ kf13_711) rfl dX13_servesOthers_140 ?_
  refine e_if_eq (tgt := 164) hx hb dX13_servesOthers_143 (by decide) (fun c143 => ?_) (fun c143 => ?_)
  · rw [if_pos c143] at hsh
    exact w13_servesOthers_b164 E hp hS (hl.sub [] rfl) hsh
  · rw [if_neg c143] at hsh
    refine e_aload_n (B := B) (x := x0) hx hb dX13_servesOthers_146 rfl (hl.at 0 rfl) ?_
    obtain ⟨⟨v147, S147⟩, h147, hsh⟩ := Option.bind_eq_some_iff.mp hsh
    have hsh : _ = _ := hsh
    try dsimp only at hsh
    have ok147 := ok13_isChanged h147
    refine e_callI (nL := 2) (mc := 0) (ms := 0) (T := TX13) (N := 126) (As := []) (rest := []) hx hb hml hown hts hp hS hl.size ok147.1 ok147.2.1 ok147.2.2 rfl (by decide) (c13_isChanged l D cA B S S147 (x0) v147 h147) rfl rfl kd13_isChanged (kl13_714) ks13_isChanged kv13_isChanged ki13 kh13_isChanged ⟨Nat.le_of_ble_eq_true rfl, Nat.le_of_ble_eq_true rfl⟩ rfl (by simp [e_rv_cat, e_int_cat]) ⟨Nat.le_refl _, Nat.le_refl _⟩ dX13_servesOthers_147 rfl (fun H locs hp hS => ?_)
    refine e_if_ne (tgt := 160) hx hb dX13_servesOthers_150 (by decide) (fun c150 => ?_) (fun c150 => ?_)
    · rw [if_neg c150] at hsh
      exact w13_servesOthers_b160 E hp hS (hl.sub [0] rfl) hsh
    · rw [if_pos c150] at hsh
      refine e_aload_n (B := B) (x := x0) hx hb dX13_servesOthers_153 rfl (hl.at 0 rfl) ?_
      obtain ⟨⟨v154, S154⟩, h154, hsh⟩ := Option.bind_eq_some_iff.mp hsh
      have hsh : _ = _ := hsh
      try dsimp only at hsh
      have ok154 := ok13_isRepeating h154
      refine e_callI (nL := 2) (mc := 0) (ms := 0) (T := TX13) (N := 126) (As := []) (rest := []) hx hb hml hown hts hp hS hl.size ok154.1 ok154.2.1 ok154.2.2 rfl (by decide) (c13_isRepeating l D cA B S147 S154 (x0) v154 h154) rfl rfl kd13_isRepeating (kl13_717) ks13_isRepeating kv13_isRepeating ki13 kh13_isRepeating ⟨Nat.le_of_ble_eq_true rfl, Nat.le_of_ble_eq_true rfl⟩ rfl (by simp [e_rv_cat, e_int_cat]) ⟨Nat.le_refl _, Nat.le_refl _⟩ dX13_servesOthers_154 rfl (fun H locs hp hS => ?_)
      refine e_if_eq (tgt := 164) hx hb dX13_servesOthers_157 (by decide) (fun c157 => ?_) (fun c157 => ?_)
      · rw [if_pos c157] at hsh
        exact w13_servesOthers_b164 E hp hS (hl.sub [] rfl) hsh
      · rw [if_neg c157] at hsh
        exact w13_servesOthers_b160 E hp hS (hl.sub [0] rfl) hsh
set_option maxRecDepth 100000 in
set_option maxHeartbeats 4000000 in
theorem w13_servesOthers_b105 {p : Program} {l : Launch} {e : Env} {s : State} {m : MethodId} {args : Array Value} {below : List Frame} {meth : Method} {c : Code} {D : va_G} {cA : Nat → ClassId} {B : Nat} {res : HP} (E : e_En p s m args meth c cX13_servesOthers RX13 2 none) {ls : Array Slot} {H : Heap} {locs : List Loc} {S : HP} {x0 : Int} {y0 : Int} {y1 : Int} {y2 : Int} (hp : e_Pic D cA B S s H) (hS : va_S (e_A B) s.heap H locs) (hl : e_lo ls 2 [(0, e_rv B (x0))]) (hsh : s13_servesOthers_b105 S x0 y0 y1 y2 = some res) : W p l e ({ frames := 2, cells := 0, slots := 0, locals := 45 } : Room) s m args below meth c H locs 0 0 (MQ below (e_Qv D cA B res) args s 0 0 (e_A B)) (F0 m 105 ls [.int (iI (y2)), .int (iI (y1)), e_rv B (y0)]) := by
  obtain ⟨hx, hb, hml, hown, hts, hlk, hrt⟩ := id E
  unfold s13_servesOthers_b105 at hsh
  obtain ⟨S105, h105, hsh⟩ := Option.bind_eq_some_iff.mp hsh
  refine e_iast hx hb hp hS h105 dX13_servesOthers_105 (fun H locs hp hS => ?_)
  refine e_aload_n (B := B) (x := x0) hx hb dX13_servesOthers_106 rfl (hl.at 0 rfl) ?_
  obtain ⟨v107, h107, hsh⟩ := Option.bind_eq_some_iff.mp hsh
  refine e_getR (k := 24) hx hb hts in_X13 hown hp h107 rfl (by decide) (by decide) rfl (hts _ kf13_54) rfl dX13_servesOthers_107 ?_
  refine lv_bipush (v := iI (11)) hx hb dX13_servesOthers_110 (by decide +kernel) ?_
  refine e_aload_n (B := B) (x := x0) hx hb dX13_servesOthers_112 rfl (hl.at 0 rfl) ?_
  obtain ⟨v113, h113, hsh⟩ := Option.bind_eq_some_iff.mp hsh
  refine e_getI (k := 5) hx hb hts in_X13 hown hp h113 rfl (by decide) (by decide) rfl (hts _ kf13_213) rfl dX13_servesOthers_113 ?_
  obtain ⟨S116, h116, hsh⟩ := Option.bind_eq_some_iff.mp hsh
  refine e_iast hx hb hp hS h116 dX13_servesOthers_116 (fun H locs hp hS => ?_)
  refine e_aload_n (B := B) (x := x0) hx hb dX13_servesOthers_117 rfl (hl.at 0 rfl) ?_
  obtain ⟨v118, h118, hsh⟩ := Option.bind_eq_some_iff.mp hsh
  refine e_getR (k := 25) hx hb hts in_X13 hown hp h118 rfl (by decide) (by decide) rfl (hts _ kf13_57) rfl dX13_servesOthers_118 ?_
  refine lv_bipush (v := iI (11)) hx hb dX13_servesOthers_121 (by decide +kernel) ?_
  refine e_aload_n (B := B) (x := x0) hx hb dX13_servesOthers_123 rfl (hl.at 0 rfl) ?_
  obtain ⟨v124, h124, hsh⟩ := Option.bind_eq_some_iff.mp hsh
  refine e_getI (k := 6) hx hb hts in_X13 hown hp h124 rfl (by decide) (by decide) rfl (hts _ kf13_216) rfl dX13_servesOthers_124 ?_
  obtain ⟨S127, h127, hsh⟩ := Option.bind_eq_some_iff.mp hsh
  refine e_iast hx hb hp hS h127 dX13_servesOthers_127 (fun H locs hp hS => ?_)
  refine e_aload_n (B := B) (x := x0) hx hb dX13_servesOthers_128 rfl (hl.at 0 rfl) ?_
  refine e_aload_n (B := B) (x := x0) hx hb dX13_servesOthers_129 rfl (hl.at 0 rfl) ?_
  obtain ⟨v130, h130, hsh⟩ := Option.bind_eq_some_iff.mp hsh
  refine e_getI (k := 7) hx hb hts in_X13 hown hp h130 rfl (by decide) (by decide) rfl (hts _ kf13_219) rfl dX13_servesOthers_130 ?_
  obtain ⟨S133, h133, hsh⟩ := Option.bind_eq_some_iff.mp hsh
  refine e_putI (k := 78) hx hb hts in_X13 tyX13 tyX13_ok nmX13 hown hp hS h133 rfl (by decide) (by decide) rfl (hts _ kf13_708) rfl rfl (by decide +kernel) dX13_servesOthers_133 (fun H locs hp hS => ?_)
  refine lv_goto (tgt := 164) hx hb dX13_servesOthers_136 (by decide) ?_
  exact w13_servesOthers_b164 E hp hS (hl.sub [] rfl) hsh
set_option maxRecDepth 100000 in
set_option maxHeartbeats 4000000 in
theorem w13_servesOthers_l22 {p : Program} {l : Launch} {e : Env} {s : State} {m : MethodId} {args : Array Value} {below : List Frame} {meth : Method} {c : Code} {D : va_G} {cA : Nat → ClassId} {B : Nat} {res : HP} (E : e_En p s m args meth c cX13_servesOthers RX13 2 none) : ∀ (f : Nat) {ls : Array Slot} {H : Heap} {locs : List Loc} {S : HP} {x0 : Int} {x1 : Int} (hp : e_Pic D cA B S s H) (hS : va_S (e_A B) s.heap H locs) (hl : e_lo ls 2 [(0, e_rv B (x0)), (1, .int (iI (x1)))]) (hsh : s13_servesOthers_l22 f S x0 x1 = some res), W p l e ({ frames := 2, cells := 0, slots := 0, locals := 45 } : Room) s m args below meth c H locs 0 0 (MQ below (e_Qv D cA B res) args s 0 0 (e_A B)) (F0 m 22 ls []) := by
  obtain ⟨hx, hb, hml, hown, hts, hlk, hrt⟩ := id E
  intro f
  induction f with
  | zero => intro ls H locs S x0 x1 hp hS hl hsh; cases hsh
  | succ f ih =>
    intro ls H locs S x0 x1 hp hS hl hsh
    have hk22 : ∀ {ls : Array Slot} {H : Heap} {locs : List Loc} {S : HP} {x0 : Int} {x1 : Int} (hp : e_Pic D cA B S s H) (hS : va_S (e_A B) s.heap H locs) (hl : e_lo ls 2 [(0, e_rv B (x0)), (1, .int (iI (x1)))]) (hsh : (s13_servesOthers_l22 f) S x0 x1 = some res), W p l e ({ frames := 2, cells := 0, slots := 0, locals := 45 } : Room) s m args below meth c H locs 0 0 (MQ below (e_Qv D cA B res) args s 0 0 (e_A B)) (F0 m 22 ls []) := ih
    generalize hkk : s13_servesOthers_l22 f = k22 at hk22
    rw [s13_servesOthers_l22] at hsh
    rw [hkk] at hsh
    try dsimp only at hsh
    refine lv_iload_n hx hb dX13_servesOthers_22 rfl (hl.at 1 rfl) ?_
    refine e_aload_n (B := B) (x := x0) hx hb dX13_servesOthers_23 rfl (hl.at 0 rfl) ?_
    obtain ⟨v24, h24, hsh⟩ := Option.bind_eq_some_iff.mp hsh
    refine e_getI (k := 74) hx hb hts in_X13 hown hp h24 rfl (by decide) (by decide) rfl (hts _ kf13_690) rfl dX13_servesOthers_24 ?_
    refine e_icmp_ge (tgt := 46) hx hb dX13_servesOthers_27 (by decide) (fun c27 => ?_) (fun c27 => ?_)
    · rw [if_pos c27] at hsh
      refine e_aload_n (B := B) (x := x0) hx hb dX13_servesOthers_46 rfl (hl.at 0 rfl) ?_
      obtain ⟨v47, h47, hsh⟩ := Option.bind_eq_some_iff.mp hsh
      refine e_getR (k := 96) hx hb hts in_X13 hown hp h47 rfl (by decide) (by decide) rfl (hts _ kf13_138) rfl dX13_servesOthers_47 ?_
      refine e_aload_n (B := B) (x := x0) hx hb dX13_servesOthers_50 rfl (hl.at 0 rfl) ?_
      obtain ⟨v51, h51, hsh⟩ := Option.bind_eq_some_iff.mp hsh
      refine e_getI (k := 90) hx hb hts in_X13 hown hp h51 rfl (by decide) (by decide) rfl (hts _ kf13_672) rfl dX13_servesOthers_51 ?_
      refine lv_iconst (v := iI (1)) hx hb dX13_servesOthers_54 rfl ?_
      refine e_isub hx hb dX13_servesOthers_55 ?_
      refine e_aload_n (B := B) (x := x0) hx hb dX13_servesOthers_56 rfl (hl.at 0 rfl) ?_
      obtain ⟨v57, h57, hsh⟩ := Option.bind_eq_some_iff.mp hsh
      refine e_getI (k := 23) hx hb hts in_X13 hown hp h57 rfl (by decide) (by decide) rfl (hts _ kf13_244) rfl dX13_servesOthers_57 ?_
      obtain ⟨S60, h60, hsh⟩ := Option.bind_eq_some_iff.mp hsh
      refine e_iast hx hb hp hS h60 dX13_servesOthers_60 (fun H locs hp hS => ?_)
      refine e_aload_n (B := B) (x := x0) hx hb dX13_servesOthers_61 rfl (hl.at 0 rfl) ?_
      obtain ⟨v62, h62, hsh⟩ := Option.bind_eq_some_iff.mp hsh
      refine e_getR (k := 94) hx hb hts in_X13 hown hp h62 rfl (by decide) (by decide) rfl (hts _ kf13_132) rfl dX13_servesOthers_62 ?_
      refine e_aload_n (B := B) (x := x0) hx hb dX13_servesOthers_65 rfl (hl.at 0 rfl) ?_
      obtain ⟨v66, h66, hsh⟩ := Option.bind_eq_some_iff.mp hsh
      refine e_getI (k := 90) hx hb hts in_X13 hown hp h66 rfl (by decide) (by decide) rfl (hts _ kf13_672) rfl dX13_servesOthers_66 ?_
      refine lv_iconst (v := iI (1)) hx hb dX13_servesOthers_69 rfl ?_
      refine e_isub hx hb dX13_servesOthers_70 ?_
      refine e_aload_n (B := B) (x := x0) hx hb dX13_servesOthers_71 rfl (hl.at 0 rfl) ?_
      obtain ⟨v72, h72, hsh⟩ := Option.bind_eq_some_iff.mp hsh
      refine e_getR (k := 93) hx hb hts in_X13 hown hp h72 rfl (by decide) (by decide) rfl (hts _ kf13_129) rfl dX13_servesOthers_72 ?_
      refine e_aload_n (B := B) (x := x0) hx hb dX13_servesOthers_75 rfl (hl.at 0 rfl) ?_
      obtain ⟨v76, h76, hsh⟩ := Option.bind_eq_some_iff.mp hsh
      refine e_getI (k := 90) hx hb hts in_X13 hown hp h76 rfl (by decide) (by decide) rfl (hts _ kf13_672) rfl dX13_servesOthers_76 ?_
      refine lv_iconst (v := iI (1)) hx hb dX13_servesOthers_79 rfl ?_
      refine e_isub hx hb dX13_servesOthers_80 ?_
      obtain ⟨v81, h81, hsh⟩ := Option.bind_eq_some_iff.mp hsh
      refine e_iald hx hb hp h81 dX13_servesOthers_81 ?_
      obtain ⟨S82, h82, hsh⟩ := Option.bind_eq_some_iff.mp hsh
      refine e_iast hx hb hp hS h82 dX13_servesOthers_82 (fun H locs hp hS => ?_)
      refine e_aload_n (B := B) (x := x0) hx hb dX13_servesOthers_83 rfl (hl.at 0 rfl) ?_
      obtain ⟨v84, h84, hsh⟩ := Option.bind_eq_some_iff.mp hsh
      refine e_getR (k := 97) hx hb hts in_X13 hown hp h84 rfl (by decide) (by decide) rfl (hts _ kf13_141) rfl dX13_servesOthers_84 ?_
      refine e_aload_n (B := B) (x := x0) hx hb dX13_servesOthers_87 rfl (hl.at 0 rfl) ?_
      obtain ⟨v88, h88, hsh⟩ := Option.bind_eq_some_iff.mp hsh
      refine e_getI (k := 90) hx hb hts in_X13 hown hp h88 rfl (by decide) (by decide) rfl (hts _ kf13_672) rfl dX13_servesOthers_88 ?_
      refine lv_iconst (v := iI (1)) hx hb dX13_servesOthers_91 rfl ?_
      refine e_isub hx hb dX13_servesOthers_92 ?_
      refine e_aload_n (B := B) (x := x0) hx hb dX13_servesOthers_93 rfl (hl.at 0 rfl) ?_
      obtain ⟨v94, h94, hsh⟩ := Option.bind_eq_some_iff.mp hsh
      refine e_getI (k := 80) hx hb hts in_X13 hown hp h94 rfl (by decide) (by decide) rfl (hts _ kf13_705) rfl dX13_servesOthers_94 ?_
      refine e_if_eq (tgt := 104) hx hb dX13_servesOthers_97 (by decide) (fun c97 => ?_) (fun c97 => ?_)
      · rw [if_pos c97] at hsh
        refine lv_iconst (v := iI (0)) hx hb dX13_servesOthers_104 rfl ?_
        exact w13_servesOthers_b105 E hp hS (hl.sub [0] rfl) hsh
      · rw [if_neg c97] at hsh
        refine lv_iconst (v := iI (1)) hx hb dX13_servesOthers_100 rfl ?_
        refine lv_goto (tgt := 105) hx hb dX13_servesOthers_101 (by decide) ?_
        exact w13_servesOthers_b105 E hp hS (hl.sub [0] rfl) hsh
    · rw [if_neg c27] at hsh
      refine e_aload_n (B := B) (x := x0) hx hb dX13_servesOthers_30 rfl (hl.at 0 rfl) ?_
      refine e_aload_n (B := B) (x := x0) hx hb dX13_servesOthers_31 rfl (hl.at 0 rfl) ?_
      obtain ⟨v32, h32, hsh⟩ := Option.bind_eq_some_iff.mp hsh
      refine e_getR (k := 75) hx hb hts in_X13 hown hp h32 rfl (by decide) (by decide) rfl (hts _ kf13_99) rfl dX13_servesOthers_32 ?_
      refine lv_iload_n hx hb dX13_servesOthers_35 rfl (hl.at 1 rfl) ?_
      obtain ⟨v36, h36, hsh⟩ := Option.bind_eq_some_iff.mp hsh
      refine e_iald hx hb hp h36 dX13_servesOthers_36 ?_
      obtain ⟨S37, h37, hsh⟩ := Option.bind_eq_some_iff.mp hsh
      have ok37 := ok13_heaps h37
      refine e_callV (nL := 2) (mc := 0) (ms := 0) (T := TX13) (N := 126) (As := [.int (iI (v36))]) (rest := []) hx hb hml hown hts hp hS hl.size ok37.1 ok37.2.1 ok37.2.2 rfl (by decide) (c13_heaps l D cA B S S37 (x0) (v36) h37) rfl rfl kd13_heaps (kl13_702) ks13_heaps kv13_heaps ki13 kh13_heaps ⟨Nat.le_of_ble_eq_true rfl, Nat.le_of_ble_eq_true rfl⟩ rfl (by simp [e_rv_cat, e_int_cat]) ⟨Nat.le_refl _, Nat.le_refl _⟩ dX13_servesOthers_37 rfl (fun H locs hp hS => ?_)
      refine e_iinc (n := 1) (x := x1) (lv' := [(1, .int (iI ((x1 + 1)))), (0, e_rv B (x0))]) hx hb dX13_servesOthers_40 hl (k := 1) rfl (by decide) rfl (fun ls hl => ?_)
      refine lv_goto (tgt := 22) hx hb dX13_servesOthers_43 (by decide) ?_
      exact hk22 hp hS (hl.sub [1, 0] rfl) hsh
set_option maxRecDepth 100000 in
set_option maxHeartbeats 4000000 in
theorem c13_servesOthers (l : Launch) (D : va_G) (cA : Nat → ClassId) (B : Nat) (S S' : HP) (x0 : Int) (hsh : s13_servesOthers S x0 = some S') : Met l yX13_servesOthers (e_wu yX13_servesOthers cX13_servesOthers 2 none) ({ frames := 2, cells := 0, slots := 0, locals := 45 } : Room) (va_Pc [e_rv B (x0)] (fun U => e_PU D cA B S U)) (e_Qv D cA B S') 0 0 (e_A B) := by
  refine Met.ofW (cc := cX13_servesOthers) (maxL := 2) (ret := none) (by decide +kernel) rfl ?_
  intro p e s m args below meth c s₁ Bd hml hv
  obtain ⟨rfl, hp⟩ := hv
  have hp : e_Pic D cA B S s s.heap := hp
  have hx := Bd.exec
  have hb := Bd.bytes
  have hrt := Bd.returns
  have hlk := Bd.notSynchronized
  have hown : s.vm.findClass RX13 = some m.cls := findClass_of_methodNamed Bd.named
  have hts : ∀ w ∈ e_tb, w.before ([e_rv B (x0)] : List Value).toArray s = true := fun w h => atoms_spec (ws := (e_wu yX13_servesOthers cX13_servesOthers 2 none)) Bd.pre w (List.mem_cons_of_mem _ h)
  have E : e_En p s m ([e_rv B (x0)] : List Value).toArray meth c cX13_servesOthers RX13 2 none := ⟨hx, hb, hml, hown, hts, hlk, hrt⟩
  have hS : va_S (e_A B) s.heap s.heap [] := va_S.rf
  have hl := e_entry (vs := [e_rv B (x0)]) (n := 2) (Nat.le_of_ble_eq_true rfl) (e_cc (e_rv_cat _ _) e_cn)
  rw [lg_entry_eq]
  generalize (lg_sl [e_rv B (x0)] ++ List.replicate (2 - (lg_sl [e_rv B (x0)]).length) Slot.unset).toArray = ls at hl ⊢
  generalize ([e_rv B (x0)] : List Value).toArray = args at hts E ⊢
  have hl : e_lo ls 2 [(0, e_rv B (x0))] := hl
  have hsh := (gd_some hsh).2
  refine e_aload_n (B := B) (x := x0) hx hb dX13_servesOthers_0 rfl (hl.at 0 rfl) ?_
  obtain ⟨v1, h1, hsh⟩ := Option.bind_eq_some_iff.mp hsh
  refine e_getI (k := 76) hx hb hts in_X13 hown hp h1 rfl (by decide) (by decide) rfl (hts _ kf13_696) rfl dX13_servesOthers_1 ?_
  refine e_if_eq (tgt := 139) hx hb dX13_servesOthers_4 (by decide) (fun c4 => ?_) (fun c4 => ?_)
  · rw [if_pos c4] at hsh
    exact w13_servesOthers_b139 E hp hS (hl.sub [0] rfl) hsh
  · rw [if_neg c4] at hsh
    refine e_aload_n (B := B) (x := x0) hx hb dX13_servesOthers_7 rfl (hl.at 0 rfl) ?_
    obtain ⟨v8, h8, hsh⟩ := Option.bind_eq_some_iff.mp hsh
    refine e_getI (k := 23) hx hb hts in_X13 hown hp h8 rfl (by decide) (by decide) rfl (hts _ kf13_244) rfl dX13_servesOthers_8 ?_
    refine e_if_le (tgt := 139) hx hb dX13_servesOthers_11 (by decide) (fun c11 => ?_) (fun c11 => ?_)
    · rw [if_pos c11] at hsh
      exact w13_servesOthers_b139 E hp hS (hl.sub [0] rfl) hsh
    · rw [if_neg c11] at hsh
      refine e_aload_n (B := B) (x := x0) hx hb dX13_servesOthers_14 rfl (hl.at 0 rfl) ?_
      refine lv_iconst (v := iI (5)) hx hb dX13_servesOthers_15 rfl ?_
      refine lv_iconst (v := iI (1)) hx hb dX13_servesOthers_16 rfl ?_
      obtain ⟨S17, h17, hsh⟩ := Option.bind_eq_some_iff.mp hsh
      have ok17 := ok13_begins h17
      refine e_callV (nL := 2) (mc := 0) (ms := 0) (T := TX13) (N := 126) (As := [.int (iI (5)), .int (iI (1))]) (rest := []) hx hb hml hown hts hp hS hl.size ok17.1 ok17.2.1 ok17.2.2 rfl (by decide) (c13_begins l D cA B S S17 (x0) (5) (1) h17) rfl rfl kd13_begins (kl13_699) ks13_begins kv13_begins ki13 kh13_begins ⟨Nat.le_of_ble_eq_true rfl, Nat.le_of_ble_eq_true rfl⟩ rfl (by simp [e_rv_cat, e_int_cat]) ⟨Nat.le_refl _, Nat.le_refl _⟩ dX13_servesOthers_17 rfl (fun H locs hp hS => ?_)
      refine lv_iconst (v := iI (0)) hx hb dX13_servesOthers_20 rfl ?_
      refine e_istore_n (lv' := [(1, .int (iI (0))), (0, e_rv B (x0))]) hx hb dX13_servesOthers_21 rfl hl (by decide) rfl (fun ls hl => ?_)
      exact w13_servesOthers_l22 E 1000000 hp hS (hl.sub [1, 0] rfl) hsh
theorem ok13_ends {S : HP} {x0 : Int} {x1 : Int} {r : HP} (h : s13_ends S x0 x1 = some r) : 0 ≤ x0 ∧ x0.toNat < e_n S ∧ e_g S x0.toNat = 13 := (gd_some h).1
set_option maxRecDepth 100000 in
set_option maxHeartbeats 4000000 in
theorem w13_ends_b202 {p : Program} {l : Launch} {e : Env} {s : State} {m : MethodId} {args : Array Value} {below : List Frame} {meth : Method} {c : Code} {D : va_G} {cA : Nat → ClassId} {B : Nat} {res : HP} (E : e_En p s m args meth c cX13_ends RX13 5 none) {ls : Array Slot} {H : Heap} {locs : List Loc} {S : HP} (hp : e_Pic D cA B S s H) (hS : va_S (e_A B) s.heap H locs) (hl : e_lo ls 5 []) (hsh : s13_ends_b202 S  = some res) : W p l e ({ frames := 3, cells := 0, slots := 0, locals := 66 } : Room) s m args below meth c H locs 0 0 (MQ below (e_Qv D cA B res) args s 0 0 (e_A B)) (F0 m 202 ls []) := by
  obtain ⟨hx, hb, hml, hown, hts, hlk, hrt⟩ := id E
  unfold s13_ends_b202 at hsh
  cases hsh
  exact e_vret hx hb hrt hlk hp hS dX13_ends_202
set_option maxRecDepth 100000 in
set_option maxHeartbeats 4000000 in
theorem w13_ends_b190 {p : Program} {l : Launch} {e : Env} {s : State} {m : MethodId} {args : Array Value} {below : List Frame} {meth : Method} {c : Code} {D : va_G} {cA : Nat → ClassId} {B : Nat} {res : HP} (E : e_En p s m args meth c cX13_ends RX13 5 none) {ls : Array Slot} {H : Heap} {locs : List Loc} {S : HP} {x0 : Int} (hp : e_Pic D cA B S s H) (hS : va_S (e_A B) s.heap H locs) (hl : e_lo ls 5 [(0, e_rv B (x0))]) (hsh : s13_ends_b190 S x0 = some res) : W p l e ({ frames := 3, cells := 0, slots := 0, locals := 66 } : Room) s m args below meth c H locs 0 0 (MQ below (e_Qv D cA B res) args s 0 0 (e_A B)) (F0 m 190 ls []) := by
  obtain ⟨hx, hb, hml, hown, hts, hlk, hrt⟩ := id E
  unfold s13_ends_b190 at hsh
  refine e_aload_n (B := B) (x := x0) hx hb dX13_ends_190 rfl (hl.at 0 rfl) ?_
  obtain ⟨v191, h191, hsh⟩ := Option.bind_eq_some_iff.mp hsh
  refine e_getI (k := 8) hx hb hts in_X13 hown hp h191 rfl (by decide) (by decide) rfl (hts _ kf13_466) rfl dX13_ends_191 ?_
  refine lv_iconst (v := iI (1)) hx hb dX13_ends_194 rfl ?_
  refine e_icmp_eq (tgt := 202) hx hb dX13_ends_195 (by decide) (fun c195 => ?_) (fun c195 => ?_)
  · rw [if_pos c195] at hsh
    exact w13_ends_b202 E hp hS (hl.sub [] rfl) hsh
  · rw [if_neg c195] at hsh
    refine e_aload_n (B := B) (x := x0) hx hb dX13_ends_198 rfl (hl.at 0 rfl) ?_
    obtain ⟨S199, h199, hsh⟩ := Option.bind_eq_some_iff.mp hsh
    have ok199 := ok13_servesOthers h199
    refine e_callV (nL := 5) (mc := 0) (ms := 0) (T := TX13) (N := 126) (As := []) (rest := []) hx hb hml hown hts hp hS hl.size ok199.1 ok199.2.1 ok199.2.2 rfl (by decide) (c13_servesOthers l D cA B S S199 (x0) h199) rfl rfl kd13_servesOthers (kl13_728) ks13_servesOthers kv13_servesOthers ki13 kh13_servesOthers ⟨Nat.le_of_ble_eq_true rfl, Nat.le_of_ble_eq_true rfl⟩ rfl (by simp [e_rv_cat, e_int_cat]) ⟨Nat.le_refl _, Nat.le_refl _⟩ dX13_ends_199 rfl (fun H locs hp hS => ?_)
    exact w13_ends_b202 E hp hS (hl.sub [] rfl) hsh
set_option maxRecDepth 100000 in
set_option maxHeartbeats 4000000 in
theorem w13_ends_b185 {p : Program} {l : Launch} {e : Env} {s : State} {m : MethodId} {args : Array Value} {below : List Frame} {meth : Method} {c : Code} {D : va_G} {cA : Nat → ClassId} {B : Nat} {res : HP} (E : e_En p s m args meth c cX13_ends RX13 5 none) {ls : Array Slot} {H : Heap} {locs : List Loc} {S : HP} {x0 : Int} (hp : e_Pic D cA B S s H) (hS : va_S (e_A B) s.heap H locs) (hl : e_lo ls 5 [(0, e_rv B (x0))]) (hsh : s13_ends_b185 S x0 = some res) : W p l e ({ frames := 3, cells := 0, slots := 0, locals := 66 } : Room) s m args below meth c H locs 0 0 (MQ below (e_Qv D cA B res) args s 0 0 (e_A B)) (F0 m 185 ls []) := by
  obtain ⟨hx, hb, hml, hown, hts, hlk, hrt⟩ := id E
  unfold s13_ends_b185 at hsh
  refine e_aload_n (B := B) (x := x0) hx hb dX13_ends_185 rfl (hl.at 0 rfl) ?_
  refine lv_iconst (v := iI (0)) hx hb dX13_ends_186 rfl ?_
  obtain ⟨S187, h187, hsh⟩ := Option.bind_eq_some_iff.mp hsh
  refine e_putI (k := 23) hx hb hts in_X13 tyX13 tyX13_ok nmX13 hown hp hS h187 rfl (by decide) (by decide) rfl (hts _ kf13_244) rfl rfl (by decide +kernel) dX13_ends_187 (fun H locs hp hS => ?_)
  exact w13_ends_b190 E hp hS (hl.sub [0] rfl) hsh
set_option maxRecDepth 100000 in
set_option maxHeartbeats 4000000 in
theorem w13_ends_b164 {p : Program} {l : Launch} {e : Env} {s : State} {m : MethodId} {args : Array Value} {below : List Frame} {meth : Method} {c : Code} {D : va_G} {cA : Nat → ClassId} {B : Nat} {res : HP} (E : e_En p s m args meth c cX13_ends RX13 5 none) {ls : Array Slot} {H : Heap} {locs : List Loc} {S : HP} {x0 : Int} {x2 : Int} {x3 : Int} {y0 : Int} {y1 : Int} (hp : e_Pic D cA B S s H) (hS : va_S (e_A B) s.heap H locs) (hl : e_lo ls 5 [(0, e_rv B (x0)), (2, .int (iI (x2))), (3, .int (iI (x3)))]) (hsh : s13_ends_b164 S x0 x2 x3 y0 y1 = some res) : W p l e ({ frames := 3, cells := 0, slots := 0, locals := 66 } : Room) s m args below meth c H locs 0 0 (MQ below (e_Qv D cA B res) args s 0 0 (e_A B)) (F0 m 164 ls [.int (iI (y1)), e_rv B (y0)]) := by
  obtain ⟨hx, hb, hml, hown, hts, hlk, hrt⟩ := id E
  unfold s13_ends_b164 at hsh
  obtain ⟨S164, h164, hsh⟩ := Option.bind_eq_some_iff.mp hsh
  refine e_putZ (k := 77) hx hb hts in_X13 tyX13 tyX13_ok nmX13 hown hp hS h164 rfl (by decide) (by decide) rfl (hts _ kf13_711) rfl rfl (by decide +kernel) dX13_ends_164 (fun H locs hp hS => ?_)
  refine e_aload_n (B := B) (x := x0) hx hb dX13_ends_167 rfl (hl.at 0 rfl) ?_
  obtain ⟨v168, h168, hsh⟩ := Option.bind_eq_some_iff.mp hsh
  refine e_getI (k := 76) hx hb hts in_X13 hown hp h168 rfl (by decide) (by decide) rfl (hts _ kf13_696) rfl dX13_ends_168 ?_
  refine e_if_ne (tgt := 190) hx hb dX13_ends_171 (by decide) (fun c171 => ?_) (fun c171 => ?_)
  · rw [if_neg c171] at hsh
    exact w13_ends_b190 E hp hS (hl.sub [0] rfl) hsh
  · rw [if_pos c171] at hsh
    refine lv_iload_n hx hb dX13_ends_174 rfl (hl.at 2 rfl) ?_
    refine e_if_ne (tgt := 185) hx hb dX13_ends_175 (by decide) (fun c175 => ?_) (fun c175 => ?_)
    · rw [if_neg c175] at hsh
      exact w13_ends_b185 E hp hS (hl.sub [0] rfl) hsh
    · rw [if_pos c175] at hsh
      refine lv_iload_n hx hb dX13_ends_178 rfl (hl.at 1 rfl) ?_
      refine lv_sipush (v := iI (365)) hx hb dX13_ends_179 (by decide +kernel) ?_
      refine e_icmp_eq (tgt := 190) hx hb dX13_ends_182 (by decide) (fun c182 => ?_) (fun c182 => ?_)
      · rw [if_pos c182] at hsh
        exact w13_ends_b190 E hp hS (hl.sub [0] rfl) hsh
      · rw [if_neg c182] at hsh
        exact w13_ends_b185 E hp hS (hl.sub [0] rfl) hsh
set_option maxRecDepth 100000 in
set_option maxHeartbeats 4000000 in
theorem w13_ends_b163 {p : Program} {l : Launch} {e : Env} {s : State} {m : MethodId} {args : Array Value} {below : List Frame} {meth : Method} {c : Code} {D : va_G} {cA : Nat → ClassId} {B : Nat} {res : HP} (E : e_En p s m args meth c cX13_ends RX13 5 none) {ls : Array Slot} {H : Heap} {locs : List Loc} {S : HP} {x0 : Int} {x2 : Int} {x3 : Int} {y0 : Int} (hp : e_Pic D cA B S s H) (hS : va_S (e_A B) s.heap H locs) (hl : e_lo ls 5 [(0, e_rv B (x0)), (2, .int (iI (x2))), (3, .int (iI (x3)))]) (hsh : s13_ends_b163 S x0 x2 x3 y0 = some res) : W p l e ({ frames := 3, cells := 0, slots := 0, locals := 66 } : Room) s m args below meth c H locs 0 0 (MQ below (e_Qv D cA B res) args s 0 0 (e_A B)) (F0 m 163 ls [e_rv B (y0)]) := by
  obtain ⟨hx, hb, hml, hown, hts, hlk, hrt⟩ := id E
  unfold s13_ends_b163 at hsh
  refine lv_iconst (v := iI (0)) hx hb dX13_ends_163 rfl ?_
  exact w13_ends_b164 E hp hS (hl.sub [0, 1, 2] rfl) hsh
set_option maxRecDepth 100000 in
set_option maxHeartbeats 4000000 in
theorem w13_ends_b147 {p : Program} {l : Launch} {e : Env} {s : State} {m : MethodId} {args : Array Value} {below : List Frame} {meth : Method} {c : Code} {D : va_G} {cA : Nat → ClassId} {B : Nat} {res : HP} (E : e_En p s m args meth c cX13_ends RX13 5 none) {ls : Array Slot} {H : Heap} {locs : List Loc} {S : HP} {x0 : Int} {x1 : Int} {x2 : Int} {x3 : Int} {y0 : Int} (hp : e_Pic D cA B S s H) (hS : va_S (e_A B) s.heap H locs) (hl : e_lo ls 5 [(0, e_rv B (x0)), (1, .int (iI (x1))), (2, .int (iI (x2))), (3, .int (iI (x3)))]) (hsh : s13_ends_b147 S x0 x1 x2 x3 y0 = some res) : W p l e ({ frames := 3, cells := 0, slots := 0, locals := 66 } : Room) s m args below meth c H locs 0 0 (MQ below (e_Qv D cA B res) args s 0 0 (e_A B)) (F0 m 147 ls [.int (iI (y0))]) := by
  obtain ⟨hx, hb, hml, hown, hts, hlk, hrt⟩ := id E
  unfold s13_ends_b147 at hsh
  refine e_istore (lv' := [(4, .int (iI (y0))), (0, e_rv B (x0)), (1, .int (iI (x1))), (2, .int (iI (x2))), (3, .int (iI (x3)))]) hx hb dX13_ends_147 hl (by decide) rfl (fun ls hl => ?_)
  refine e_aload_n (B := B) (x := x0) hx hb dX13_ends_149 rfl (hl.at 1 rfl) ?_
  refine lv_iload_n hx hb dX13_ends_150 rfl (hl.at 2 rfl) ?_
  refine e_if_eq (tgt := 163) hx hb dX13_ends_151 (by decide) (fun c151 => ?_) (fun c151 => ?_)
  · rw [if_pos c151] at hsh
    exact w13_ends_b163 E hp hS (hl.sub [1, 3, 4] rfl) hsh
  · rw [if_neg c151] at hsh
    refine lv_iload hx hb dX13_ends_154 (hl.at 0 rfl) ?_
    refine e_if_ne (tgt := 163) hx hb dX13_ends_156 (by decide) (fun c156 => ?_) (fun c156 => ?_)
    · rw [if_neg c156] at hsh
      exact w13_ends_b163 E hp hS (hl.sub [1, 3, 4] rfl) hsh
    · rw [if_pos c156] at hsh
      refine lv_iconst (v := iI (1)) hx hb dX13_ends_159 rfl ?_
      refine lv_goto (tgt := 164) hx hb dX13_ends_160 (by decide) ?_
      exact w13_ends_b164 E hp hS (hl.sub [1, 3, 4] rfl) hsh
set_option maxRecDepth 100000 in
set_option maxHeartbeats 4000000 in
theorem w13_ends_b146 {p : Program} {l : Launch} {e : Env} {s : State} {m : MethodId} {args : Array Value} {below : List Frame} {meth : Method} {c : Code} {D : va_G} {cA : Nat → ClassId} {B : Nat} {res : HP} (E : e_En p s m args meth c cX13_ends RX13 5 none) {ls : Array Slot} {H : Heap} {locs : List Loc} {S : HP} {x0 : Int} {x1 : Int} {x2 : Int} {x3 : Int} (hp : e_Pic D cA B S s H) (hS : va_S (e_A B) s.heap H locs) (hl : e_lo ls 5 [(0, e_rv B (x0)), (1, .int (iI (x1))), (2, .int (iI (x2))), (3, .int (iI (x3)))]) (hsh : s13_ends_b146 S x0 x1 x2 x3 = some res) : W p l e ({ frames := 3, cells := 0, slots := 0, locals := 66 } : Room) s m args below meth c H locs 0 0 (MQ below (e_Qv D cA B res) args s 0 0 (e_A B)) (F0 m 146 ls []) := by
  obtain ⟨hx, hb, hml, hown, hts, hlk, hrt⟩ := id E
  unfold s13_ends_b146 at hsh
  refine lv_iconst (v := iI (0)) hx hb dX13_ends_146 rfl ?_
  exact w13_ends_b147 E hp hS (hl.sub [0, 1, 2, 3] rfl) hsh
set_option maxRecDepth 100000 in
set_option maxHeartbeats 4000000 in
theorem w13_ends_b142 {p : Program} {l : Launch} {e : Env} {s : State} {m : MethodId} {args : Array Value} {below : List Frame} {meth : Method} {c : Code} {D : va_G} {cA : Nat → ClassId} {B : Nat} {res : HP} (E : e_En p s m args meth c cX13_ends RX13 5 none) {ls : Array Slot} {H : Heap} {locs : List Loc} {S : HP} {x0 : Int} {x1 : Int} {x2 : Int} {x3 : Int} (hp : e_Pic D cA B S s H) (hS : va_S (e_A B) s.heap H locs) (hl : e_lo ls 5 [(0, e_rv B (x0)), (1, .int (iI (x1))), (2, .int (iI (x2))), (3, .int (iI (x3)))]) (hsh : s13_ends_b142 S x0 x1 x2 x3 = some res) : W p l e ({ frames := 3, cells := 0, slots := 0, locals := 66 } : Room) s m args below meth c H locs 0 0 (MQ below (e_Qv D cA B res) args s 0 0 (e_A B)) (F0 m 142 ls []) := by
  obtain ⟨hx, hb, hml, hown, hts, hlk, hrt⟩ := id E
  unfold s13_ends_b142 at hsh
  refine lv_iconst (v := iI (1)) hx hb dX13_ends_142 rfl ?_
  refine lv_goto (tgt := 147) hx hb dX13_ends_143 (by decide) ?_
  exact w13_ends_b147 E hp hS (hl.sub [0, 1, 2, 3] rfl) hsh
set_option maxRecDepth 100000 in
set_option maxHeartbeats 4000000 in
theorem w13_ends_b97 {p : Program} {l : Launch} {e : Env} {s : State} {m : MethodId} {args : Array Value} {below : List Frame} {meth : Method} {c : Code} {D : va_G} {cA : Nat → ClassId} {B : Nat} {res : HP} (E : e_En p s m args meth c cX13_ends RX13 5 none) {ls : Array Slot} {H : Heap} {locs : List Loc} {S : HP} {x0 : Int} {x1 : Int} {x2 : Int} {x3 : Int} {y0 : Int} {y1 : Int} (hp : e_Pic D cA B S s H) (hS : va_S (e_A B) s.heap H locs) (hl : e_lo ls 5 [(0, e_rv B (x0)), (1, .int (iI (x1))), (2, .int (iI (x2))), (3, .int (iI (x3)))]) (hsh : s13_ends_b97 S x0 x1 x2 x3 y0 y1 = some res) : W p l e ({ frames := 3, cells := 0, slots := 0, locals := 66 } : Room) s m args below meth c H locs 0 0 (MQ below (e_Qv D cA B res) args s 0 0 (e_A B)) (F0 m 97 ls [.int (iI (y1)), e_rv B (y0)]) := by
  obtain ⟨hx, hb, hml, hown, hts, hlk, hrt⟩ := id E
  unfold s13_ends_b97 at hsh
  obtain ⟨S97, h97, hsh⟩ := Option.bind_eq_some_iff.mp hsh
  refine e_putZ (k := 76) hx hb hts in_X13 tyX13 tyX13_ok nmX13 hown hp hS h97 rfl (by decide) (by decide) rfl (hts _ kf13_696) rfl rfl (by decide +kernel) dX13_ends_97 (fun H locs hp hS => ?_)
  refine lv_iload_n hx hb dX13_ends_100 rfl (hl.at 3 rfl) ?_
  refine e_if_ne (tgt := 146) hx hb dX13_ends_101 (by decide) (fun c101 => ?_) (fun c101 => ?_)
  · rw [if_neg c101] at hsh
    exact w13_ends_b146 E hp hS (hl.sub [0, 1, 2, 3] rfl) hsh
  · rw [if_pos c101] at hsh
    refine lv_iload_n hx hb dX13_ends_104 rfl (hl.at 2 rfl) ?_
    refine lv_bipush (v := iI (117)) hx hb dX13_ends_105 (by decide +kernel) ?_
    refine e_icmp_eq (tgt := 142) hx hb dX13_ends_107 (by decide) (fun c107 => ?_) (fun c107 => ?_)
    · rw [if_pos c107] at hsh
      exact w13_ends_b142 E hp hS (hl.sub [0, 1, 2, 3] rfl) hsh
    · rw [if_neg c107] at hsh
      refine lv_iload_n hx hb dX13_ends_110 rfl (hl.at 2 rfl) ?_
      refine lv_bipush (v := iI (18)) hx hb dX13_ends_111 (by decide +kernel) ?_
      refine e_icmp_eq (tgt := 142) hx hb dX13_ends_113 (by decide) (fun c113 => ?_) (fun c113 => ?_)
      · rw [if_pos c113] at hsh
        exact w13_ends_b142 E hp hS (hl.sub [0, 1, 2, 3] rfl) hsh
      · rw [if_neg c113] at hsh
        refine lv_iload_n hx hb dX13_ends_116 rfl (hl.at 2 rfl) ?_
        refine lv_sipush (v := iI (301)) hx hb dX13_ends_117 (by decide +kernel) ?_
        refine e_icmp_eq (tgt := 142) hx hb dX13_ends_120 (by decide) (fun c120 => ?_) (fun c120 => ?_)
        · rw [if_pos c120] at hsh
          exact w13_ends_b142 E hp hS (hl.sub [0, 1, 2, 3] rfl) hsh
        · rw [if_neg c120] at hsh
          refine lv_iload_n hx hb dX13_ends_123 rfl (hl.at 2 rfl) ?_
          refine lv_sipush (v := iI (299)) hx hb dX13_ends_124 (by decide +kernel) ?_
          refine e_icmp_eq (tgt := 142) hx hb dX13_ends_127 (by decide) (fun c127 => ?_) (fun c127 => ?_)
          · rw [if_pos c127] at hsh
            exact w13_ends_b142 E hp hS (hl.sub [0, 1, 2, 3] rfl) hsh
          · rw [if_neg c127] at hsh
            refine lv_iload_n hx hb dX13_ends_130 rfl (hl.at 2 rfl) ?_
            refine lv_bipush (v := iI (46)) hx hb dX13_ends_131 (by decide +kernel) ?_
            refine e_icmp_eq (tgt := 142) hx hb dX13_ends_133 (by decide) (fun c133 => ?_) (fun c133 => ?_)
            · rw [if_pos c133] at hsh
              exact w13_ends_b142 E hp hS (hl.sub [0, 1, 2, 3] rfl) hsh
            · rw [if_neg c133] at hsh
              refine lv_iload_n hx hb dX13_ends_136 rfl (hl.at 2 rfl) ?_
              refine lv_bipush (v := iI (64)) hx hb dX13_ends_137 (by decide +kernel) ?_
              refine e_icmp_ne (tgt := 146) hx hb dX13_ends_139 (by decide) (fun c139 => ?_) (fun c139 => ?_)
              · rw [if_neg c139] at hsh
                exact w13_ends_b146 E hp hS (hl.sub [0, 1, 2, 3] rfl) hsh
              · rw [if_pos c139] at hsh
                exact w13_ends_b142 E hp hS (hl.sub [0, 1, 2, 3] rfl) hsh
set_option maxRecDepth 100000 in
set_option maxHeartbeats 4000000 in
theorem w13_ends_b96 {p : Program} {l : Launch} {e : Env} {s : State} {m : MethodId} {args : Array Value} {below : List Frame} {meth : Method} {c : Code} {D : va_G} {cA : Nat → ClassId} {B : Nat} {res : HP} (E : e_En p s m args meth c cX13_ends RX13 5 none) {ls : Array Slot} {H : Heap} {locs : List Loc} {S : HP} {x0 : Int} {x1 : Int} {x2 : Int} {x3 : Int} {y0 : Int} (hp : e_Pic D cA B S s H) (hS : va_S (e_A B) s.heap H locs) (hl : e_lo ls 5 [(0, e_rv B (x0)), (1, .int (iI (x1))), (2, .int (iI (x2))), (3, .int (iI (x3)))]) (hsh : s13_ends_b96 S x0 x1 x2 x3 y0 = some res) : W p l e ({ frames := 3, cells := 0, slots := 0, locals := 66 } : Room) s m args below meth c H locs 0 0 (MQ below (e_Qv D cA B res) args s 0 0 (e_A B)) (F0 m 96 ls [e_rv B (y0)]) := by
  obtain ⟨hx, hb, hml, hown, hts, hlk, hrt⟩ := id E
  unfold s13_ends_b96 at hsh
  refine lv_iconst (v := iI (0)) hx hb dX13_ends_96 rfl ?_
  exact w13_ends_b97 E hp hS (hl.sub [0, 1, 2, 3] rfl) hsh
set_option maxRecDepth 100000 in
set_option maxHeartbeats 4000000 in
theorem w13_ends_l45 {p : Program} {l : Launch} {e : Env} {s : State} {m : MethodId} {args : Array Value} {below : List Frame} {meth : Method} {c : Code} {D : va_G} {cA : Nat → ClassId} {B : Nat} {res : HP} (E : e_En p s m args meth c cX13_ends RX13 5 none) : ∀ (f : Nat) {ls : Array Slot} {H : Heap} {locs : List Loc} {S : HP} {x0 : Int} {x1 : Int} {x2 : Int} {x3 : Int} {x4 : Int} (hp : e_Pic D cA B S s H) (hS : va_S (e_A B) s.heap H locs) (hl : e_lo ls 5 [(0, e_rv B (x0)), (1, .int (iI (x1))), (2, .int (iI (x2))), (3, .int (iI (x3))), (4, .int (iI (x4)))]) (hsh : s13_ends_l45 f S x0 x1 x2 x3 x4 = some res), W p l e ({ frames := 3, cells := 0, slots := 0, locals := 66 } : Room) s m args below meth c H locs 0 0 (MQ below (e_Qv D cA B res) args s 0 0 (e_A B)) (F0 m 45 ls []) := by
  obtain ⟨hx, hb, hml, hown, hts, hlk, hrt⟩ := id E
  intro f
  induction f with
  | zero => intro ls H locs S x0 x1 x2 x3 x4 hp hS hl hsh; cases hsh
  | succ f ih =>
    intro ls H locs S x0 x1 x2 x3 x4 hp hS hl hsh
    have hk45 : ∀ {ls : Array Slot} {H : Heap} {locs : List Loc} {S : HP} {x0 : Int} {x1 : Int} {x2 : Int} {x3 : Int} {x4 : Int} (hp : e_Pic D cA B S s H) (hS : va_S (e_A B) s.heap H locs) (hl : e_lo ls 5 [(0, e_rv B (x0)), (1, .int (iI (x1))), (2, .int (iI (x2))), (3, .int (iI (x3))), (4, .int (iI (x4)))]) (hsh : (s13_ends_l45 f) S x0 x1 x2 x3 x4 = some res), W p l e ({ frames := 3, cells := 0, slots := 0, locals := 66 } : Room) s m args below meth c H locs 0 0 (MQ below (e_Qv D cA B res) args s 0 0 (e_A B)) (F0 m 45 ls []) := ih
    generalize hkk : s13_ends_l45 f = k45 at hk45
    rw [s13_ends_l45] at hsh
    rw [hkk] at hsh
    try dsimp only at hsh
    refine lv_iload hx hb dX13_ends_45 (hl.at 4 rfl) ?_
    refine e_aload_n (B := B) (x := x0) hx hb dX13_ends_47 rfl (hl.at 0 rfl) ?_
    obtain ⟨v48, h48, hsh⟩ := Option.bind_eq_some_iff.mp hsh
    refine e_getI (k := 55) hx hb hts in_X13 hown hp h48 rfl (by decide) (by decide) rfl (hts _ kf13_609) rfl dX13_ends_48 ?_
    refine e_icmp_ge (tgt := 74) hx hb dX13_ends_51 (by decide) (fun c51 => ?_) (fun c51 => ?_)
    · rw [if_pos c51] at hsh
      refine e_aload_n (B := B) (x := x0) hx hb dX13_ends_74 rfl (hl.at 0 rfl) ?_
      obtain ⟨S75, h75, hsh⟩ := Option.bind_eq_some_iff.mp hsh
      have ok75 := ok13_forgets h75
      refine e_callV (nL := 5) (mc := 0) (ms := 0) (T := TX13) (N := 126) (As := []) (rest := []) hx hb hml hown hts hp hS hl.size ok75.1 ok75.2.1 ok75.2.2 rfl (by decide) (c13_forgets l D cA B S S75 (x0) h75) rfl rfl kd13_forgets (kl13_678) ks13_forgets kv13_forgets ki13 kh13_forgets ⟨Nat.le_of_ble_eq_true rfl, Nat.le_of_ble_eq_true rfl⟩ rfl (by simp [e_rv_cat, e_int_cat]) ⟨Nat.le_refl _, Nat.le_refl _⟩ dX13_ends_75 rfl (fun H locs hp hS => ?_)
      refine e_aload_n (B := B) (x := x0) hx hb dX13_ends_78 rfl (hl.at 0 rfl) ?_
      refine lv_iload_n hx hb dX13_ends_79 rfl (hl.at 1 rfl) ?_
      refine e_if_eq (tgt := 96) hx hb dX13_ends_80 (by decide) (fun c80 => ?_) (fun c80 => ?_)
      · rw [if_pos c80] at hsh
        exact w13_ends_b96 E hp hS (hl.sub [0, 1, 2, 3] rfl) hsh
      · rw [if_neg c80] at hsh
        refine e_aload_n (B := B) (x := x0) hx hb dX13_ends_83 rfl (hl.at 0 rfl) ?_
        refine lv_iload_n hx hb dX13_ends_84 rfl (hl.at 3 rfl) ?_
        refine lv_iload_n hx hb dX13_ends_85 rfl (hl.at 2 rfl) ?_
        obtain ⟨⟨v86, S86⟩, h86, hsh⟩ := Option.bind_eq_some_iff.mp hsh
        have hsh : _ = _ := hsh
        try dsimp only at hsh
        have ok86 := ok13_isServed h86
        refine e_callI (nL := 5) (mc := 0) (ms := 0) (T := TX13) (N := 126) (As := [.int (iI (x3)), .int (iI (x2))]) (rest := [e_rv B (x0)]) hx hb hml hown hts hp hS hl.size ok86.1 ok86.2.1 ok86.2.2 rfl (by decide) (c13_isServed l D cA B S75 S86 (x0) (x3) (x2) v86 h86) rfl rfl kd13_isServed (kl13_726) ks13_isServed kv13_isServed ki13 kh13_isServed ⟨Nat.le_of_ble_eq_true rfl, Nat.le_of_ble_eq_true rfl⟩ rfl (by simp [e_rv_cat, e_int_cat]) ⟨Nat.le_refl _, Nat.le_refl _⟩ dX13_ends_86 rfl (fun H locs hp hS => ?_)
        refine e_if_eq (tgt := 96) hx hb dX13_ends_89 (by decide) (fun c89 => ?_) (fun c89 => ?_)
        · rw [if_pos c89] at hsh
          exact w13_ends_b96 E hp hS (hl.sub [0, 1, 2, 3] rfl) hsh
        · rw [if_neg c89] at hsh
          refine lv_iconst (v := iI (1)) hx hb dX13_ends_92 rfl ?_
          refine lv_goto (tgt := 97) hx hb dX13_ends_93 (by decide) ?_
          exact w13_ends_b97 E hp hS (hl.sub [0, 1, 2, 3] rfl) hsh
    · rw [if_neg c51] at hsh
      refine e_aload_n (B := B) (x := x0) hx hb dX13_ends_54 rfl (hl.at 0 rfl) ?_
      obtain ⟨v55, h55, hsh⟩ := Option.bind_eq_some_iff.mp hsh
      refine e_getR (k := 75) hx hb hts in_X13 hown hp h55 rfl (by decide) (by decide) rfl (hts _ kf13_99) rfl dX13_ends_55 ?_
      refine lv_iload hx hb dX13_ends_58 (hl.at 4 rfl) ?_
      refine e_aload_n (B := B) (x := x0) hx hb dX13_ends_60 rfl (hl.at 0 rfl) ?_
      obtain ⟨v61, h61, hsh⟩ := Option.bind_eq_some_iff.mp hsh
      refine e_getR (k := 57) hx hb hts in_X13 hown hp h61 rfl (by decide) (by decide) rfl (hts _ kf13_95) rfl dX13_ends_61 ?_
      refine lv_iload hx hb dX13_ends_64 (hl.at 4 rfl) ?_
      obtain ⟨v66, h66, hsh⟩ := Option.bind_eq_some_iff.mp hsh
      refine e_iald hx hb hp h66 dX13_ends_66 ?_
      obtain ⟨S67, h67, hsh⟩ := Option.bind_eq_some_iff.mp hsh
      refine e_iast hx hb hp hS h67 dX13_ends_67 (fun H locs hp hS => ?_)
      refine e_iinc (n := 1) (x := x4) (lv' := [(4, .int (iI ((x4 + 1)))), (0, e_rv B (x0)), (1, .int (iI (x1))), (2, .int (iI (x2))), (3, .int (iI (x3)))]) hx hb dX13_ends_68 hl (k := 4) rfl (by decide) rfl (fun ls hl => ?_)
      refine lv_goto (tgt := 45) hx hb dX13_ends_71 (by decide) ?_
      exact hk45 hp hS (hl.sub [1, 2, 3, 4, 0] rfl) hsh
set_option maxRecDepth 100000 in
set_option maxHeartbeats 4000000 in
theorem w13_ends_b17 {p : Program} {l : Launch} {e : Env} {s : State} {m : MethodId} {args : Array Value} {below : List Frame} {meth : Method} {c : Code} {D : va_G} {cA : Nat → ClassId} {B : Nat} {res : HP} (E : e_En p s m args meth c cX13_ends RX13 5 none) {ls : Array Slot} {H : Heap} {locs : List Loc} {S : HP} {x0 : Int} {x1 : Int} {x2 : Int} {y0 : Int} (hp : e_Pic D cA B S s H) (hS : va_S (e_A B) s.heap H locs) (hl : e_lo ls 5 [(0, e_rv B (x0)), (1, .int (iI (x1))), (2, .int (iI (x2)))]) (hsh : s13_ends_b17 S x0 x1 x2 y0 = some res) : W p l e ({ frames := 3, cells := 0, slots := 0, locals := 66 } : Room) s m args below meth c H locs 0 0 (MQ below (e_Qv D cA B res) args s 0 0 (e_A B)) (F0 m 17 ls [.int (iI (y0))]) := by
  obtain ⟨hx, hb, hml, hown, hts, hlk, hrt⟩ := id E
  unfold s13_ends_b17 at hsh
  refine e_istore_n (lv' := [(3, .int (iI (y0))), (0, e_rv B (x0)), (1, .int (iI (x1))), (2, .int (iI (x2)))]) hx hb dX13_ends_17 rfl hl (by decide) rfl (fun ls hl => ?_)
  refine e_aload_n (B := B) (x := x0) hx hb dX13_ends_18 rfl (hl.at 1 rfl) ?_
  obtain ⟨S19, h19, hsh⟩ := Option.bind_eq_some_iff.mp hsh
  have ok19 := ok13_settles h19
  refine e_callV (nL := 5) (mc := 0) (ms := 0) (T := TX13) (N := 126) (As := []) (rest := []) hx hb hml hown hts hp hS hl.size ok19.1 ok19.2.1 ok19.2.2 rfl (by decide) (c13_settles l D cA B S S19 (x0) h19) rfl rfl kd13_settles (kl13_723) ks13_settles kv13_settles ki13 kh13_settles ⟨Nat.le_of_ble_eq_true rfl, Nat.le_of_ble_eq_true rfl⟩ rfl (by simp [e_rv_cat, e_int_cat]) ⟨Nat.le_refl _, Nat.le_refl _⟩ dX13_ends_19 rfl (fun H locs hp hS => ?_)
  refine e_aload_n (B := B) (x := x0) hx hb dX13_ends_22 rfl (hl.at 1 rfl) ?_
  obtain ⟨⟨v23, S23⟩, h23, hsh⟩ := Option.bind_eq_some_iff.mp hsh
  have hsh : _ = _ := hsh
  try dsimp only at hsh
  have ok23 := ok13_isServing h23
  refine e_callI (nL := 5) (mc := 0) (ms := 0) (T := TX13) (N := 126) (As := []) (rest := []) hx hb hml hown hts hp hS hl.size ok23.1 ok23.2.1 ok23.2.2 rfl (by decide) (c13_isServing l D cA B S19 S23 (x0) v23 h23) rfl rfl kd13_isServing (kl13_247) ks13_isServing kv13_isServing ki13 kh13_isServing ⟨Nat.le_of_ble_eq_true rfl, Nat.le_of_ble_eq_true rfl⟩ rfl (by simp [e_rv_cat, e_int_cat]) ⟨Nat.le_refl _, Nat.le_refl _⟩ dX13_ends_23 rfl (fun H locs hp hS => ?_)
  refine e_if_eq (tgt := 34) hx hb dX13_ends_26 (by decide) (fun c26 => ?_) (fun c26 => ?_)
  · rw [if_pos c26] at hsh
    refine e_aload_n (B := B) (x := x0) hx hb dX13_ends_34 rfl (hl.at 1 rfl) ?_
    refine e_aload_n (B := B) (x := x0) hx hb dX13_ends_35 rfl (hl.at 1 rfl) ?_
    obtain ⟨v36, h36, hsh⟩ := Option.bind_eq_some_iff.mp hsh
    refine e_getI (k := 55) hx hb hts in_X13 hown hp h36 rfl (by decide) (by decide) rfl (hts _ kf13_609) rfl dX13_ends_36 ?_
    obtain ⟨S39, h39, hsh⟩ := Option.bind_eq_some_iff.mp hsh
    refine e_putI (k := 74) hx hb hts in_X13 tyX13 tyX13_ok nmX13 hown hp hS h39 rfl (by decide) (by decide) rfl (hts _ kf13_690) rfl rfl (by decide +kernel) dX13_ends_39 (fun H locs hp hS => ?_)
    refine lv_iconst (v := iI (0)) hx hb dX13_ends_42 rfl ?_
    refine e_istore (lv' := [(4, .int (iI (0))), (3, .int (iI (y0))), (0, e_rv B (x0)), (1, .int (iI (x1))), (2, .int (iI (x2)))]) hx hb dX13_ends_43 hl (by decide) rfl (fun ls hl => ?_)
    exact w13_ends_l45 E 1000000 hp hS (hl.sub [2, 3, 4, 1, 0] rfl) hsh
  · rw [if_neg c26] at hsh
    refine e_aload_n (B := B) (x := x0) hx hb dX13_ends_29 rfl (hl.at 1 rfl) ?_
    obtain ⟨S30, h30, hsh⟩ := Option.bind_eq_some_iff.mp hsh
    have ok30 := ok13_forgets h30
    refine e_callV (nL := 5) (mc := 0) (ms := 0) (T := TX13) (N := 126) (As := []) (rest := []) hx hb hml hown hts hp hS hl.size ok30.1 ok30.2.1 ok30.2.2 rfl (by decide) (c13_forgets l D cA B S23 S30 (x0) h30) rfl rfl kd13_forgets (kl13_678) ks13_forgets kv13_forgets ki13 kh13_forgets ⟨Nat.le_of_ble_eq_true rfl, Nat.le_of_ble_eq_true rfl⟩ rfl (by simp [e_rv_cat, e_int_cat]) ⟨Nat.le_refl _, Nat.le_refl _⟩ dX13_ends_30 rfl (fun H locs hp hS => ?_)
    cases hsh
    exact e_vret hx hb hrt hlk hp hS dX13_ends_33
set_option maxRecDepth 100000 in
set_option maxHeartbeats 4000000 in
theorem c13_ends (l : Launch) (D : va_G) (cA : Nat → ClassId) (B : Nat) (S S' : HP) (x0 : Int) (x1 : Int) (hsh : s13_ends S x0 x1 = some S') : Met l yX13_ends (e_wu yX13_ends cX13_ends 5 none) ({ frames := 3, cells := 0, slots := 0, locals := 66 } : Room) (va_Pc [e_rv B (x0), .int (iI (x1))] (fun U => e_PU D cA B S U)) (e_Qv D cA B S') 0 0 (e_A B) := by
  refine Met.ofW (cc := cX13_ends) (maxL := 5) (ret := none) (by decide +kernel) rfl ?_
  intro p e s m args below meth c s₁ Bd hml hv
  obtain ⟨rfl, hp⟩ := hv
  have hp : e_Pic D cA B S s s.heap := hp
  have hx := Bd.exec
  have hb := Bd.bytes
  have hrt := Bd.returns
  have hlk := Bd.notSynchronized
  have hown : s.vm.findClass RX13 = some m.cls := findClass_of_methodNamed Bd.named
  have hts : ∀ w ∈ e_tb, w.before ([e_rv B (x0), .int (iI (x1))] : List Value).toArray s = true := fun w h => atoms_spec (ws := (e_wu yX13_ends cX13_ends 5 none)) Bd.pre w (List.mem_cons_of_mem _ h)
  have E : e_En p s m ([e_rv B (x0), .int (iI (x1))] : List Value).toArray meth c cX13_ends RX13 5 none := ⟨hx, hb, hml, hown, hts, hlk, hrt⟩
  have hS : va_S (e_A B) s.heap s.heap [] := va_S.rf
  have hl := e_entry (vs := [e_rv B (x0), .int (iI (x1))]) (n := 5) (Nat.le_of_ble_eq_true rfl) (e_cc (e_rv_cat _ _) (e_cc rfl e_cn))
  rw [lg_entry_eq]
  generalize (lg_sl [e_rv B (x0), .int (iI (x1))] ++ List.replicate (5 - (lg_sl [e_rv B (x0), .int (iI (x1))]).length) Slot.unset).toArray = ls at hl ⊢
  generalize ([e_rv B (x0), .int (iI (x1))] : List Value).toArray = args at hts E ⊢
  have hl : e_lo ls 5 [(0, e_rv B (x0)), (1, .int (iI (x1)))] := hl
  have hsh := (gd_some hsh).2
  refine e_aload_n (B := B) (x := x0) hx hb dX13_ends_0 rfl (hl.at 0 rfl) ?_
  obtain ⟨v1, h1, hsh⟩ := Option.bind_eq_some_iff.mp hsh
  refine e_getI (k := 62) hx hb hts in_X13 hown hp h1 rfl (by decide) (by decide) rfl (hts _ kf13_615) rfl dX13_ends_1 ?_
  refine e_istore_n (lv' := [(2, .int (iI (v1))), (0, e_rv B (x0)), (1, .int (iI (x1)))]) hx hb dX13_ends_4 rfl hl (by decide) rfl (fun ls hl => ?_)
  refine e_aload_n (B := B) (x := x0) hx hb dX13_ends_5 rfl (hl.at 1 rfl) ?_
  obtain ⟨v6, h6, hsh⟩ := Option.bind_eq_some_iff.mp hsh
  refine e_getI (k := 60) hx hb hts in_X13 hown hp h6 rfl (by decide) (by decide) rfl (hts _ kf13_630) rfl dX13_ends_6 ?_
  refine e_if_eq (tgt := 16) hx hb dX13_ends_9 (by decide) (fun c9 => ?_) (fun c9 => ?_)
  · rw [if_pos c9] at hsh
    refine lv_iconst (v := iI (0)) hx hb dX13_ends_16 rfl ?_
    exact w13_ends_b17 E hp hS (hl.sub [1, 2, 0] rfl) hsh
  · rw [if_neg c9] at hsh
    refine lv_iconst (v := iI (1)) hx hb dX13_ends_12 rfl ?_
    refine lv_goto (tgt := 17) hx hb dX13_ends_13 (by decide) ?_
    exact w13_ends_b17 E hp hS (hl.sub [1, 2, 0] rfl) hsh
theorem ok13_doesOperator {S : HP} {x0 : Int} {r : Int × HP} (h : s13_doesOperator S x0 = some r) : 0 ≤ x0 ∧ x0.toNat < e_n S ∧ e_g S x0.toNat = 13 := (gd_some h).1
set_option maxRecDepth 100000 in
set_option maxHeartbeats 4000000 in
theorem w13_doesOperator_b129 {p : Program} {l : Launch} {e : Env} {s : State} {m : MethodId} {args : Array Value} {below : List Frame} {meth : Method} {c : Code} {D : va_G} {cA : Nat → ClassId} {B : Nat} {res : Int × HP} (E : e_En p s m args meth c cX13_doesOperator RX13 2 (some .boolean)) {ls : Array Slot} {H : Heap} {locs : List Loc} {S : HP} {y0 : Int} {y1 : Int} {y2 : Int} {y3 : Int} {y4 : Int} {y5 : Int} {y6 : Int} (hp : e_Pic D cA B S s H) (hS : va_S (e_A B) s.heap H locs) (hl : e_lo ls 2 []) (hsh : s13_doesOperator_b129 S y0 y1 y2 y3 y4 y5 y6 = some res) : W p l e ({ frames := 9, cells := 0, slots := 0, locals := 212 } : Room) s m args below meth c H locs 0 0 (MQ below (e_Qi D cA B res.1 res.2) args s 0 0 (e_A B)) (F0 m 129 ls [.int (iI (y6)), .int (iI (y5)), .int (iI (y4)), .int (iI (y3)), .int (iI (y2)), .int (iI (y1)), e_rv B (y0)]) := by
  obtain ⟨hx, hb, hml, hown, hts, hlk, hrt⟩ := id E
  unfold s13_doesOperator_b129 at hsh
  obtain ⟨⟨v129, S129⟩, h129, hsh⟩ := Option.bind_eq_some_iff.mp hsh
  have hsh : _ = _ := hsh
  try dsimp only at hsh
  have ok129 := ok13_operatesMotion h129
  refine e_callI (nL := 2) (mc := 0) (ms := 0) (T := TX13) (N := 126) (As := [.int (iI (y1)), .int (iI (y2)), .int (iI (y3)), .int (iI (y4)), .int (iI (y5)), .int (iI (y6))]) (rest := []) hx hb hml hown hts hp hS hl.size ok129.1 ok129.2.1 ok129.2.2 rfl (by decide) (c13_operatesMotion l D cA B S S129 (y0) (y1) (y2) (y3) (y4) (y5) (y6) v129 h129) rfl rfl kd13_operatesMotion (kl13_744) ks13_operatesMotion kv13_operatesMotion ki13 kh13_operatesMotion ⟨Nat.le_of_ble_eq_true rfl, Nat.le_of_ble_eq_true rfl⟩ rfl (by simp [e_rv_cat, e_int_cat]) ⟨Nat.le_refl _, Nat.le_refl _⟩ dX13_doesOperator_129 rfl (fun H locs hp hS => ?_)
  obtain ⟨hz, hz1, hz2⟩ := zR_some hsh
  rw [← hz1, ← hz2]
  exact e_zret hx hb hrt hlk hp hS hz dX13_doesOperator_132
set_option maxRecDepth 100000 in
set_option maxHeartbeats 4000000 in
theorem w13_doesOperator_b93 {p : Program} {l : Launch} {e : Env} {s : State} {m : MethodId} {args : Array Value} {below : List Frame} {meth : Method} {c : Code} {D : va_G} {cA : Nat → ClassId} {B : Nat} {res : Int × HP} (E : e_En p s m args meth c cX13_doesOperator RX13 2 (some .boolean)) {ls : Array Slot} {H : Heap} {locs : List Loc} {S : HP} {y0 : Int} (hp : e_Pic D cA B S s H) (hS : va_S (e_A B) s.heap H locs) (hl : e_lo ls 2 []) (hsh : s13_doesOperator_b93 S y0 = some res) : W p l e ({ frames := 9, cells := 0, slots := 0, locals := 212 } : Room) s m args below meth c H locs 0 0 (MQ below (e_Qi D cA B res.1 res.2) args s 0 0 (e_A B)) (F0 m 93 ls [.int (iI (y0))]) := by
  obtain ⟨hx, hb, hml, hown, hts, hlk, hrt⟩ := id E
  unfold s13_doesOperator_b93 at hsh
  obtain ⟨hz, hz1, hz2⟩ := zR_some hsh
  rw [← hz1, ← hz2]
  exact e_zret hx hb hrt hlk hp hS hz dX13_doesOperator_93
set_option maxRecDepth 100000 in
set_option maxHeartbeats 4000000 in
theorem w13_doesOperator_b92 {p : Program} {l : Launch} {e : Env} {s : State} {m : MethodId} {args : Array Value} {below : List Frame} {meth : Method} {c : Code} {D : va_G} {cA : Nat → ClassId} {B : Nat} {res : Int × HP} (E : e_En p s m args meth c cX13_doesOperator RX13 2 (some .boolean)) {ls : Array Slot} {H : Heap} {locs : List Loc} {S : HP} (hp : e_Pic D cA B S s H) (hS : va_S (e_A B) s.heap H locs) (hl : e_lo ls 2 []) (hsh : s13_doesOperator_b92 S  = some res) : W p l e ({ frames := 9, cells := 0, slots := 0, locals := 212 } : Room) s m args below meth c H locs 0 0 (MQ below (e_Qi D cA B res.1 res.2) args s 0 0 (e_A B)) (F0 m 92 ls []) := by
  obtain ⟨hx, hb, hml, hown, hts, hlk, hrt⟩ := id E
  unfold s13_doesOperator_b92 at hsh
  refine lv_iconst (v := iI (0)) hx hb dX13_doesOperator_92 rfl ?_
  exact w13_doesOperator_b93 E hp hS (hl.sub [] rfl) hsh
set_option maxRecDepth 100000 in
set_option maxHeartbeats 4000000 in
theorem c13_doesOperator (l : Launch) (D : va_G) (cA : Nat → ClassId) (B : Nat) (S S' : HP) (x0 : Int) (r : Int) (hsh : s13_doesOperator S x0 = some (r, S')) : Met l yX13_doesOperator (e_wu yX13_doesOperator cX13_doesOperator 2 (some .boolean)) ({ frames := 9, cells := 0, slots := 0, locals := 212 } : Room) (va_Pc [e_rv B (x0)] (fun U => e_PU D cA B S U)) (e_Qi D cA B r S') 0 0 (e_A B) := by
  refine Met.ofW (cc := cX13_doesOperator) (maxL := 2) (ret := (some .boolean)) (by decide +kernel) rfl ?_
  intro p e s m args below meth c s₁ Bd hml hv
  obtain ⟨rfl, hp⟩ := hv
  have hp : e_Pic D cA B S s s.heap := hp
  have hx := Bd.exec
  have hb := Bd.bytes
  have hrt := Bd.returns
  have hlk := Bd.notSynchronized
  have hown : s.vm.findClass RX13 = some m.cls := findClass_of_methodNamed Bd.named
  have hts : ∀ w ∈ e_tb, w.before ([e_rv B (x0)] : List Value).toArray s = true := fun w h => atoms_spec (ws := (e_wu yX13_doesOperator cX13_doesOperator 2 (some .boolean))) Bd.pre w (List.mem_cons_of_mem _ h)
  have E : e_En p s m ([e_rv B (x0)] : List Value).toArray meth c cX13_doesOperator RX13 2 (some .boolean) := ⟨hx, hb, hml, hown, hts, hlk, hrt⟩
  have hS : va_S (e_A B) s.heap s.heap [] := va_S.rf
  have hl := e_entry (vs := [e_rv B (x0)]) (n := 2) (Nat.le_of_ble_eq_true rfl) (e_cc (e_rv_cat _ _) e_cn)
  rw [lg_entry_eq]
  generalize (lg_sl [e_rv B (x0)] ++ List.replicate (2 - (lg_sl [e_rv B (x0)]).length) Slot.unset).toArray = ls at hl ⊢
  generalize ([e_rv B (x0)] : List Value).toArray = args at hts E ⊢
  have hl : e_lo ls 2 [(0, e_rv B (x0))] := hl
  have hsh := (gd_some hsh).2
  refine lv_bipush (v := iI (99)) hx hb dX13_doesOperator_0 (by decide +kernel) ?_
  refine lv_iconst (v := iI (1)) hx hb dX13_doesOperator_2 rfl ?_
  refine e_aload_n (B := B) (x := x0) hx hb dX13_doesOperator_3 rfl (hl.at 0 rfl) ?_
  obtain ⟨v4, h4, hsh⟩ := Option.bind_eq_some_iff.mp hsh
  refine e_getI (k := 59) hx hb hts in_X13 hown hp h4 rfl (by decide) (by decide) rfl (hts _ kf13_654) rfl dX13_doesOperator_4 ?_
  obtain ⟨⟨v7, S7⟩, h7, hsh⟩ := Option.bind_eq_some_iff.mp hsh
  have hsh : _ = _ := hsh
  try dsimp only at hsh
  refine e_callS (nL := 2) (mc := 0) (ms := 0) (As := [.int (iI (1)), .int (iI (v4))]) (rest := [.int (iI (99))]) hx hb hml hown hts hp hS hl.size (c13_greater l D cA B S S7 (1) (v4) v7 h7) rfl rfl kd13_greater (kl13_210) ks13_greater ki13 kh13_greater ⟨Nat.le_of_ble_eq_true rfl, Nat.le_of_ble_eq_true rfl⟩ rfl (by simp [e_rv_cat, e_int_cat]) ⟨Nat.le_refl _, Nat.le_refl _⟩ dX13_doesOperator_7 rfl (fun H locs hp hS => ?_)
  refine lv_iconst (v := iI (1)) hx hb dX13_doesOperator_10 rfl ?_
  refine e_aload_n (B := B) (x := x0) hx hb dX13_doesOperator_11 rfl (hl.at 0 rfl) ?_
  obtain ⟨v12, h12, hsh⟩ := Option.bind_eq_some_iff.mp hsh
  refine e_getI (k := 61) hx hb hts in_X13 hown hp h12 rfl (by decide) (by decide) rfl (hts _ kf13_645) rfl dX13_doesOperator_12 ?_
  obtain ⟨⟨v15, S15⟩, h15, hsh⟩ := Option.bind_eq_some_iff.mp hsh
  have hsh : _ = _ := hsh
  try dsimp only at hsh
  refine e_callS (nL := 2) (mc := 0) (ms := 0) (As := [.int (iI (1)), .int (iI (v12))]) (rest := [.int (iI (v7)), .int (iI (99))]) hx hb hml hown hts hp hS hl.size (c13_greater l D cA B S7 S15 (1) (v12) v15 h15) rfl rfl kd13_greater (kl13_210) ks13_greater ki13 kh13_greater ⟨Nat.le_of_ble_eq_true rfl, Nat.le_of_ble_eq_true rfl⟩ rfl (by simp [e_rv_cat, e_int_cat]) ⟨Nat.le_refl _, Nat.le_refl _⟩ dX13_doesOperator_15 rfl (fun H locs hp hS => ?_)
  refine e_imul hx hb dX13_doesOperator_18 ?_
  obtain ⟨⟨v19, S19⟩, h19, hsh⟩ := Option.bind_eq_some_iff.mp hsh
  have hsh : _ = _ := hsh
  try dsimp only at hsh
  refine e_callS (nL := 2) (mc := 0) (ms := 0) (As := [.int (iI (99)), .int (iI ((v7 * v15)))]) (rest := []) hx hb hml hown hts hp hS hl.size (c13_lesser l D cA B S15 S19 (99) ((v7 * v15)) v19 h19) rfl rfl kd13_lesser (kl13_257) ks13_lesser ki13 kh13_lesser ⟨Nat.le_of_ble_eq_true rfl, Nat.le_of_ble_eq_true rfl⟩ rfl (by simp [e_rv_cat, e_int_cat]) ⟨Nat.le_refl _, Nat.le_refl _⟩ dX13_doesOperator_19 rfl (fun H locs hp hS => ?_)
  refine e_istore_n (lv' := [(1, .int (iI (v19))), (0, e_rv B (x0))]) hx hb dX13_doesOperator_22 rfl hl (by decide) rfl (fun ls hl => ?_)
  refine e_aload_n (B := B) (x := x0) hx hb dX13_doesOperator_23 rfl (hl.at 1 rfl) ?_
  obtain ⟨v24, h24, hsh⟩ := Option.bind_eq_some_iff.mp hsh
  refine e_getI (k := 62) hx hb hts in_X13 hown hp h24 rfl (by decide) (by decide) rfl (hts _ kf13_615) rfl dX13_doesOperator_24 ?_
  refine lv_sipush (v := iI (1024)) hx hb dX13_doesOperator_27 (by decide +kernel) ?_
  refine e_icmp_ne (tgt := 55) hx hb dX13_doesOperator_30 (by decide) (fun c30 => ?_) (fun c30 => ?_)
  · rw [if_neg c30] at hsh
    refine e_aload_n (B := B) (x := x0) hx hb dX13_doesOperator_55 rfl (hl.at 1 rfl) ?_
    obtain ⟨v56, h56, hsh⟩ := Option.bind_eq_some_iff.mp hsh
    refine e_getI (k := 62) hx hb hts in_X13 hown hp h56 rfl (by decide) (by decide) rfl (hts _ kf13_615) rfl dX13_doesOperator_56 ?_
    refine lv_sipush (v := iI (1025)) hx hb dX13_doesOperator_59 (by decide +kernel) ?_
    refine e_icmp_ne (tgt := 94) hx hb dX13_doesOperator_62 (by decide) (fun c62 => ?_) (fun c62 => ?_)
    · rw [if_neg c62] at hsh
      refine e_aload_n (B := B) (x := x0) hx hb dX13_doesOperator_94 rfl (hl.at 1 rfl) ?_
      refine e_aload_n (B := B) (x := x0) hx hb dX13_doesOperator_95 rfl (hl.at 1 rfl) ?_
      obtain ⟨v96, h96, hsh⟩ := Option.bind_eq_some_iff.mp hsh
      refine e_getI (k := 60) hx hb hts in_X13 hown hp h96 rfl (by decide) (by decide) rfl (hts _ kf13_630) rfl dX13_doesOperator_96 ?_
      refine e_aload_n (B := B) (x := x0) hx hb dX13_doesOperator_99 rfl (hl.at 1 rfl) ?_
      obtain ⟨v100, h100, hsh⟩ := Option.bind_eq_some_iff.mp hsh
      refine e_getI (k := 58) hx hb hts in_X13 hown hp h100 rfl (by decide) (by decide) rfl (hts _ kf13_642) rfl dX13_doesOperator_100 ?_
      refine e_aload_n (B := B) (x := x0) hx hb dX13_doesOperator_103 rfl (hl.at 1 rfl) ?_
      obtain ⟨v104, h104, hsh⟩ := Option.bind_eq_some_iff.mp hsh
      refine e_getI (k := 62) hx hb hts in_X13 hown hp h104 rfl (by decide) (by decide) rfl (hts _ kf13_615) rfl dX13_doesOperator_104 ?_
      refine e_aload_n (B := B) (x := x0) hx hb dX13_doesOperator_107 rfl (hl.at 1 rfl) ?_
      obtain ⟨v108, h108, hsh⟩ := Option.bind_eq_some_iff.mp hsh
      refine e_getI (k := 63) hx hb hts in_X13 hown hp h108 rfl (by decide) (by decide) rfl (hts _ kf13_612) rfl dX13_doesOperator_108 ?_
      refine lv_iload_n hx hb dX13_doesOperator_111 rfl (hl.at 0 rfl) ?_
      refine e_aload_n (B := B) (x := x0) hx hb dX13_doesOperator_112 rfl (hl.at 1 rfl) ?_
      obtain ⟨v113, h113, hsh⟩ := Option.bind_eq_some_iff.mp hsh
      refine e_getI (k := 59) hx hb hts in_X13 hown hp h113 rfl (by decide) (by decide) rfl (hts _ kf13_654) rfl dX13_doesOperator_113 ?_
      refine e_aload_n (B := B) (x := x0) hx hb dX13_doesOperator_116 rfl (hl.at 1 rfl) ?_
      obtain ⟨v117, h117, hsh⟩ := Option.bind_eq_some_iff.mp hsh
      refine e_getI (k := 61) hx hb hts in_X13 hown hp h117 rfl (by decide) (by decide) rfl (hts _ kf13_645) rfl dX13_doesOperator_117 ?_
      refine e_iadd hx hb dX13_doesOperator_120 ?_
      refine e_if_le (tgt := 128) hx hb dX13_doesOperator_121 (by decide) (fun c121 => ?_) (fun c121 => ?_)
      · rw [if_pos c121] at hsh
        refine lv_iconst (v := iI (0)) hx hb dX13_doesOperator_128 rfl ?_
        exact w13_doesOperator_b129 E hp hS (hl.sub [] rfl) hsh
      · rw [if_neg c121] at hsh
        refine lv_iconst (v := iI (1)) hx hb dX13_doesOperator_124 rfl ?_
        refine lv_goto (tgt := 129) hx hb dX13_doesOperator_125 (by decide) ?_
        exact w13_doesOperator_b129 E hp hS (hl.sub [] rfl) hsh
    · rw [if_pos c62] at hsh
      refine e_aload_n (B := B) (x := x0) hx hb dX13_doesOperator_65 rfl (hl.at 1 rfl) ?_
      refine lv_iload_n hx hb dX13_doesOperator_66 rfl (hl.at 0 rfl) ?_
      obtain ⟨⟨v67, S67⟩, h67, hsh⟩ := Option.bind_eq_some_iff.mp hsh
      have hsh : _ = _ := hsh
      try dsimp only at hsh
      have ok67 := ok13_spansSeen h67
      refine e_callI (nL := 2) (mc := 0) (ms := 0) (T := TX13) (N := 126) (As := [.int (iI (v19))]) (rest := []) hx hb hml hown hts hp hS hl.size ok67.1 ok67.2.1 ok67.2.2 rfl (by decide) (c13_spansSeen l D cA B S19 S67 (x0) (v19) v67 h67) rfl rfl kd13_spansSeen (kl13_741) ks13_spansSeen kv13_spansSeen ki13 kh13_spansSeen ⟨Nat.le_of_ble_eq_true rfl, Nat.le_of_ble_eq_true rfl⟩ rfl (by simp [e_rv_cat, e_int_cat]) ⟨Nat.le_refl _, Nat.le_refl _⟩ dX13_doesOperator_67 rfl (fun H locs hp hS => ?_)
      refine e_if_eq (tgt := 92) hx hb dX13_doesOperator_70 (by decide) (fun c70 => ?_) (fun c70 => ?_)
      · rw [if_pos c70] at hsh
        exact w13_doesOperator_b92 E hp hS (hl.sub [] rfl) hsh
      · rw [if_neg c70] at hsh
        refine e_aload_n (B := B) (x := x0) hx hb dX13_doesOperator_73 rfl (hl.at 1 rfl) ?_
        refine e_aload_n (B := B) (x := x0) hx hb dX13_doesOperator_74 rfl (hl.at 1 rfl) ?_
        obtain ⟨v75, h75, hsh⟩ := Option.bind_eq_some_iff.mp hsh
        refine e_getI (k := 60) hx hb hts in_X13 hown hp h75 rfl (by decide) (by decide) rfl (hts _ kf13_630) rfl dX13_doesOperator_75 ?_
        refine e_aload_n (B := B) (x := x0) hx hb dX13_doesOperator_78 rfl (hl.at 1 rfl) ?_
        obtain ⟨v79, h79, hsh⟩ := Option.bind_eq_some_iff.mp hsh
        refine e_getI (k := 58) hx hb hts in_X13 hown hp h79 rfl (by decide) (by decide) rfl (hts _ kf13_642) rfl dX13_doesOperator_79 ?_
        obtain ⟨⟨v82, S82⟩, h82, hsh⟩ := Option.bind_eq_some_iff.mp hsh
        have hsh : _ = _ := hsh
        try dsimp only at hsh
        have ok82 := ok13_operates h82
        refine e_callI (nL := 2) (mc := 0) (ms := 0) (T := TX13) (N := 126) (As := [.int (iI (v75)), .int (iI (v79))]) (rest := []) hx hb hml hown hts hp hS hl.size ok82.1 ok82.2.1 ok82.2.2 rfl (by decide) (c13_operates l D cA B S67 S82 (x0) (v75) (v79) v82 h82) rfl rfl kd13_operates (kl13_548) ks13_operates kv13_operates ki13 kh13_operates ⟨Nat.le_of_ble_eq_true rfl, Nat.le_of_ble_eq_true rfl⟩ rfl (by simp [e_rv_cat, e_int_cat]) ⟨Nat.le_refl _, Nat.le_refl _⟩ dX13_doesOperator_82 rfl (fun H locs hp hS => ?_)
        refine e_if_eq (tgt := 92) hx hb dX13_doesOperator_85 (by decide) (fun c85 => ?_) (fun c85 => ?_)
        · rw [if_pos c85] at hsh
          exact w13_doesOperator_b92 E hp hS (hl.sub [] rfl) hsh
        · rw [if_neg c85] at hsh
          refine lv_iconst (v := iI (1)) hx hb dX13_doesOperator_88 rfl ?_
          refine lv_goto (tgt := 93) hx hb dX13_doesOperator_89 (by decide) ?_
          exact w13_doesOperator_b93 E hp hS (hl.sub [] rfl) hsh
  · rw [if_pos c30] at hsh
    refine e_aload_n (B := B) (x := x0) hx hb dX13_doesOperator_33 rfl (hl.at 1 rfl) ?_
    refine e_aload_n (B := B) (x := x0) hx hb dX13_doesOperator_34 rfl (hl.at 1 rfl) ?_
    obtain ⟨v35, h35, hsh⟩ := Option.bind_eq_some_iff.mp hsh
    refine e_getI (k := 60) hx hb hts in_X13 hown hp h35 rfl (by decide) (by decide) rfl (hts _ kf13_630) rfl dX13_doesOperator_35 ?_
    refine e_aload_n (B := B) (x := x0) hx hb dX13_doesOperator_38 rfl (hl.at 1 rfl) ?_
    obtain ⟨v39, h39, hsh⟩ := Option.bind_eq_some_iff.mp hsh
    refine e_getI (k := 58) hx hb hts in_X13 hown hp h39 rfl (by decide) (by decide) rfl (hts _ kf13_642) rfl dX13_doesOperator_39 ?_
    refine e_aload_n (B := B) (x := x0) hx hb dX13_doesOperator_42 rfl (hl.at 1 rfl) ?_
    obtain ⟨v43, h43, hsh⟩ := Option.bind_eq_some_iff.mp hsh
    refine e_getI (k := 63) hx hb hts in_X13 hown hp h43 rfl (by decide) (by decide) rfl (hts _ kf13_612) rfl dX13_doesOperator_43 ?_
    refine e_aload_n (B := B) (x := x0) hx hb dX13_doesOperator_46 rfl (hl.at 1 rfl) ?_
    obtain ⟨v47, h47, hsh⟩ := Option.bind_eq_some_iff.mp hsh
    refine e_getI (k := 65) hx hb hts in_X13 hown hp h47 rfl (by decide) (by decide) rfl (hts _ kf13_621) rfl dX13_doesOperator_47 ?_
    refine lv_iload_n hx hb dX13_doesOperator_50 rfl (hl.at 0 rfl) ?_
    obtain ⟨⟨v51, S51⟩, h51, hsh⟩ := Option.bind_eq_some_iff.mp hsh
    have hsh : _ = _ := hsh
    try dsimp only at hsh
    have ok51 := ok13_operatesObject h51
    refine e_callI (nL := 2) (mc := 0) (ms := 0) (T := TX13) (N := 126) (As := [.int (iI (v35)), .int (iI (v39)), .int (iI (v43)), .int (iI (v47)), .int (iI (v19))]) (rest := []) hx hb hml hown hts hp hS hl.size ok51.1 ok51.2.1 ok51.2.2 rfl (by decide) (c13_operatesObject l D cA B S19 S51 (x0) (v35) (v39) (v43) (v47) (v19) v51 h51) rfl rfl kd13_operatesObject (kl13_737) ks13_operatesObject kv13_operatesObject ki13 kh13_operatesObject ⟨Nat.le_of_ble_eq_true rfl, Nat.le_of_ble_eq_true rfl⟩ rfl (by simp [e_rv_cat, e_int_cat]) ⟨Nat.le_refl _, Nat.le_refl _⟩ dX13_doesOperator_51 rfl (fun H locs hp hS => ?_)
    obtain ⟨hz, hz1, hz2⟩ := zR_some hsh
    rw [← hz1, ← hz2]
    exact e_zret hx hb hrt hlk hp hS hz dX13_doesOperator_54
theorem ok13_doesFurther {S : HP} {x0 : Int} {x1 : Int} {r : Int × HP} (h : s13_doesFurther S x0 x1 = some r) : 0 ≤ x0 ∧ x0.toNat < e_n S ∧ e_g S x0.toNat = 13 := (gd_some h).1
set_option maxRecDepth 100000 in
set_option maxHeartbeats 4000000 in
theorem w13_doesFurther_b154 {p : Program} {l : Launch} {e : Env} {s : State} {m : MethodId} {args : Array Value} {below : List Frame} {meth : Method} {c : Code} {D : va_G} {cA : Nat → ClassId} {B : Nat} {res : Int × HP} (E : e_En p s m args meth c cX13_doesFurther RX13 2 (some .boolean)) {ls : Array Slot} {H : Heap} {locs : List Loc} {S : HP} {y0 : Int} (hp : e_Pic D cA B S s H) (hS : va_S (e_A B) s.heap H locs) (hl : e_lo ls 2 []) (hsh : s13_doesFurther_b154 S y0 = some res) : W p l e ({ frames := 5, cells := 0, slots := 0, locals := 119 } : Room) s m args below meth c H locs 0 0 (MQ below (e_Qi D cA B res.1 res.2) args s 0 0 (e_A B)) (F0 m 154 ls [.int (iI (y0))]) := by
  obtain ⟨hx, hb, hml, hown, hts, hlk, hrt⟩ := id E
  unfold s13_doesFurther_b154 at hsh
  obtain ⟨hz, hz1, hz2⟩ := zR_some hsh
  rw [← hz1, ← hz2]
  exact e_zret hx hb hrt hlk hp hS hz dX13_doesFurther_154
set_option maxRecDepth 100000 in
set_option maxHeartbeats 4000000 in
theorem w13_doesFurther_b153 {p : Program} {l : Launch} {e : Env} {s : State} {m : MethodId} {args : Array Value} {below : List Frame} {meth : Method} {c : Code} {D : va_G} {cA : Nat → ClassId} {B : Nat} {res : Int × HP} (E : e_En p s m args meth c cX13_doesFurther RX13 2 (some .boolean)) {ls : Array Slot} {H : Heap} {locs : List Loc} {S : HP} (hp : e_Pic D cA B S s H) (hS : va_S (e_A B) s.heap H locs) (hl : e_lo ls 2 []) (hsh : s13_doesFurther_b153 S  = some res) : W p l e ({ frames := 5, cells := 0, slots := 0, locals := 119 } : Room) s m args below meth c H locs 0 0 (MQ below (e_Qi D cA B res.1 res.2) args s 0 0 (e_A B)) (F0 m 153 ls []) := by
  obtain ⟨hx, hb, hml, hown, hts, hlk, hrt⟩ := id E
  unfold s13_doesFurther_b153 at hsh
  refine lv_iconst (v := iI (0)) hx hb dX13_doesFurther_153 rfl ?_
  exact w13_doesFurther_b154 E hp hS (hl.sub [] rfl) hsh
set_option maxRecDepth 100000 in
set_option maxHeartbeats 4000000 in
theorem c13_doesFurther (l : Launch) (D : va_G) (cA : Nat → ClassId) (B : Nat) (S S' : HP) (x0 : Int) (x1 : Int) (r : Int) (hsh : s13_doesFurther S x0 x1 = some (r, S')) : Met l yX13_doesFurther (e_wu yX13_doesFurther cX13_doesFurther 2 (some .boolean)) ({ frames := 5, cells := 0, slots := 0, locals := 119 } : Room) (va_Pc [e_rv B (x0), .int (iI (x1))] (fun U => e_PU D cA B S U)) (e_Qi D cA B r S') 0 0 (e_A B) := by
  refine Met.ofW (cc := cX13_doesFurther) (maxL := 2) (ret := (some .boolean)) (by decide +kernel) rfl ?_
  intro p e s m args below meth c s₁ Bd hml hv
  obtain ⟨rfl, hp⟩ := hv
  have hp : e_Pic D cA B S s s.heap := hp
  have hx := Bd.exec
  have hb := Bd.bytes
  have hrt := Bd.returns
  have hlk := Bd.notSynchronized
  have hown : s.vm.findClass RX13 = some m.cls := findClass_of_methodNamed Bd.named
  have hts : ∀ w ∈ e_tb, w.before ([e_rv B (x0), .int (iI (x1))] : List Value).toArray s = true := fun w h => atoms_spec (ws := (e_wu yX13_doesFurther cX13_doesFurther 2 (some .boolean))) Bd.pre w (List.mem_cons_of_mem _ h)
  have E : e_En p s m ([e_rv B (x0), .int (iI (x1))] : List Value).toArray meth c cX13_doesFurther RX13 2 (some .boolean) := ⟨hx, hb, hml, hown, hts, hlk, hrt⟩
  have hS : va_S (e_A B) s.heap s.heap [] := va_S.rf
  have hl := e_entry (vs := [e_rv B (x0), .int (iI (x1))]) (n := 2) (Nat.le_of_ble_eq_true rfl) (e_cc (e_rv_cat _ _) (e_cc rfl e_cn))
  rw [lg_entry_eq]
  generalize (lg_sl [e_rv B (x0), .int (iI (x1))] ++ List.replicate (2 - (lg_sl [e_rv B (x0), .int (iI (x1))]).length) Slot.unset).toArray = ls at hl ⊢
  generalize ([e_rv B (x0), .int (iI (x1))] : List Value).toArray = args at hts E ⊢
  have hl : e_lo ls 2 [(0, e_rv B (x0)), (1, .int (iI (x1)))] := hl
  have hsh := (gd_some hsh).2
  refine e_aload_n (B := B) (x := x0) hx hb dX13_doesFurther_0 rfl (hl.at 0 rfl) ?_
  obtain ⟨v1, h1, hsh⟩ := Option.bind_eq_some_iff.mp hsh
  refine e_getI (k := 62) hx hb hts in_X13 hown hp h1 rfl (by decide) (by decide) rfl (hts _ kf13_615) rfl dX13_doesFurther_1 ?_
  by_cases c4_0 : iW (v1) = 9
  · rw [if_pos c4_0] at hsh
    refine lv_lookup (off := 124) (tgt := 128) hx hb dX13_doesFurther_4 (by decide +kernel) (e_off_h c4_0.symm) (by decide) ?_
    refine e_aload_n (B := B) (x := x0) hx hb dX13_doesFurther_128 rfl (hl.at 0 rfl) ?_
    obtain ⟨v129, h129, hsh⟩ := Option.bind_eq_some_iff.mp hsh
    refine e_getI (k := 19) hx hb hts in_X13 hown hp h129 rfl (by decide) (by decide) rfl (hts _ kf13_45) rfl dX13_doesFurther_129 ?_
    refine lv_iconst (v := iI (-1)) hx hb dX13_doesFurther_132 rfl ?_
    refine e_icmp_eq (tgt := 153) hx hb dX13_doesFurther_133 (by decide) (fun c133 => ?_) (fun c133 => ?_)
    · rw [if_pos c133] at hsh
      exact w13_doesFurther_b153 E hp hS (hl.sub [] rfl) hsh
    · rw [if_neg c133] at hsh
      refine e_aload_n (B := B) (x := x0) hx hb dX13_doesFurther_136 rfl (hl.at 0 rfl) ?_
      refine e_aload_n (B := B) (x := x0) hx hb dX13_doesFurther_137 rfl (hl.at 0 rfl) ?_
      obtain ⟨v138, h138, hsh⟩ := Option.bind_eq_some_iff.mp hsh
      refine e_getI (k := 19) hx hb hts in_X13 hown hp h138 rfl (by decide) (by decide) rfl (hts _ kf13_45) rfl dX13_doesFurther_138 ?_
      refine lv_iload_n hx hb dX13_doesFurther_141 rfl (hl.at 1 rfl) ?_
      refine e_iadd hx hb dX13_doesFurther_142 ?_
      obtain ⟨⟨v143, S143⟩, h143, hsh⟩ := Option.bind_eq_some_iff.mp hsh
      have hsh : _ = _ := hsh
      try dsimp only at hsh
      have ok143 := ok13_goesJump h143
      refine e_callI (nL := 2) (mc := 0) (ms := 0) (T := TX13) (N := 126) (As := [.int (iI ((v138 + x1)))]) (rest := []) hx hb hml hown hts hp hS hl.size ok143.1 ok143.2.1 ok143.2.2 rfl (by decide) (c13_goesJump l D cA B S S143 (x0) ((v138 + x1)) v143 h143) rfl rfl kd13_goesJump (kl13_587) ks13_goesJump kv13_goesJump ki13 kh13_goesJump ⟨Nat.le_of_ble_eq_true rfl, Nat.le_of_ble_eq_true rfl⟩ rfl (by simp [e_rv_cat, e_int_cat]) ⟨Nat.le_refl _, Nat.le_refl _⟩ dX13_doesFurther_143 rfl (fun H locs hp hS => ?_)
      refine e_if_eq (tgt := 153) hx hb dX13_doesFurther_146 (by decide) (fun c146 => ?_) (fun c146 => ?_)
      · rw [if_pos c146] at hsh
        exact w13_doesFurther_b153 E hp hS (hl.sub [] rfl) hsh
      · rw [if_neg c146] at hsh
        refine lv_iconst (v := iI (1)) hx hb dX13_doesFurther_149 rfl ?_
        refine lv_goto (tgt := 154) hx hb dX13_doesFurther_150 (by decide) ?_
        exact w13_doesFurther_b154 E hp hS (hl.sub [] rfl) hsh
  · rw [if_neg c4_0] at hsh
    by_cases c4_1 : iW (v1) = 15
    · rw [if_pos c4_1] at hsh
      refine lv_lookup (off := 118) (tgt := 122) hx hb dX13_doesFurther_4 (by decide +kernel) (e_off_s (fun q => c4_0 q.symm) (e_off_h c4_1.symm)) (by decide) ?_
      refine e_aload_n (B := B) (x := x0) hx hb dX13_doesFurther_122 rfl (hl.at 0 rfl) ?_
      refine lv_iload_n hx hb dX13_doesFurther_123 rfl (hl.at 1 rfl) ?_
      obtain ⟨⟨v124, S124⟩, h124, hsh⟩ := Option.bind_eq_some_iff.mp hsh
      have hsh : _ = _ := hsh
      try dsimp only at hsh
      have ok124 := ok13_goesOlder h124
      refine e_callI (nL := 2) (mc := 0) (ms := 0) (T := TX13) (N := 126) (As := [.int (iI (x1))]) (rest := []) hx hb hml hown hts hp hS hl.size ok124.1 ok124.2.1 ok124.2.2 rfl (by decide) (c13_goesOlder l D cA B S S124 (x0) (x1) v124 h124) rfl rfl kd13_goesOlder (kl13_791) ks13_goesOlder kv13_goesOlder ki13 kh13_goesOlder ⟨Nat.le_of_ble_eq_true rfl, Nat.le_of_ble_eq_true rfl⟩ rfl (by simp [e_rv_cat, e_int_cat]) ⟨Nat.le_refl _, Nat.le_refl _⟩ dX13_doesFurther_124 rfl (fun H locs hp hS => ?_)
      obtain ⟨hz, hz1, hz2⟩ := zR_some hsh
      rw [← hz1, ← hz2]
      exact e_zret hx hb hrt hlk hp hS hz dX13_doesFurther_127
    · rw [if_neg c4_1] at hsh
      by_cases c4_2 : iW (v1) = 18
      · rw [if_pos c4_2] at hsh
        refine lv_lookup (off := 92) (tgt := 96) hx hb dX13_doesFurther_4 (by decide +kernel) (e_off_s (fun q => c4_0 q.symm) (e_off_s (fun q => c4_1 q.symm) (e_off_h c4_2.symm))) (by decide) ?_
        refine e_aload_n (B := B) (x := x0) hx hb dX13_doesFurther_96 rfl (hl.at 0 rfl) ?_
        refine e_aload_n (B := B) (x := x0) hx hb dX13_doesFurther_97 rfl (hl.at 0 rfl) ?_
        obtain ⟨v98, h98, hsh⟩ := Option.bind_eq_some_iff.mp hsh
        refine e_getI (k := 62) hx hb hts in_X13 hown hp h98 rfl (by decide) (by decide) rfl (hts _ kf13_615) rfl dX13_doesFurther_98 ?_
        refine lv_iload_n hx hb dX13_doesFurther_101 rfl (hl.at 1 rfl) ?_
        obtain ⟨⟨v102, S102⟩, h102, hsh⟩ := Option.bind_eq_some_iff.mp hsh
        have hsh : _ = _ := hsh
        try dsimp only at hsh
        have ok102 := ok13_goesStates h102
        refine e_callI (nL := 2) (mc := 0) (ms := 0) (T := TX13) (N := 126) (As := [.int (iI (v98)), .int (iI (x1))]) (rest := []) hx hb hml hown hts hp hS hl.size ok102.1 ok102.2.1 ok102.2.2 rfl (by decide) (c13_goesStates l D cA B S S102 (x0) (v98) (x1) v102 h102) rfl rfl kd13_goesStates (kl13_779) ks13_goesStates kv13_goesStates ki13 kh13_goesStates ⟨Nat.le_of_ble_eq_true rfl, Nat.le_of_ble_eq_true rfl⟩ rfl (by simp [e_rv_cat, e_int_cat]) ⟨Nat.le_refl _, Nat.le_refl _⟩ dX13_doesFurther_102 rfl (fun H locs hp hS => ?_)
        obtain ⟨hz, hz1, hz2⟩ := zR_some hsh
        rw [← hz1, ← hz2]
        exact e_zret hx hb hrt hlk hp hS hz dX13_doesFurther_105
      · rw [if_neg c4_2] at hsh
        by_cases c4_3 : iW (v1) = 46
        · rw [if_pos c4_3] at hsh
          refine lv_lookup (off := 102) (tgt := 106) hx hb dX13_doesFurther_4 (by decide +kernel) (e_off_s (fun q => c4_0 q.symm) (e_off_s (fun q => c4_1 q.symm) (e_off_s (fun q => c4_2 q.symm) (e_off_h c4_3.symm)))) (by decide) ?_
          refine e_aload_n (B := B) (x := x0) hx hb dX13_doesFurther_106 rfl (hl.at 0 rfl) ?_
          obtain ⟨⟨v107, S107⟩, h107, hsh⟩ := Option.bind_eq_some_iff.mp hsh
          have hsh : _ = _ := hsh
          try dsimp only at hsh
          have ok107 := ok13_repeatsChange h107
          refine e_callI (nL := 2) (mc := 0) (ms := 0) (T := TX13) (N := 126) (As := []) (rest := []) hx hb hml hown hts hp hS hl.size ok107.1 ok107.2.1 ok107.2.2 rfl (by decide) (c13_repeatsChange l D cA B S S107 (x0) v107 h107) rfl rfl kd13_repeatsChange (kl13_782) ks13_repeatsChange kv13_repeatsChange ki13 kh13_repeatsChange ⟨Nat.le_of_ble_eq_true rfl, Nat.le_of_ble_eq_true rfl⟩ rfl (by simp [e_rv_cat, e_int_cat]) ⟨Nat.le_refl _, Nat.le_refl _⟩ dX13_doesFurther_107 rfl (fun H locs hp hS => ?_)
          obtain ⟨hz, hz1, hz2⟩ := zR_some hsh
          rw [← hz1, ← hz2]
          exact e_zret hx hb hrt hlk hp hS hz dX13_doesFurther_110
        · rw [if_neg c4_3] at hsh
          by_cases c4_4 : iW (v1) = 64
          · rw [if_pos c4_4] at hsh
            refine lv_lookup (off := 112) (tgt := 116) hx hb dX13_doesFurther_4 (by decide +kernel) (e_off_s (fun q => c4_0 q.symm) (e_off_s (fun q => c4_1 q.symm) (e_off_s (fun q => c4_2 q.symm) (e_off_s (fun q => c4_3 q.symm) (e_off_h c4_4.symm))))) (by decide) ?_
            refine e_aload_n (B := B) (x := x0) hx hb dX13_doesFurther_116 rfl (hl.at 0 rfl) ?_
            refine lv_iload_n hx hb dX13_doesFurther_117 rfl (hl.at 1 rfl) ?_
            obtain ⟨⟨v118, S118⟩, h118, hsh⟩ := Option.bind_eq_some_iff.mp hsh
            have hsh : _ = _ := hsh
            try dsimp only at hsh
            have ok118 := ok13_plays h118
            refine e_callI (nL := 2) (mc := 0) (ms := 0) (T := TX13) (N := 126) (As := [.int (iI (x1))]) (rest := []) hx hb hml hown hts hp hS hl.size ok118.1 ok118.2.1 ok118.2.2 rfl (by decide) (c13_plays l D cA B S S118 (x0) (x1) v118 h118) rfl rfl kd13_plays (kl13_788) ks13_plays kv13_plays ki13 kh13_plays ⟨Nat.le_of_ble_eq_true rfl, Nat.le_of_ble_eq_true rfl⟩ rfl (by simp [e_rv_cat, e_int_cat]) ⟨Nat.le_refl _, Nat.le_refl _⟩ dX13_doesFurther_118 rfl (fun H locs hp hS => ?_)
            obtain ⟨hz, hz1, hz2⟩ := zR_some hsh
            rw [← hz1, ← hz2]
            exact e_zret hx hb hrt hlk hp hS hz dX13_doesFurther_121
          · rw [if_neg c4_4] at hsh
            by_cases c4_5 : iW (v1) = 113
            · rw [if_pos c4_5] at hsh
              refine lv_lookup (off := 107) (tgt := 111) hx hb dX13_doesFurther_4 (by decide +kernel) (e_off_s (fun q => c4_0 q.symm) (e_off_s (fun q => c4_1 q.symm) (e_off_s (fun q => c4_2 q.symm) (e_off_s (fun q => c4_3 q.symm) (e_off_s (fun q => c4_4 q.symm) (e_off_h c4_5.symm)))))) (by decide) ?_
              refine e_aload_n (B := B) (x := x0) hx hb dX13_doesFurther_111 rfl (hl.at 0 rfl) ?_
              obtain ⟨⟨v112, S112⟩, h112, hsh⟩ := Option.bind_eq_some_iff.mp hsh
              have hsh : _ = _ := hsh
              try dsimp only at hsh
              have ok112 := ok13_records h112
              refine e_callI (nL := 2) (mc := 0) (ms := 0) (T := TX13) (N := 126) (As := []) (rest := []) hx hb hml hown hts hp hS hl.size ok112.1 ok112.2.1 ok112.2.2 rfl (by decide) (c13_records l D cA B S S112 (x0) v112 h112) rfl rfl kd13_records (kl13_785) ks13_records kv13_records ki13 kh13_records ⟨Nat.le_of_ble_eq_true rfl, Nat.le_of_ble_eq_true rfl⟩ rfl (by simp [e_rv_cat, e_int_cat]) ⟨Nat.le_refl _, Nat.le_refl _⟩ dX13_doesFurther_112 rfl (fun H locs hp hS => ?_)
              obtain ⟨hz, hz1, hz2⟩ := zR_some hsh
              rw [← hz1, ← hz2]
              exact e_zret hx hb hrt hlk hp hS hz dX13_doesFurther_115
            · rw [if_neg c4_5] at hsh
              by_cases c4_6 : iW (v1) = 117
              · rw [if_pos c4_6] at hsh
                refine lv_lookup (off := 92) (tgt := 96) hx hb dX13_doesFurther_4 (by decide +kernel) (e_off_s (fun q => c4_0 q.symm) (e_off_s (fun q => c4_1 q.symm) (e_off_s (fun q => c4_2 q.symm) (e_off_s (fun q => c4_3 q.symm) (e_off_s (fun q => c4_4 q.symm) (e_off_s (fun q => c4_5 q.symm) (e_off_h c4_6.symm))))))) (by decide) ?_
                refine e_aload_n (B := B) (x := x0) hx hb dX13_doesFurther_96 rfl (hl.at 0 rfl) ?_
                refine e_aload_n (B := B) (x := x0) hx hb dX13_doesFurther_97 rfl (hl.at 0 rfl) ?_
                obtain ⟨v98, h98, hsh⟩ := Option.bind_eq_some_iff.mp hsh
                refine e_getI (k := 62) hx hb hts in_X13 hown hp h98 rfl (by decide) (by decide) rfl (hts _ kf13_615) rfl dX13_doesFurther_98 ?_
                refine lv_iload_n hx hb dX13_doesFurther_101 rfl (hl.at 1 rfl) ?_
                obtain ⟨⟨v102, S102⟩, h102, hsh⟩ := Option.bind_eq_some_iff.mp hsh
                have hsh : _ = _ := hsh
                try dsimp only at hsh
                have ok102 := ok13_goesStates h102
                refine e_callI (nL := 2) (mc := 0) (ms := 0) (T := TX13) (N := 126) (As := [.int (iI (v98)), .int (iI (x1))]) (rest := []) hx hb hml hown hts hp hS hl.size ok102.1 ok102.2.1 ok102.2.2 rfl (by decide) (c13_goesStates l D cA B S S102 (x0) (v98) (x1) v102 h102) rfl rfl kd13_goesStates (kl13_779) ks13_goesStates kv13_goesStates ki13 kh13_goesStates ⟨Nat.le_of_ble_eq_true rfl, Nat.le_of_ble_eq_true rfl⟩ rfl (by simp [e_rv_cat, e_int_cat]) ⟨Nat.le_refl _, Nat.le_refl _⟩ dX13_doesFurther_102 rfl (fun H locs hp hS => ?_)
                obtain ⟨hz, hz1, hz2⟩ := zR_some hsh
                rw [← hz1, ← hz2]
                exact e_zret hx hb hrt hlk hp hS hz dX13_doesFurther_105
              · rw [if_neg c4_6] at hsh
                by_cases c4_7 : iW (v1) = 299
                · rw [if_pos c4_7] at hsh
                  refine lv_lookup (off := 92) (tgt := 96) hx hb dX13_doesFurther_4 (by decide +kernel) (e_off_s (fun q => c4_0 q.symm) (e_off_s (fun q => c4_1 q.symm) (e_off_s (fun q => c4_2 q.symm) (e_off_s (fun q => c4_3 q.symm) (e_off_s (fun q => c4_4 q.symm) (e_off_s (fun q => c4_5 q.symm) (e_off_s (fun q => c4_6 q.symm) (e_off_h c4_7.symm)))))))) (by decide) ?_
                  refine e_aload_n (B := B) (x := x0) hx hb dX13_doesFurther_96 rfl (hl.at 0 rfl) ?_
                  refine e_aload_n (B := B) (x := x0) hx hb dX13_doesFurther_97 rfl (hl.at 0 rfl) ?_
                  obtain ⟨v98, h98, hsh⟩ := Option.bind_eq_some_iff.mp hsh
                  refine e_getI (k := 62) hx hb hts in_X13 hown hp h98 rfl (by decide) (by decide) rfl (hts _ kf13_615) rfl dX13_doesFurther_98 ?_
                  refine lv_iload_n hx hb dX13_doesFurther_101 rfl (hl.at 1 rfl) ?_
                  obtain ⟨⟨v102, S102⟩, h102, hsh⟩ := Option.bind_eq_some_iff.mp hsh
                  have hsh : _ = _ := hsh
                  try dsimp only at hsh
                  have ok102 := ok13_goesStates h102
                  refine e_callI (nL := 2) (mc := 0) (ms := 0) (T := TX13) (N := 126) (As := [.int (iI (v98)), .int (iI (x1))]) (rest := []) hx hb hml hown hts hp hS hl.size ok102.1 ok102.2.1 ok102.2.2 rfl (by decide) (c13_goesStates l D cA B S S102 (x0) (v98) (x1) v102 h102) rfl rfl kd13_goesStates (kl13_779) ks13_goesStates kv13_goesStates ki13 kh13_goesStates ⟨Nat.le_of_ble_eq_true rfl, Nat.le_of_ble_eq_true rfl⟩ rfl (by simp [e_rv_cat, e_int_cat]) ⟨Nat.le_refl _, Nat.le_refl _⟩ dX13_doesFurther_102 rfl (fun H locs hp hS => ?_)
                  obtain ⟨hz, hz1, hz2⟩ := zR_some hsh
                  rw [← hz1, ← hz2]
                  exact e_zret hx hb hrt hlk hp hS hz dX13_doesFurther_105
                · rw [if_neg c4_7] at hsh
                  by_cases c4_8 : iW (v1) = 301
                  · rw [if_pos c4_8] at hsh
                    refine lv_lookup (off := 92) (tgt := 96) hx hb dX13_doesFurther_4 (by decide +kernel) (e_off_s (fun q => c4_0 q.symm) (e_off_s (fun q => c4_1 q.symm) (e_off_s (fun q => c4_2 q.symm) (e_off_s (fun q => c4_3 q.symm) (e_off_s (fun q => c4_4 q.symm) (e_off_s (fun q => c4_5 q.symm) (e_off_s (fun q => c4_6 q.symm) (e_off_s (fun q => c4_7 q.symm) (e_off_h c4_8.symm))))))))) (by decide) ?_
                    refine e_aload_n (B := B) (x := x0) hx hb dX13_doesFurther_96 rfl (hl.at 0 rfl) ?_
                    refine e_aload_n (B := B) (x := x0) hx hb dX13_doesFurther_97 rfl (hl.at 0 rfl) ?_
                    obtain ⟨v98, h98, hsh⟩ := Option.bind_eq_some_iff.mp hsh
                    refine e_getI (k := 62) hx hb hts in_X13 hown hp h98 rfl (by decide) (by decide) rfl (hts _ kf13_615) rfl dX13_doesFurther_98 ?_
                    refine lv_iload_n hx hb dX13_doesFurther_101 rfl (hl.at 1 rfl) ?_
                    obtain ⟨⟨v102, S102⟩, h102, hsh⟩ := Option.bind_eq_some_iff.mp hsh
                    have hsh : _ = _ := hsh
                    try dsimp only at hsh
                    have ok102 := ok13_goesStates h102
                    refine e_callI (nL := 2) (mc := 0) (ms := 0) (T := TX13) (N := 126) (As := [.int (iI (v98)), .int (iI (x1))]) (rest := []) hx hb hml hown hts hp hS hl.size ok102.1 ok102.2.1 ok102.2.2 rfl (by decide) (c13_goesStates l D cA B S S102 (x0) (v98) (x1) v102 h102) rfl rfl kd13_goesStates (kl13_779) ks13_goesStates kv13_goesStates ki13 kh13_goesStates ⟨Nat.le_of_ble_eq_true rfl, Nat.le_of_ble_eq_true rfl⟩ rfl (by simp [e_rv_cat, e_int_cat]) ⟨Nat.le_refl _, Nat.le_refl _⟩ dX13_doesFurther_102 rfl (fun H locs hp hS => ?_)
                    obtain ⟨hz, hz1, hz2⟩ := zR_some hsh
                    rw [← hz1, ← hz2]
                    exact e_zret hx hb hrt hlk hp hS hz dX13_doesFurther_105
                  · rw [if_neg c4_8] at hsh
                    by_cases c4_9 : iW (v1) = 365
                    · rw [if_pos c4_9] at hsh
                      refine lv_lookup (off := 151) (tgt := 155) hx hb dX13_doesFurther_4 (by decide +kernel) (e_off_s (fun q => c4_0 q.symm) (e_off_s (fun q => c4_1 q.symm) (e_off_s (fun q => c4_2 q.symm) (e_off_s (fun q => c4_3 q.symm) (e_off_s (fun q => c4_4 q.symm) (e_off_s (fun q => c4_5 q.symm) (e_off_s (fun q => c4_6 q.symm) (e_off_s (fun q => c4_7 q.symm) (e_off_s (fun q => c4_8 q.symm) (e_off_h c4_9.symm)))))))))) (by decide) ?_
                      refine e_aload_n (B := B) (x := x0) hx hb dX13_doesFurther_155 rfl (hl.at 0 rfl) ?_
                      obtain ⟨⟨v156, S156⟩, h156, hsh⟩ := Option.bind_eq_some_iff.mp hsh
                      have hsh : _ = _ := hsh
                      try dsimp only at hsh
                      have ok156 := ok13_marksPlaces h156
                      refine e_callI (nL := 2) (mc := 0) (ms := 0) (T := TX13) (N := 126) (As := []) (rest := []) hx hb hml hown hts hp hS hl.size ok156.1 ok156.2.1 ok156.2.2 rfl (by decide) (c13_marksPlaces l D cA B S S156 (x0) v156 h156) rfl rfl kd13_marksPlaces (kl13_794) ks13_marksPlaces kv13_marksPlaces ki13 kh13_marksPlaces ⟨Nat.le_of_ble_eq_true rfl, Nat.le_of_ble_eq_true rfl⟩ rfl (by simp [e_rv_cat, e_int_cat]) ⟨Nat.le_refl _, Nat.le_refl _⟩ dX13_doesFurther_156 rfl (fun H locs hp hS => ?_)
                      obtain ⟨hz, hz1, hz2⟩ := zR_some hsh
                      rw [← hz1, ← hz2]
                      exact e_zret hx hb hrt hlk hp hS hz dX13_doesFurther_159
                    · rw [if_neg c4_9] at hsh
                      refine lv_lookup (off := 156) (tgt := 160) hx hb dX13_doesFurther_4 (by decide +kernel) (e_off_s (fun q => c4_0 q.symm) (e_off_s (fun q => c4_1 q.symm) (e_off_s (fun q => c4_2 q.symm) (e_off_s (fun q => c4_3 q.symm) (e_off_s (fun q => c4_4 q.symm) (e_off_s (fun q => c4_5 q.symm) (e_off_s (fun q => c4_6 q.symm) (e_off_s (fun q => c4_7 q.symm) (e_off_s (fun q => c4_8 q.symm) (e_off_s (fun q => c4_9 q.symm) rfl)))))))))) (by decide) ?_
                      refine e_aload_n (B := B) (x := x0) hx hb dX13_doesFurther_160 rfl (hl.at 0 rfl) ?_
                      refine e_aload_n (B := B) (x := x0) hx hb dX13_doesFurther_161 rfl (hl.at 0 rfl) ?_
                      obtain ⟨v162, h162, hsh⟩ := Option.bind_eq_some_iff.mp hsh
                      refine e_getI (k := 62) hx hb hts in_X13 hown hp h162 rfl (by decide) (by decide) rfl (hts _ kf13_615) rfl dX13_doesFurther_162 ?_
                      obtain ⟨⟨v165, S165⟩, h165, hsh⟩ := Option.bind_eq_some_iff.mp hsh
                      have hsh : _ = _ := hsh
                      try dsimp only at hsh
                      have ok165 := ok13_changesFold h165
                      refine e_callI (nL := 2) (mc := 0) (ms := 0) (T := TX13) (N := 126) (As := [.int (iI (v162))]) (rest := []) hx hb hml hown hts hp hS hl.size ok165.1 ok165.2.1 ok165.2.2 rfl (by decide) (c13_changesFold l D cA B S S165 (x0) (v162) v165 h165) rfl rfl kd13_changesFold (kl13_797) ks13_changesFold kv13_changesFold ki13 kh13_changesFold ⟨Nat.le_of_ble_eq_true rfl, Nat.le_of_ble_eq_true rfl⟩ rfl (by simp [e_rv_cat, e_int_cat]) ⟨Nat.le_refl _, Nat.le_refl _⟩ dX13_doesFurther_165 rfl (fun H locs hp hS => ?_)
                      obtain ⟨hz, hz1, hz2⟩ := zR_some hsh
                      rw [← hz1, ← hz2]
                      exact e_zret hx hb hrt hlk hp hS hz dX13_doesFurther_168
theorem ok13_putsKey {S : HP} {x0 : Int} {x1 : Int} {r : HP} (h : s13_putsKey S x0 x1 = some r) : 0 ≤ x0 ∧ x0.toNat < e_n S ∧ e_g S x0.toNat = 13 := (gd_some h).1
set_option maxRecDepth 100000 in
set_option maxHeartbeats 4000000 in
theorem w13_putsKey_b48 {p : Program} {l : Launch} {e : Env} {s : State} {m : MethodId} {args : Array Value} {below : List Frame} {meth : Method} {c : Code} {D : va_G} {cA : Nat → ClassId} {B : Nat} {res : HP} (E : e_En p s m args meth c cX13_putsKey RX13 2 none) {ls : Array Slot} {H : Heap} {locs : List Loc} {S : HP} (hp : e_Pic D cA B S s H) (hS : va_S (e_A B) s.heap H locs) (hl : e_lo ls 2 []) (hsh : s13_putsKey_b48 S  = some res) : W p l e ({ frames := 4, cells := 0, slots := 0, locals := 100 } : Room) s m args below meth c H locs 0 0 (MQ below (e_Qv D cA B res) args s 0 0 (e_A B)) (F0 m 48 ls []) := by
  obtain ⟨hx, hb, hml, hown, hts, hlk, hrt⟩ := id E
  unfold s13_putsKey_b48 at hsh
  cases hsh
  exact e_vret hx hb hrt hlk hp hS dX13_putsKey_48
set_option maxRecDepth 100000 in
set_option maxHeartbeats 4000000 in
theorem c13_putsKey (l : Launch) (D : va_G) (cA : Nat → ClassId) (B : Nat) (S S' : HP) (x0 : Int) (x1 : Int) (hsh : s13_putsKey S x0 x1 = some S') : Met l yX13_putsKey (e_wu yX13_putsKey cX13_putsKey 2 none) ({ frames := 4, cells := 0, slots := 0, locals := 100 } : Room) (va_Pc [e_rv B (x0), .int (iI (x1))] (fun U => e_PU D cA B S U)) (e_Qv D cA B S') 0 0 (e_A B) := by
  refine Met.ofW (cc := cX13_putsKey) (maxL := 2) (ret := none) (by decide +kernel) rfl ?_
  intro p e s m args below meth c s₁ Bd hml hv
  obtain ⟨rfl, hp⟩ := hv
  have hp : e_Pic D cA B S s s.heap := hp
  have hx := Bd.exec
  have hb := Bd.bytes
  have hrt := Bd.returns
  have hlk := Bd.notSynchronized
  have hown : s.vm.findClass RX13 = some m.cls := findClass_of_methodNamed Bd.named
  have hts : ∀ w ∈ e_tb, w.before ([e_rv B (x0), .int (iI (x1))] : List Value).toArray s = true := fun w h => atoms_spec (ws := (e_wu yX13_putsKey cX13_putsKey 2 none)) Bd.pre w (List.mem_cons_of_mem _ h)
  have E : e_En p s m ([e_rv B (x0), .int (iI (x1))] : List Value).toArray meth c cX13_putsKey RX13 2 none := ⟨hx, hb, hml, hown, hts, hlk, hrt⟩
  have hS : va_S (e_A B) s.heap s.heap [] := va_S.rf
  have hl := e_entry (vs := [e_rv B (x0), .int (iI (x1))]) (n := 2) (Nat.le_of_ble_eq_true rfl) (e_cc (e_rv_cat _ _) (e_cc rfl e_cn))
  rw [lg_entry_eq]
  generalize (lg_sl [e_rv B (x0), .int (iI (x1))] ++ List.replicate (2 - (lg_sl [e_rv B (x0), .int (iI (x1))]).length) Slot.unset).toArray = ls at hl ⊢
  generalize ([e_rv B (x0), .int (iI (x1))] : List Value).toArray = args at hts E ⊢
  have hl : e_lo ls 2 [(0, e_rv B (x0)), (1, .int (iI (x1)))] := hl
  have hsh := (gd_some hsh).2
  refine e_aload_n (B := B) (x := x0) hx hb dX13_putsKey_0 rfl (hl.at 0 rfl) ?_
  obtain ⟨v1, h1, hsh⟩ := Option.bind_eq_some_iff.mp hsh
  refine e_getR (k := 42) hx hb hts in_X13 hown hp h1 rfl (by decide) (by decide) rfl (hts _ kf13_83) rfl dX13_putsKey_1 ?_
  refine lv_iconst (v := iI (0)) hx hb dX13_putsKey_4 rfl ?_
  refine lv_iload_n hx hb dX13_putsKey_5 rfl (hl.at 1 rfl) ?_
  obtain ⟨S6, h6, hsh⟩ := Option.bind_eq_some_iff.mp hsh
  refine e_iast hx hb hp hS h6 dX13_putsKey_6 (fun H locs hp hS => ?_)
  refine e_aload_n (B := B) (x := x0) hx hb dX13_putsKey_7 rfl (hl.at 0 rfl) ?_
  refine e_aload_n (B := B) (x := x0) hx hb dX13_putsKey_8 rfl (hl.at 0 rfl) ?_
  obtain ⟨v9, h9, hsh⟩ := Option.bind_eq_some_iff.mp hsh
  refine e_getI (k := 5) hx hb hts in_X13 hown hp h9 rfl (by decide) (by decide) rfl (hts _ kf13_213) rfl dX13_putsKey_9 ?_
  refine e_aload_n (B := B) (x := x0) hx hb dX13_putsKey_12 rfl (hl.at 0 rfl) ?_
  obtain ⟨v13, h13, hsh⟩ := Option.bind_eq_some_iff.mp hsh
  refine e_getI (k := 6) hx hb hts in_X13 hown hp h13 rfl (by decide) (by decide) rfl (hts _ kf13_216) rfl dX13_putsKey_13 ?_
  refine lv_iconst (v := iI (1)) hx hb dX13_putsKey_16 rfl ?_
  obtain ⟨⟨v17, S17⟩, h17, hsh⟩ := Option.bind_eq_some_iff.mp hsh
  have hsh : _ = _ := hsh
  try dsimp only at hsh
  have ok17 := ok13_fitsSigns h17
  refine e_callI (nL := 2) (mc := 0) (ms := 0) (T := TX13) (N := 126) (As := [.int (iI (v9)), .int (iI (v13)), .int (iI (1))]) (rest := []) hx hb hml hown hts hp hS hl.size ok17.1 ok17.2.1 ok17.2.2 rfl (by decide) (c13_fitsSigns l D cA B S6 S17 (x0) (v9) (v13) (1) v17 h17) rfl rfl kd13_fitsSigns (kl13_557) ks13_fitsSigns kv13_fitsSigns ki13 kh13_fitsSigns ⟨Nat.le_of_ble_eq_true rfl, Nat.le_of_ble_eq_true rfl⟩ rfl (by simp [e_rv_cat, e_int_cat]) ⟨Nat.le_refl _, Nat.le_refl _⟩ dX13_putsKey_17 rfl (fun H locs hp hS => ?_)
  refine e_if_eq (tgt := 48) hx hb dX13_putsKey_20 (by decide) (fun c20 => ?_) (fun c20 => ?_)
  · rw [if_pos c20] at hsh
    exact w13_putsKey_b48 E hp hS (hl.sub [] rfl) hsh
  · rw [if_neg c20] at hsh
    refine e_aload_n (B := B) (x := x0) hx hb dX13_putsKey_23 rfl (hl.at 0 rfl) ?_
    refine e_aload_n (B := B) (x := x0) hx hb dX13_putsKey_24 rfl (hl.at 0 rfl) ?_
    obtain ⟨v25, h25, hsh⟩ := Option.bind_eq_some_iff.mp hsh
    refine e_getI (k := 5) hx hb hts in_X13 hown hp h25 rfl (by decide) (by decide) rfl (hts _ kf13_213) rfl dX13_putsKey_25 ?_
    refine e_aload_n (B := B) (x := x0) hx hb dX13_putsKey_28 rfl (hl.at 0 rfl) ?_
    obtain ⟨v29, h29, hsh⟩ := Option.bind_eq_some_iff.mp hsh
    refine e_getI (k := 6) hx hb hts in_X13 hown hp h29 rfl (by decide) (by decide) rfl (hts _ kf13_216) rfl dX13_putsKey_29 ?_
    refine lv_iconst (v := iI (1)) hx hb dX13_putsKey_32 rfl ?_
    obtain ⟨S33, h33, hsh⟩ := Option.bind_eq_some_iff.mp hsh
    have ok33 := ok13_putsSigns h33
    refine e_callV (nL := 2) (mc := 0) (ms := 0) (T := TX13) (N := 126) (As := [.int (iI (v25)), .int (iI (v29)), .int (iI (1))]) (rest := []) hx hb hml hown hts hp hS hl.size ok33.1 ok33.2.1 ok33.2.2 rfl (by decide) (c13_putsSigns l D cA B S17 S33 (x0) (v25) (v29) (1) h33) rfl rfl kd13_putsSigns (kl13_513) ks13_putsSigns kv13_putsSigns ki13 kh13_putsSigns ⟨Nat.le_of_ble_eq_true rfl, Nat.le_of_ble_eq_true rfl⟩ rfl (by simp [e_rv_cat, e_int_cat]) ⟨Nat.le_refl _, Nat.le_refl _⟩ dX13_putsKey_33 rfl (fun H locs hp hS => ?_)
    refine e_aload_n (B := B) (x := x0) hx hb dX13_putsKey_36 rfl (hl.at 0 rfl) ?_
    refine e_aload_n (B := B) (x := x0) hx hb dX13_putsKey_37 rfl (hl.at 0 rfl) ?_
    obtain ⟨v38, h38, hsh⟩ := Option.bind_eq_some_iff.mp hsh
    refine e_getI (k := 44) hx hb hts in_X13 hown hp h38 rfl (by decide) (by decide) rfl (hts _ kf13_281) rfl dX13_putsKey_38 ?_
    refine e_aload_n (B := B) (x := x0) hx hb dX13_putsKey_41 rfl (hl.at 0 rfl) ?_
    obtain ⟨v42, h42, hsh⟩ := Option.bind_eq_some_iff.mp hsh
    refine e_getI (k := 45) hx hb hts in_X13 hown hp h42 rfl (by decide) (by decide) rfl (hts _ kf13_284) rfl dX13_putsKey_42 ?_
    obtain ⟨S45, h45, hsh⟩ := Option.bind_eq_some_iff.mp hsh
    have ok45 := ok13_goes h45
    refine e_callV (nL := 2) (mc := 0) (ms := 0) (T := TX13) (N := 126) (As := [.int (iI (v38)), .int (iI (v42))]) (rest := []) hx hb hml hown hts hp hS hl.size ok45.1 ok45.2.1 ok45.2.2 rfl (by decide) (c13_goes l D cA B S33 S45 (x0) (v38) (v42) h45) rfl rfl kd13_goes (kl13_226) ks13_goes kv13_goes ki13 kh13_goes ⟨Nat.le_of_ble_eq_true rfl, Nat.le_of_ble_eq_true rfl⟩ rfl (by simp [e_rv_cat, e_int_cat]) ⟨Nat.le_refl _, Nat.le_refl _⟩ dX13_putsKey_45 rfl (fun H locs hp hS => ?_)
    exact w13_putsKey_b48 E hp hS (hl.sub [] rfl) hsh
theorem ok13_endsInsertion {S : HP} {x0 : Int} {r : HP} (h : s13_endsInsertion S x0 = some r) : 0 ≤ x0 ∧ x0.toNat < e_n S ∧ e_g S x0.toNat = 13 := (gd_some h).1
set_option maxRecDepth 100000 in
set_option maxHeartbeats 4000000 in
theorem w13_endsInsertion_b283 {p : Program} {l : Launch} {e : Env} {s : State} {m : MethodId} {args : Array Value} {below : List Frame} {meth : Method} {c : Code} {D : va_G} {cA : Nat → ClassId} {B : Nat} {res : HP} (E : e_En p s m args meth c cX13_endsInsertion RX13 6 none) {ls : Array Slot} {H : Heap} {locs : List Loc} {S : HP} (hp : e_Pic D cA B S s H) (hS : va_S (e_A B) s.heap H locs) (hl : e_lo ls 6 []) (hsh : s13_endsInsertion_b283 S  = some res) : W p l e ({ frames := 4, cells := 0, slots := 0, locals := 100 } : Room) s m args below meth c H locs 0 0 (MQ below (e_Qv D cA B res) args s 0 0 (e_A B)) (F0 m 283 ls []) := by
  obtain ⟨hx, hb, hml, hown, hts, hlk, hrt⟩ := id E
  unfold s13_endsInsertion_b283 at hsh
  cases hsh
  exact e_vret hx hb hrt hlk hp hS dX13_endsInsertion_283
set_option maxRecDepth 100000 in
set_option maxHeartbeats 4000000 in
theorem w13_endsInsertion_b245 {p : Program} {l : Launch} {e : Env} {s : State} {m : MethodId} {args : Array Value} {below : List Frame} {meth : Method} {c : Code} {D : va_G} {cA : Nat → ClassId} {B : Nat} {res : HP} (E : e_En p s m args meth c cX13_endsInsertion RX13 6 none) {ls : Array Slot} {H : Heap} {locs : List Loc} {S : HP} {x0 : Int} (hp : e_Pic D cA B S s H) (hS : va_S (e_A B) s.heap H locs) (hl : e_lo ls 6 [(0, e_rv B (x0))]) (hsh : s13_endsInsertion_b245 S x0 = some res) : W p l e ({ frames := 4, cells := 0, slots := 0, locals := 100 } : Room) s m args below meth c H locs 0 0 (MQ below (e_Qv D cA B res) args s 0 0 (e_A B)) (F0 m 245 ls []) := by
  obtain ⟨hx, hb, hml, hown, hts, hlk, hrt⟩ := id E
  unfold s13_endsInsertion_b245 at hsh
  refine e_aload_n (B := B) (x := x0) hx hb dX13_endsInsertion_245 rfl (hl.at 0 rfl) ?_
  refine lv_iconst (v := iI (0)) hx hb dX13_endsInsertion_246 rfl ?_
  obtain ⟨S247, h247, hsh⟩ := Option.bind_eq_some_iff.mp hsh
  refine e_putI (k := 8) hx hb hts in_X13 tyX13 tyX13_ok nmX13 hown hp hS h247 rfl (by decide) (by decide) rfl (hts _ kf13_466) rfl rfl (by decide +kernel) dX13_endsInsertion_247 (fun H locs hp hS => ?_)
  refine e_aload_n (B := B) (x := x0) hx hb dX13_endsInsertion_250 rfl (hl.at 0 rfl) ?_
  refine e_aload_n (B := B) (x := x0) hx hb dX13_endsInsertion_251 rfl (hl.at 0 rfl) ?_
  obtain ⟨v252, h252, hsh⟩ := Option.bind_eq_some_iff.mp hsh
  refine e_getI (k := 5) hx hb hts in_X13 hown hp h252 rfl (by decide) (by decide) rfl (hts _ kf13_213) rfl dX13_endsInsertion_252 ?_
  refine lv_iconst (v := iI (0)) hx hb dX13_endsInsertion_255 rfl ?_
  refine e_aload_n (B := B) (x := x0) hx hb dX13_endsInsertion_256 rfl (hl.at 0 rfl) ?_
  obtain ⟨v257, h257, hsh⟩ := Option.bind_eq_some_iff.mp hsh
  refine e_getI (k := 6) hx hb hts in_X13 hown hp h257 rfl (by decide) (by decide) rfl (hts _ kf13_216) rfl dX13_endsInsertion_257 ?_
  refine lv_iconst (v := iI (1)) hx hb dX13_endsInsertion_260 rfl ?_
  refine e_isub hx hb dX13_endsInsertion_261 ?_
  obtain ⟨⟨v262, S262⟩, h262, hsh⟩ := Option.bind_eq_some_iff.mp hsh
  have hsh : _ = _ := hsh
  try dsimp only at hsh
  refine e_callS (nL := 6) (mc := 0) (ms := 0) (As := [.int (iI (0)), .int (iI ((v257 - 1)))]) (rest := [.int (iI (v252)), e_rv B (x0)]) hx hb hml hown hts hp hS hl.size (c13_greater l D cA B S247 S262 (0) ((v257 - 1)) v262 h262) rfl rfl kd13_greater (kl13_210) ks13_greater ki13 kh13_greater ⟨Nat.le_of_ble_eq_true rfl, Nat.le_of_ble_eq_true rfl⟩ rfl (by simp [e_rv_cat, e_int_cat]) ⟨Nat.le_refl _, Nat.le_refl _⟩ dX13_endsInsertion_262 rfl (fun H locs hp hS => ?_)
  obtain ⟨S265, h265, hsh⟩ := Option.bind_eq_some_iff.mp hsh
  have ok265 := ok13_goes h265
  refine e_callV (nL := 6) (mc := 0) (ms := 0) (T := TX13) (N := 126) (As := [.int (iI (v252)), .int (iI (v262))]) (rest := []) hx hb hml hown hts hp hS hl.size ok265.1 ok265.2.1 ok265.2.2 rfl (by decide) (c13_goes l D cA B S262 S265 (x0) (v252) (v262) h265) rfl rfl kd13_goes (kl13_226) ks13_goes kv13_goes ki13 kh13_goes ⟨Nat.le_of_ble_eq_true rfl, Nat.le_of_ble_eq_true rfl⟩ rfl (by simp [e_rv_cat, e_int_cat]) ⟨Nat.le_refl _, Nat.le_refl _⟩ dX13_endsInsertion_265 rfl (fun H locs hp hS => ?_)
  refine e_aload_n (B := B) (x := x0) hx hb dX13_endsInsertion_268 rfl (hl.at 0 rfl) ?_
  obtain ⟨S269, h269, hsh⟩ := Option.bind_eq_some_iff.mp hsh
  have ok269 := ok13_settles h269
  refine e_callV (nL := 6) (mc := 0) (ms := 0) (T := TX13) (N := 126) (As := []) (rest := []) hx hb hml hown hts hp hS hl.size ok269.1 ok269.2.1 ok269.2.2 rfl (by decide) (c13_settles l D cA B S265 S269 (x0) h269) rfl rfl kd13_settles (kl13_723) ks13_settles kv13_settles ki13 kh13_settles ⟨Nat.le_of_ble_eq_true rfl, Nat.le_of_ble_eq_true rfl⟩ rfl (by simp [e_rv_cat, e_int_cat]) ⟨Nat.le_refl _, Nat.le_refl _⟩ dX13_endsInsertion_269 rfl (fun H locs hp hS => ?_)
  refine e_aload_n (B := B) (x := x0) hx hb dX13_endsInsertion_272 rfl (hl.at 0 rfl) ?_
  obtain ⟨⟨v273, S273⟩, h273, hsh⟩ := Option.bind_eq_some_iff.mp hsh
  have hsh : _ = _ := hsh
  try dsimp only at hsh
  have ok273 := ok13_isServing h273
  refine e_callI (nL := 6) (mc := 0) (ms := 0) (T := TX13) (N := 126) (As := []) (rest := []) hx hb hml hown hts hp hS hl.size ok273.1 ok273.2.1 ok273.2.2 rfl (by decide) (c13_isServing l D cA B S269 S273 (x0) v273 h273) rfl rfl kd13_isServing (kl13_247) ks13_isServing kv13_isServing ki13 kh13_isServing ⟨Nat.le_of_ble_eq_true rfl, Nat.le_of_ble_eq_true rfl⟩ rfl (by simp [e_rv_cat, e_int_cat]) ⟨Nat.le_refl _, Nat.le_refl _⟩ dX13_endsInsertion_273 rfl (fun H locs hp hS => ?_)
  refine e_if_ne (tgt := 283) hx hb dX13_endsInsertion_276 (by decide) (fun c276 => ?_) (fun c276 => ?_)
  · rw [if_neg c276] at hsh
    exact w13_endsInsertion_b283 E hp hS (hl.sub [] rfl) hsh
  · rw [if_pos c276] at hsh
    refine e_aload_n (B := B) (x := x0) hx hb dX13_endsInsertion_279 rfl (hl.at 0 rfl) ?_
    obtain ⟨S280, h280, hsh⟩ := Option.bind_eq_some_iff.mp hsh
    have ok280 := ok13_servesOthers h280
    refine e_callV (nL := 6) (mc := 0) (ms := 0) (T := TX13) (N := 126) (As := []) (rest := []) hx hb hml hown hts hp hS hl.size ok280.1 ok280.2.1 ok280.2.2 rfl (by decide) (c13_servesOthers l D cA B S273 S280 (x0) h280) rfl rfl kd13_servesOthers (kl13_728) ks13_servesOthers kv13_servesOthers ki13 kh13_servesOthers ⟨Nat.le_of_ble_eq_true rfl, Nat.le_of_ble_eq_true rfl⟩ rfl (by simp [e_rv_cat, e_int_cat]) ⟨Nat.le_refl _, Nat.le_refl _⟩ dX13_endsInsertion_280 rfl (fun H locs hp hS => ?_)
    exact w13_endsInsertion_b283 E hp hS (hl.sub [] rfl) hsh
set_option maxRecDepth 100000 in
set_option maxHeartbeats 4000000 in
theorem w13_endsInsertion_b200 {p : Program} {l : Launch} {e : Env} {s : State} {m : MethodId} {args : Array Value} {below : List Frame} {meth : Method} {c : Code} {D : va_G} {cA : Nat → ClassId} {B : Nat} {res : HP} (E : e_En p s m args meth c cX13_endsInsertion RX13 6 none) {ls : Array Slot} {H : Heap} {locs : List Loc} {S : HP} {x0 : Int} {x1 : Int} {x3 : Int} (hp : e_Pic D cA B S s H) (hS : va_S (e_A B) s.heap H locs) (hl : e_lo ls 6 [(0, e_rv B (x0)), (1, .int (iI (x1))), (3, .int (iI (x3)))]) (hsh : s13_endsInsertion_b200 S x0 x1 x3 = some res) : W p l e ({ frames := 4, cells := 0, slots := 0, locals := 100 } : Room) s m args below meth c H locs 0 0 (MQ below (e_Qv D cA B res) args s 0 0 (e_A B)) (F0 m 200 ls []) := by
  obtain ⟨hx, hb, hml, hown, hts, hlk, hrt⟩ := id E
  unfold s13_endsInsertion_b200 at hsh
  refine lv_iload_n hx hb dX13_endsInsertion_200 rfl (hl.at 2 rfl) ?_
  refine e_if_eq (tgt := 245) hx hb dX13_endsInsertion_201 (by decide) (fun c201 => ?_) (fun c201 => ?_)
  · rw [if_pos c201] at hsh
    exact w13_endsInsertion_b245 E hp hS (hl.sub [0] rfl) hsh
  · rw [if_neg c201] at hsh
    refine e_aload_n (B := B) (x := x0) hx hb dX13_endsInsertion_204 rfl (hl.at 0 rfl) ?_
    refine e_aload_n (B := B) (x := x0) hx hb dX13_endsInsertion_205 rfl (hl.at 0 rfl) ?_
    obtain ⟨v206, h206, hsh⟩ := Option.bind_eq_some_iff.mp hsh
    refine e_getI (k := 5) hx hb hts in_X13 hown hp h206 rfl (by decide) (by decide) rfl (hts _ kf13_213) rfl dX13_endsInsertion_206 ?_
    refine e_aload_n (B := B) (x := x0) hx hb dX13_endsInsertion_209 rfl (hl.at 0 rfl) ?_
    obtain ⟨v210, h210, hsh⟩ := Option.bind_eq_some_iff.mp hsh
    refine e_getI (k := 6) hx hb hts in_X13 hown hp h210 rfl (by decide) (by decide) rfl (hts _ kf13_216) rfl dX13_endsInsertion_210 ?_
    refine lv_iload_n hx hb dX13_endsInsertion_213 rfl (hl.at 1 rfl) ?_
    obtain ⟨⟨v214, S214⟩, h214, hsh⟩ := Option.bind_eq_some_iff.mp hsh
    have hsh : _ = _ := hsh
    try dsimp only at hsh
    have ok214 := ok13_fitsSigns h214
    refine e_callI (nL := 6) (mc := 0) (ms := 0) (T := TX13) (N := 126) (As := [.int (iI (v206)), .int (iI (v210)), .int (iI (x1))]) (rest := []) hx hb hml hown hts hp hS hl.size ok214.1 ok214.2.1 ok214.2.2 rfl (by decide) (c13_fitsSigns l D cA B S S214 (x0) (v206) (v210) (x1) v214 h214) rfl rfl kd13_fitsSigns (kl13_557) ks13_fitsSigns kv13_fitsSigns ki13 kh13_fitsSigns ⟨Nat.le_of_ble_eq_true rfl, Nat.le_of_ble_eq_true rfl⟩ rfl (by simp [e_rv_cat, e_int_cat]) ⟨Nat.le_refl _, Nat.le_refl _⟩ dX13_endsInsertion_214 rfl (fun H locs hp hS => ?_)
    refine e_if_eq (tgt := 245) hx hb dX13_endsInsertion_217 (by decide) (fun c217 => ?_) (fun c217 => ?_)
    · rw [if_pos c217] at hsh
      exact w13_endsInsertion_b245 E hp hS (hl.sub [0] rfl) hsh
    · rw [if_neg c217] at hsh
      refine e_aload_n (B := B) (x := x0) hx hb dX13_endsInsertion_220 rfl (hl.at 0 rfl) ?_
      refine e_aload_n (B := B) (x := x0) hx hb dX13_endsInsertion_221 rfl (hl.at 0 rfl) ?_
      obtain ⟨v222, h222, hsh⟩ := Option.bind_eq_some_iff.mp hsh
      refine e_getI (k := 5) hx hb hts in_X13 hown hp h222 rfl (by decide) (by decide) rfl (hts _ kf13_213) rfl dX13_endsInsertion_222 ?_
      refine e_aload_n (B := B) (x := x0) hx hb dX13_endsInsertion_225 rfl (hl.at 0 rfl) ?_
      obtain ⟨v226, h226, hsh⟩ := Option.bind_eq_some_iff.mp hsh
      refine e_getI (k := 6) hx hb hts in_X13 hown hp h226 rfl (by decide) (by decide) rfl (hts _ kf13_216) rfl dX13_endsInsertion_226 ?_
      refine lv_iload_n hx hb dX13_endsInsertion_229 rfl (hl.at 1 rfl) ?_
      obtain ⟨S230, h230, hsh⟩ := Option.bind_eq_some_iff.mp hsh
      have ok230 := ok13_putsSigns h230
      refine e_callV (nL := 6) (mc := 0) (ms := 0) (T := TX13) (N := 126) (As := [.int (iI (v222)), .int (iI (v226)), .int (iI (x1))]) (rest := []) hx hb hml hown hts hp hS hl.size ok230.1 ok230.2.1 ok230.2.2 rfl (by decide) (c13_putsSigns l D cA B S214 S230 (x0) (v222) (v226) (x1) h230) rfl rfl kd13_putsSigns (kl13_513) ks13_putsSigns kv13_putsSigns ki13 kh13_putsSigns ⟨Nat.le_of_ble_eq_true rfl, Nat.le_of_ble_eq_true rfl⟩ rfl (by simp [e_rv_cat, e_int_cat]) ⟨Nat.le_refl _, Nat.le_refl _⟩ dX13_endsInsertion_230 rfl (fun H locs hp hS => ?_)
      refine e_aload_n (B := B) (x := x0) hx hb dX13_endsInsertion_233 rfl (hl.at 0 rfl) ?_
      refine e_aload_n (B := B) (x := x0) hx hb dX13_endsInsertion_234 rfl (hl.at 0 rfl) ?_
      obtain ⟨v235, h235, hsh⟩ := Option.bind_eq_some_iff.mp hsh
      refine e_getI (k := 44) hx hb hts in_X13 hown hp h235 rfl (by decide) (by decide) rfl (hts _ kf13_281) rfl dX13_endsInsertion_235 ?_
      refine e_aload_n (B := B) (x := x0) hx hb dX13_endsInsertion_238 rfl (hl.at 0 rfl) ?_
      obtain ⟨v239, h239, hsh⟩ := Option.bind_eq_some_iff.mp hsh
      refine e_getI (k := 45) hx hb hts in_X13 hown hp h239 rfl (by decide) (by decide) rfl (hts _ kf13_284) rfl dX13_endsInsertion_239 ?_
      obtain ⟨S242, h242, hsh⟩ := Option.bind_eq_some_iff.mp hsh
      have ok242 := ok13_goes h242
      refine e_callV (nL := 6) (mc := 0) (ms := 0) (T := TX13) (N := 126) (As := [.int (iI (v235)), .int (iI (v239))]) (rest := []) hx hb hml hown hts hp hS hl.size ok242.1 ok242.2.1 ok242.2.2 rfl (by decide) (c13_goes l D cA B S230 S242 (x0) (v235) (v239) h242) rfl rfl kd13_goes (kl13_226) ks13_goes kv13_goes ki13 kh13_goes ⟨Nat.le_of_ble_eq_true rfl, Nat.le_of_ble_eq_true rfl⟩ rfl (by simp [e_rv_cat, e_int_cat]) ⟨Nat.le_refl _, Nat.le_refl _⟩ dX13_endsInsertion_242 rfl (fun H locs hp hS => ?_)
      exact w13_endsInsertion_b245 E hp hS (hl.sub [0] rfl) hsh
set_option maxRecDepth 100000 in
set_option maxHeartbeats 4000000 in
theorem w13_endsInsertion_b194 {p : Program} {l : Launch} {e : Env} {s : State} {m : MethodId} {args : Array Value} {below : List Frame} {meth : Method} {c : Code} {D : va_G} {cA : Nat → ClassId} {B : Nat} {res : HP} {k131 : HP → Int → Int → Int → Int → Int → Option (HP)} (hk131 : ∀ {ls : Array Slot} {H : Heap} {locs : List Loc} {S : HP} {x0 : Int} {x1 : Int} {x2 : Int} {x3 : Int} {x4 : Int} (hp : e_Pic D cA B S s H) (hS : va_S (e_A B) s.heap H locs) (hl : e_lo ls 6 [(0, e_rv B (x0)), (1, .int (iI (x1))), (2, .int (iI (x2))), (3, .int (iI (x3))), (4, .int (iI (x4)))]) (hsh : k131 S x0 x1 x2 x3 x4 = some res), W p l e ({ frames := 4, cells := 0, slots := 0, locals := 100 } : Room) s m args below meth c H locs 0 0 (MQ below (e_Qv D cA B res) args s 0 0 (e_A B)) (F0 m 131 ls [])) (E : e_En p s m args meth c cX13_endsInsertion RX13 6 none) {ls : Array Slot} {H : Heap} {locs : List Loc} {S : HP} {x0 : Int} {x1 : Int} {x2 : Int} {x3 : Int} {x4 : Int} (hp : e_Pic D cA B S s H) (hS : va_S (e_A B) s.heap H locs) (hl : e_lo ls 6 [(0, e_rv B (x0)), (1, .int (iI (x1))), (2, .int (iI (x2))), (3, .int (iI (x3))), (4, .int (iI (x4)))]) (hsh : s13_endsInsertion_b194 k131 S x0 x1 x2 x3 x4 = some res) : W p l e ({ frames := 4, cells := 0, slots := 0, locals := 100 } : Room) s m args below meth c H locs 0 0 (MQ below (e_Qv D cA B res) args s 0 0 (e_A B)) (F0 m 194 ls []) := by
  obtain ⟨hx, hb, hml, hown, hts, hlk, hrt⟩ := id E
  unfold s13_endsInsertion_b194 at hsh
  refine e_iinc (n := 1) (x := x4) (lv' := [(4, .int (iI ((x4 + 1)))), (0, e_rv B (x0)), (1, .int (iI (x1))), (2, .int (iI (x2))), (3, .int (iI (x3)))]) hx hb dX13_endsInsertion_194 hl (k := 4) rfl (by decide) rfl (fun ls hl => ?_)
  refine lv_goto (tgt := 131) hx hb dX13_endsInsertion_197 (by decide) ?_
  exact hk131 hp hS (hl.sub [1, 2, 3, 4, 0] rfl) hsh
set_option maxRecDepth 100000 in
set_option maxHeartbeats 4000000 in
theorem w13_endsInsertion_l162 {p : Program} {l : Launch} {e : Env} {s : State} {m : MethodId} {args : Array Value} {below : List Frame} {meth : Method} {c : Code} {D : va_G} {cA : Nat → ClassId} {B : Nat} {res : HP} {k131 : HP → Int → Int → Int → Int → Int → Option (HP)} (hk131 : ∀ {ls : Array Slot} {H : Heap} {locs : List Loc} {S : HP} {x0 : Int} {x1 : Int} {x2 : Int} {x3 : Int} {x4 : Int} (hp : e_Pic D cA B S s H) (hS : va_S (e_A B) s.heap H locs) (hl : e_lo ls 6 [(0, e_rv B (x0)), (1, .int (iI (x1))), (2, .int (iI (x2))), (3, .int (iI (x3))), (4, .int (iI (x4)))]) (hsh : k131 S x0 x1 x2 x3 x4 = some res), W p l e ({ frames := 4, cells := 0, slots := 0, locals := 100 } : Room) s m args below meth c H locs 0 0 (MQ below (e_Qv D cA B res) args s 0 0 (e_A B)) (F0 m 131 ls [])) (E : e_En p s m args meth c cX13_endsInsertion RX13 6 none) : ∀ (f : Nat) {ls : Array Slot} {H : Heap} {locs : List Loc} {S : HP} {x0 : Int} {x1 : Int} {x2 : Int} {x3 : Int} {x4 : Int} {x5 : Int} (hp : e_Pic D cA B S s H) (hS : va_S (e_A B) s.heap H locs) (hl : e_lo ls 6 [(0, e_rv B (x0)), (1, .int (iI (x1))), (2, .int (iI (x2))), (3, .int (iI (x3))), (4, .int (iI (x4))), (5, .int (iI (x5)))]) (hsh : s13_endsInsertion_l162 k131 f S x0 x1 x2 x3 x4 x5 = some res), W p l e ({ frames := 4, cells := 0, slots := 0, locals := 100 } : Room) s m args below meth c H locs 0 0 (MQ below (e_Qv D cA B res) args s 0 0 (e_A B)) (F0 m 162 ls []) := by
  obtain ⟨hx, hb, hml, hown, hts, hlk, hrt⟩ := id E
  intro f
  induction f with
  | zero => intro ls H locs S x0 x1 x2 x3 x4 x5 hp hS hl hsh; cases hsh
  | succ f ih =>
    intro ls H locs S x0 x1 x2 x3 x4 x5 hp hS hl hsh
    have hk162 : ∀ {ls : Array Slot} {H : Heap} {locs : List Loc} {S : HP} {x0 : Int} {x1 : Int} {x2 : Int} {x3 : Int} {x4 : Int} {x5 : Int} (hp : e_Pic D cA B S s H) (hS : va_S (e_A B) s.heap H locs) (hl : e_lo ls 6 [(0, e_rv B (x0)), (1, .int (iI (x1))), (2, .int (iI (x2))), (3, .int (iI (x3))), (4, .int (iI (x4))), (5, .int (iI (x5)))]) (hsh : (s13_endsInsertion_l162 k131 f) S x0 x1 x2 x3 x4 x5 = some res), W p l e ({ frames := 4, cells := 0, slots := 0, locals := 100 } : Room) s m args below meth c H locs 0 0 (MQ below (e_Qv D cA B res) args s 0 0 (e_A B)) (F0 m 162 ls []) := ih
    generalize hkk : s13_endsInsertion_l162 k131 f = k162 at hk162
    rw [s13_endsInsertion_l162] at hsh
    rw [hkk] at hsh
    try dsimp only at hsh
    refine lv_iload hx hb dX13_endsInsertion_162 (hl.at 5 rfl) ?_
    refine lv_iload_n hx hb dX13_endsInsertion_164 rfl (hl.at 2 rfl) ?_
    refine e_icmp_ge (tgt := 194) hx hb dX13_endsInsertion_165 (by decide) (fun c165 => ?_) (fun c165 => ?_)
    · rw [if_pos c165] at hsh
      exact w13_endsInsertion_b194 (hk131 := hk131) E hp hS (hl.sub [0, 1, 2, 3, 4] rfl) hsh
    · rw [if_neg c165] at hsh
      refine lv_iload_n hx hb dX13_endsInsertion_168 rfl (hl.at 3 rfl) ?_
      refine e_if_eq (tgt := 194) hx hb dX13_endsInsertion_169 (by decide) (fun c169 => ?_) (fun c169 => ?_)
      · rw [if_pos c169] at hsh
        exact w13_endsInsertion_b194 (hk131 := hk131) E hp hS (hl.sub [0, 1, 2, 3, 4] rfl) hsh
      · rw [if_neg c169] at hsh
        refine e_aload_n (B := B) (x := x0) hx hb dX13_endsInsertion_172 rfl (hl.at 0 rfl) ?_
        obtain ⟨v173, h173, hsh⟩ := Option.bind_eq_some_iff.mp hsh
        refine e_getR (k := 42) hx hb hts in_X13 hown hp h173 rfl (by decide) (by decide) rfl (hts _ kf13_83) rfl dX13_endsInsertion_173 ?_
        refine lv_iload_n hx hb dX13_endsInsertion_176 rfl (hl.at 1 rfl) ?_
        refine e_aload_n (B := B) (x := x0) hx hb dX13_endsInsertion_177 rfl (hl.at 0 rfl) ?_
        obtain ⟨v178, h178, hsh⟩ := Option.bind_eq_some_iff.mp hsh
        refine e_getR (k := 42) hx hb hts in_X13 hown hp h178 rfl (by decide) (by decide) rfl (hts _ kf13_83) rfl dX13_endsInsertion_178 ?_
        refine lv_iload hx hb dX13_endsInsertion_181 (hl.at 5 rfl) ?_
        obtain ⟨v183, h183, hsh⟩ := Option.bind_eq_some_iff.mp hsh
        refine e_iald hx hb hp h183 dX13_endsInsertion_183 ?_
        obtain ⟨S184, h184, hsh⟩ := Option.bind_eq_some_iff.mp hsh
        refine e_iast hx hb hp hS h184 dX13_endsInsertion_184 (fun H locs hp hS => ?_)
        refine e_iinc (n := 1) (x := x1) (lv' := [(1, .int (iI ((x1 + 1)))), (0, e_rv B (x0)), (2, .int (iI (x2))), (3, .int (iI (x3))), (4, .int (iI (x4))), (5, .int (iI (x5)))]) hx hb dX13_endsInsertion_185 hl (k := 1) rfl (by decide) rfl (fun ls hl => ?_)
        refine e_iinc (n := 1) (x := x5) (lv' := [(5, .int (iI ((x5 + 1)))), (1, .int (iI ((x1 + 1)))), (0, e_rv B (x0)), (2, .int (iI (x2))), (3, .int (iI (x3))), (4, .int (iI (x4)))]) hx hb dX13_endsInsertion_188 hl (k := 5) rfl (by decide) rfl (fun ls hl => ?_)
        refine lv_goto (tgt := 162) hx hb dX13_endsInsertion_191 (by decide) ?_
        exact hk162 hp hS (hl.sub [2, 1, 3, 4, 5, 0] rfl) hsh
set_option maxRecDepth 100000 in
set_option maxHeartbeats 4000000 in
theorem w13_endsInsertion_b158 {p : Program} {l : Launch} {e : Env} {s : State} {m : MethodId} {args : Array Value} {below : List Frame} {meth : Method} {c : Code} {D : va_G} {cA : Nat → ClassId} {B : Nat} {res : HP} {k131 : HP → Int → Int → Int → Int → Int → Option (HP)} (hk131 : ∀ {ls : Array Slot} {H : Heap} {locs : List Loc} {S : HP} {x0 : Int} {x1 : Int} {x2 : Int} {x3 : Int} {x4 : Int} (hp : e_Pic D cA B S s H) (hS : va_S (e_A B) s.heap H locs) (hl : e_lo ls 6 [(0, e_rv B (x0)), (1, .int (iI (x1))), (2, .int (iI (x2))), (3, .int (iI (x3))), (4, .int (iI (x4)))]) (hsh : k131 S x0 x1 x2 x3 x4 = some res), W p l e ({ frames := 4, cells := 0, slots := 0, locals := 100 } : Room) s m args below meth c H locs 0 0 (MQ below (e_Qv D cA B res) args s 0 0 (e_A B)) (F0 m 131 ls [])) (E : e_En p s m args meth c cX13_endsInsertion RX13 6 none) {ls : Array Slot} {H : Heap} {locs : List Loc} {S : HP} {x0 : Int} {x1 : Int} {x2 : Int} {x4 : Int} {y0 : Int} (hp : e_Pic D cA B S s H) (hS : va_S (e_A B) s.heap H locs) (hl : e_lo ls 6 [(0, e_rv B (x0)), (1, .int (iI (x1))), (2, .int (iI (x2))), (4, .int (iI (x4)))]) (hsh : s13_endsInsertion_b158 k131 S x0 x1 x2 x4 y0 = some res) : W p l e ({ frames := 4, cells := 0, slots := 0, locals := 100 } : Room) s m args below meth c H locs 0 0 (MQ below (e_Qv D cA B res) args s 0 0 (e_A B)) (F0 m 158 ls [.int (iI (y0))]) := by
  obtain ⟨hx, hb, hml, hown, hts, hlk, hrt⟩ := id E
  unfold s13_endsInsertion_b158 at hsh
  refine e_istore_n (lv' := [(3, .int (iI (y0))), (0, e_rv B (x0)), (1, .int (iI (x1))), (2, .int (iI (x2))), (4, .int (iI (x4)))]) hx hb dX13_endsInsertion_158 rfl hl (by decide) rfl (fun ls hl => ?_)
  refine lv_iconst (v := iI (0)) hx hb dX13_endsInsertion_159 rfl ?_
  refine e_istore (lv' := [(5, .int (iI (0))), (3, .int (iI (y0))), (0, e_rv B (x0)), (1, .int (iI (x1))), (2, .int (iI (x2))), (4, .int (iI (x4)))]) hx hb dX13_endsInsertion_160 hl (by decide) rfl (fun ls hl => ?_)
  exact w13_endsInsertion_l162 (hk131 := hk131) E 1000000 hp hS (hl.sub [2, 3, 4, 1, 5, 0] rfl) hsh
set_option maxRecDepth 100000 in
set_option maxHeartbeats 4000000 in
theorem w13_endsInsertion_l131 {p : Program} {l : Launch} {e : Env} {s : State} {m : MethodId} {args : Array Value} {below : List Frame} {meth : Method} {c : Code} {D : va_G} {cA : Nat → ClassId} {B : Nat} {res : HP} (E : e_En p s m args meth c cX13_endsInsertion RX13 6 none) : ∀ (f : Nat) {ls : Array Slot} {H : Heap} {locs : List Loc} {S : HP} {x0 : Int} {x1 : Int} {x2 : Int} {x3 : Int} {x4 : Int} (hp : e_Pic D cA B S s H) (hS : va_S (e_A B) s.heap H locs) (hl : e_lo ls 6 [(0, e_rv B (x0)), (1, .int (iI (x1))), (2, .int (iI (x2))), (3, .int (iI (x3))), (4, .int (iI (x4)))]) (hsh : s13_endsInsertion_l131 f S x0 x1 x2 x3 x4 = some res), W p l e ({ frames := 4, cells := 0, slots := 0, locals := 100 } : Room) s m args below meth c H locs 0 0 (MQ below (e_Qv D cA B res) args s 0 0 (e_A B)) (F0 m 131 ls []) := by
  obtain ⟨hx, hb, hml, hown, hts, hlk, hrt⟩ := id E
  intro f
  induction f with
  | zero => intro ls H locs S x0 x1 x2 x3 x4 hp hS hl hsh; cases hsh
  | succ f ih =>
    intro ls H locs S x0 x1 x2 x3 x4 hp hS hl hsh
    have hk131 : ∀ {ls : Array Slot} {H : Heap} {locs : List Loc} {S : HP} {x0 : Int} {x1 : Int} {x2 : Int} {x3 : Int} {x4 : Int} (hp : e_Pic D cA B S s H) (hS : va_S (e_A B) s.heap H locs) (hl : e_lo ls 6 [(0, e_rv B (x0)), (1, .int (iI (x1))), (2, .int (iI (x2))), (3, .int (iI (x3))), (4, .int (iI (x4)))]) (hsh : (s13_endsInsertion_l131 f) S x0 x1 x2 x3 x4 = some res), W p l e ({ frames := 4, cells := 0, slots := 0, locals := 100 } : Room) s m args below meth c H locs 0 0 (MQ below (e_Qv D cA B res) args s 0 0 (e_A B)) (F0 m 131 ls []) := ih
    generalize hkk : s13_endsInsertion_l131 f = k131 at hk131
    rw [s13_endsInsertion_l131] at hsh
    rw [hkk] at hsh
    try dsimp only at hsh
    refine lv_iload hx hb dX13_endsInsertion_131 (hl.at 4 rfl) ?_
    refine e_aload_n (B := B) (x := x0) hx hb dX13_endsInsertion_133 rfl (hl.at 0 rfl) ?_
    obtain ⟨v134, h134, hsh⟩ := Option.bind_eq_some_iff.mp hsh
    refine e_getI (k := 73) hx hb hts in_X13 hown hp h134 rfl (by decide) (by decide) rfl (hts _ kf13_475) rfl dX13_endsInsertion_134 ?_
    refine e_icmp_ge (tgt := 200) hx hb dX13_endsInsertion_137 (by decide) (fun c137 => ?_) (fun c137 => ?_)
    · rw [if_pos c137] at hsh
      exact w13_endsInsertion_b200 E hp hS (hl.sub [0, 1, 3] rfl) hsh
    · rw [if_neg c137] at hsh
      refine lv_iload_n hx hb dX13_endsInsertion_140 rfl (hl.at 3 rfl) ?_
      refine e_if_eq (tgt := 200) hx hb dX13_endsInsertion_141 (by decide) (fun c141 => ?_) (fun c141 => ?_)
      · rw [if_pos c141] at hsh
        exact w13_endsInsertion_b200 E hp hS (hl.sub [0, 1, 3] rfl) hsh
      · rw [if_neg c141] at hsh
        refine lv_iload_n hx hb dX13_endsInsertion_144 rfl (hl.at 1 rfl) ?_
        refine lv_iload_n hx hb dX13_endsInsertion_145 rfl (hl.at 2 rfl) ?_
        refine e_iadd hx hb dX13_endsInsertion_146 ?_
        refine lv_sipush (v := iI (2600)) hx hb dX13_endsInsertion_147 (by decide +kernel) ?_
        refine e_icmp_gt (tgt := 157) hx hb dX13_endsInsertion_150 (by decide) (fun c150 => ?_) (fun c150 => ?_)
        · rw [if_pos c150] at hsh
          refine lv_iconst (v := iI (0)) hx hb dX13_endsInsertion_157 rfl ?_
          exact w13_endsInsertion_b158 (hk131 := hk131) E hp hS (hl.sub [0, 1, 2, 4] rfl) hsh
        · rw [if_neg c150] at hsh
          refine lv_iconst (v := iI (1)) hx hb dX13_endsInsertion_153 rfl ?_
          refine lv_goto (tgt := 158) hx hb dX13_endsInsertion_154 (by decide) ?_
          exact w13_endsInsertion_b158 (hk131 := hk131) E hp hS (hl.sub [0, 1, 2, 4] rfl) hsh
set_option maxRecDepth 100000 in
set_option maxHeartbeats 4000000 in
theorem w13_endsInsertion_b127 {p : Program} {l : Launch} {e : Env} {s : State} {m : MethodId} {args : Array Value} {below : List Frame} {meth : Method} {c : Code} {D : va_G} {cA : Nat → ClassId} {B : Nat} {res : HP} (E : e_En p s m args meth c cX13_endsInsertion RX13 6 none) {ls : Array Slot} {H : Heap} {locs : List Loc} {S : HP} {x0 : Int} {x1 : Int} {x2 : Int} {y0 : Int} (hp : e_Pic D cA B S s H) (hS : va_S (e_A B) s.heap H locs) (hl : e_lo ls 6 [(0, e_rv B (x0)), (1, .int (iI (x1))), (2, .int (iI (x2)))]) (hsh : s13_endsInsertion_b127 S x0 x1 x2 y0 = some res) : W p l e ({ frames := 4, cells := 0, slots := 0, locals := 100 } : Room) s m args below meth c H locs 0 0 (MQ below (e_Qv D cA B res) args s 0 0 (e_A B)) (F0 m 127 ls [.int (iI (y0))]) := by
  obtain ⟨hx, hb, hml, hown, hts, hlk, hrt⟩ := id E
  unfold s13_endsInsertion_b127 at hsh
  refine e_istore_n (lv' := [(3, .int (iI (y0))), (0, e_rv B (x0)), (1, .int (iI (x1))), (2, .int (iI (x2)))]) hx hb dX13_endsInsertion_127 rfl hl (by decide) rfl (fun ls hl => ?_)
  refine lv_iconst (v := iI (2)) hx hb dX13_endsInsertion_128 rfl ?_
  refine e_istore (lv' := [(4, .int (iI (2))), (3, .int (iI (y0))), (0, e_rv B (x0)), (1, .int (iI (x1))), (2, .int (iI (x2)))]) hx hb dX13_endsInsertion_129 hl (by decide) rfl (fun ls hl => ?_)
  exact w13_endsInsertion_l131 E 1000000 hp hS (hl.sub [2, 3, 4, 1, 0] rfl) hsh
set_option maxRecDepth 100000 in
set_option maxHeartbeats 4000000 in
theorem w13_endsInsertion_b116 {p : Program} {l : Launch} {e : Env} {s : State} {m : MethodId} {args : Array Value} {below : List Frame} {meth : Method} {c : Code} {D : va_G} {cA : Nat → ClassId} {B : Nat} {res : HP} (E : e_En p s m args meth c cX13_endsInsertion RX13 6 none) {ls : Array Slot} {H : Heap} {locs : List Loc} {S : HP} {x0 : Int} {x1 : Int} (hp : e_Pic D cA B S s H) (hS : va_S (e_A B) s.heap H locs) (hl : e_lo ls 6 [(0, e_rv B (x0)), (1, .int (iI (x1)))]) (hsh : s13_endsInsertion_b116 S x0 x1 = some res) : W p l e ({ frames := 4, cells := 0, slots := 0, locals := 100 } : Room) s m args below meth c H locs 0 0 (MQ below (e_Qv D cA B res) args s 0 0 (e_A B)) (F0 m 116 ls []) := by
  obtain ⟨hx, hb, hml, hown, hts, hlk, hrt⟩ := id E
  unfold s13_endsInsertion_b116 at hsh
  refine lv_iload_n hx hb dX13_endsInsertion_116 rfl (hl.at 1 rfl) ?_
  refine e_istore_n (lv' := [(2, .int (iI (x1))), (0, e_rv B (x0)), (1, .int (iI (x1)))]) hx hb dX13_endsInsertion_117 rfl hl (by decide) rfl (fun ls hl => ?_)
  refine lv_iload_n hx hb dX13_endsInsertion_118 rfl (hl.at 2 rfl) ?_
  refine e_if_le (tgt := 126) hx hb dX13_endsInsertion_119 (by decide) (fun c119 => ?_) (fun c119 => ?_)
  · rw [if_pos c119] at hsh
    refine lv_iconst (v := iI (0)) hx hb dX13_endsInsertion_126 rfl ?_
    exact w13_endsInsertion_b127 E hp hS (hl.sub [1, 2, 0] rfl) hsh
  · rw [if_neg c119] at hsh
    refine lv_iconst (v := iI (1)) hx hb dX13_endsInsertion_122 rfl ?_
    refine lv_goto (tgt := 127) hx hb dX13_endsInsertion_123 (by decide) ?_
    exact w13_endsInsertion_b127 E hp hS (hl.sub [1, 2, 0] rfl) hsh
set_option maxRecDepth 100000 in
set_option maxHeartbeats 4000000 in
theorem w13_endsInsertion_b110 {p : Program} {l : Launch} {e : Env} {s : State} {m : MethodId} {args : Array Value} {below : List Frame} {meth : Method} {c : Code} {D : va_G} {cA : Nat → ClassId} {B : Nat} {res : HP} {k7 : HP → Int → Int → Int → Option (HP)} (hk7 : ∀ {ls : Array Slot} {H : Heap} {locs : List Loc} {S : HP} {x0 : Int} {x1 : Int} {x2 : Int} (hp : e_Pic D cA B S s H) (hS : va_S (e_A B) s.heap H locs) (hl : e_lo ls 6 [(0, e_rv B (x0)), (1, .int (iI (x1))), (2, .int (iI (x2)))]) (hsh : k7 S x0 x1 x2 = some res), W p l e ({ frames := 4, cells := 0, slots := 0, locals := 100 } : Room) s m args below meth c H locs 0 0 (MQ below (e_Qv D cA B res) args s 0 0 (e_A B)) (F0 m 7 ls [])) (E : e_En p s m args meth c cX13_endsInsertion RX13 6 none) {ls : Array Slot} {H : Heap} {locs : List Loc} {S : HP} {x0 : Int} {x1 : Int} {x2 : Int} (hp : e_Pic D cA B S s H) (hS : va_S (e_A B) s.heap H locs) (hl : e_lo ls 6 [(0, e_rv B (x0)), (1, .int (iI (x1))), (2, .int (iI (x2)))]) (hsh : s13_endsInsertion_b110 k7 S x0 x1 x2 = some res) : W p l e ({ frames := 4, cells := 0, slots := 0, locals := 100 } : Room) s m args below meth c H locs 0 0 (MQ below (e_Qv D cA B res) args s 0 0 (e_A B)) (F0 m 110 ls []) := by
  obtain ⟨hx, hb, hml, hown, hts, hlk, hrt⟩ := id E
  unfold s13_endsInsertion_b110 at hsh
  refine e_iinc (n := 1) (x := x2) (lv' := [(2, .int (iI ((x2 + 1)))), (0, e_rv B (x0)), (1, .int (iI (x1)))]) hx hb dX13_endsInsertion_110 hl (k := 2) rfl (by decide) rfl (fun ls hl => ?_)
  refine lv_goto (tgt := 7) hx hb dX13_endsInsertion_113 (by decide) ?_
  exact hk7 hp hS (hl.sub [1, 2, 0] rfl) hsh
set_option maxRecDepth 100000 in
set_option maxHeartbeats 4000000 in
theorem w13_endsInsertion_l63 {p : Program} {l : Launch} {e : Env} {s : State} {m : MethodId} {args : Array Value} {below : List Frame} {meth : Method} {c : Code} {D : va_G} {cA : Nat → ClassId} {B : Nat} {res : HP} {k7 : HP → Int → Int → Int → Option (HP)} (hk7 : ∀ {ls : Array Slot} {H : Heap} {locs : List Loc} {S : HP} {x0 : Int} {x1 : Int} {x2 : Int} (hp : e_Pic D cA B S s H) (hS : va_S (e_A B) s.heap H locs) (hl : e_lo ls 6 [(0, e_rv B (x0)), (1, .int (iI (x1))), (2, .int (iI (x2)))]) (hsh : k7 S x0 x1 x2 = some res), W p l e ({ frames := 4, cells := 0, slots := 0, locals := 100 } : Room) s m args below meth c H locs 0 0 (MQ below (e_Qv D cA B res) args s 0 0 (e_A B)) (F0 m 7 ls [])) (E : e_En p s m args meth c cX13_endsInsertion RX13 6 none) : ∀ (f : Nat) {ls : Array Slot} {H : Heap} {locs : List Loc} {S : HP} {x0 : Int} {x1 : Int} {x2 : Int} {x3 : Int} {x4 : Int} (hp : e_Pic D cA B S s H) (hS : va_S (e_A B) s.heap H locs) (hl : e_lo ls 6 [(0, e_rv B (x0)), (1, .int (iI (x1))), (2, .int (iI (x2))), (3, .int (iI (x3))), (4, .int (iI (x4)))]) (hsh : s13_endsInsertion_l63 k7 f S x0 x1 x2 x3 x4 = some res), W p l e ({ frames := 4, cells := 0, slots := 0, locals := 100 } : Room) s m args below meth c H locs 0 0 (MQ below (e_Qv D cA B res) args s 0 0 (e_A B)) (F0 m 63 ls []) := by
  obtain ⟨hx, hb, hml, hown, hts, hlk, hrt⟩ := id E
  intro f
  induction f with
  | zero => intro ls H locs S x0 x1 x2 x3 x4 hp hS hl hsh; cases hsh
  | succ f ih =>
    intro ls H locs S x0 x1 x2 x3 x4 hp hS hl hsh
    have hk63 : ∀ {ls : Array Slot} {H : Heap} {locs : List Loc} {S : HP} {x0 : Int} {x1 : Int} {x2 : Int} {x3 : Int} {x4 : Int} (hp : e_Pic D cA B S s H) (hS : va_S (e_A B) s.heap H locs) (hl : e_lo ls 6 [(0, e_rv B (x0)), (1, .int (iI (x1))), (2, .int (iI (x2))), (3, .int (iI (x3))), (4, .int (iI (x4)))]) (hsh : (s13_endsInsertion_l63 k7 f) S x0 x1 x2 x3 x4 = some res), W p l e ({ frames := 4, cells := 0, slots := 0, locals := 100 } : Room) s m args below meth c H locs 0 0 (MQ below (e_Qv D cA B res) args s 0 0 (e_A B)) (F0 m 63 ls []) := ih
    generalize hkk : s13_endsInsertion_l63 k7 f = k63 at hk63
    rw [s13_endsInsertion_l63] at hsh
    rw [hkk] at hsh
    try dsimp only at hsh
    refine lv_iload hx hb dX13_endsInsertion_63 (hl.at 4 rfl) ?_
    refine lv_iload_n hx hb dX13_endsInsertion_65 rfl (hl.at 3 rfl) ?_
    refine e_icmp_ge (tgt := 91) hx hb dX13_endsInsertion_66 (by decide) (fun c66 => ?_) (fun c66 => ?_)
    · rw [if_pos c66] at hsh
      refine lv_iload_n hx hb dX13_endsInsertion_91 rfl (hl.at 2 rfl) ?_
      refine e_aload_n (B := B) (x := x0) hx hb dX13_endsInsertion_92 rfl (hl.at 0 rfl) ?_
      obtain ⟨v93, h93, hsh⟩ := Option.bind_eq_some_iff.mp hsh
      refine e_getI (k := 5) hx hb hts in_X13 hown hp h93 rfl (by decide) (by decide) rfl (hts _ kf13_213) rfl dX13_endsInsertion_93 ?_
      refine e_icmp_ge (tgt := 110) hx hb dX13_endsInsertion_96 (by decide) (fun c96 => ?_) (fun c96 => ?_)
      · rw [if_pos c96] at hsh
        exact w13_endsInsertion_b110 (hk7 := hk7) E hp hS (hl.sub [0, 1, 2] rfl) hsh
      · rw [if_neg c96] at hsh
        refine e_aload_n (B := B) (x := x0) hx hb dX13_endsInsertion_99 rfl (hl.at 0 rfl) ?_
        obtain ⟨v100, h100, hsh⟩ := Option.bind_eq_some_iff.mp hsh
        refine e_getR (k := 42) hx hb hts in_X13 hown hp h100 rfl (by decide) (by decide) rfl (hts _ kf13_83) rfl dX13_endsInsertion_100 ?_
        refine lv_iload_n hx hb dX13_endsInsertion_103 rfl (hl.at 1 rfl) ?_
        refine lv_bipush (v := iI (10)) hx hb dX13_endsInsertion_104 (by decide +kernel) ?_
        obtain ⟨S106, h106, hsh⟩ := Option.bind_eq_some_iff.mp hsh
        refine e_iast hx hb hp hS h106 dX13_endsInsertion_106 (fun H locs hp hS => ?_)
        refine e_iinc (n := 1) (x := x1) (lv' := [(1, .int (iI ((x1 + 1)))), (0, e_rv B (x0)), (2, .int (iI (x2))), (3, .int (iI (x3))), (4, .int (iI (x4)))]) hx hb dX13_endsInsertion_107 hl (k := 1) rfl (by decide) rfl (fun ls hl => ?_)
        exact w13_endsInsertion_b110 (hk7 := hk7) E hp hS (hl.sub [1, 0, 2] rfl) hsh
    · rw [if_neg c66] at hsh
      refine e_aload_n (B := B) (x := x0) hx hb dX13_endsInsertion_69 rfl (hl.at 0 rfl) ?_
      obtain ⟨v70, h70, hsh⟩ := Option.bind_eq_some_iff.mp hsh
      refine e_getR (k := 42) hx hb hts in_X13 hown hp h70 rfl (by decide) (by decide) rfl (hts _ kf13_83) rfl dX13_endsInsertion_70 ?_
      refine lv_iload_n hx hb dX13_endsInsertion_73 rfl (hl.at 1 rfl) ?_
      refine e_aload_n (B := B) (x := x0) hx hb dX13_endsInsertion_74 rfl (hl.at 0 rfl) ?_
      refine lv_iload_n hx hb dX13_endsInsertion_75 rfl (hl.at 2 rfl) ?_
      refine lv_iload hx hb dX13_endsInsertion_76 (hl.at 4 rfl) ?_
      obtain ⟨⟨v78, S78⟩, h78, hsh⟩ := Option.bind_eq_some_iff.mp hsh
      have hsh : _ = _ := hsh
      try dsimp only at hsh
      have ok78 := ok13_at h78
      refine e_callI (nL := 6) (mc := 0) (ms := 0) (T := TX13) (N := 126) (As := [.int (iI (x2)), .int (iI (x4))]) (rest := [.int (iI (x1)), e_rv B (v70)]) hx hb hml hown hts hp hS hl.size ok78.1 ok78.2.1 ok78.2.2 rfl (by decide) (c13_at l D cA B S S78 (x0) (x2) (x4) v78 h78) rfl rfl kd13_at (kl13_206) ks13_at kv13_at ki13 kh13_at ⟨Nat.le_of_ble_eq_true rfl, Nat.le_of_ble_eq_true rfl⟩ rfl (by simp [e_rv_cat, e_int_cat]) ⟨Nat.le_refl _, Nat.le_refl _⟩ dX13_endsInsertion_78 rfl (fun H locs hp hS => ?_)
      obtain ⟨S81, h81, hsh⟩ := Option.bind_eq_some_iff.mp hsh
      refine e_iast hx hb hp hS h81 dX13_endsInsertion_81 (fun H locs hp hS => ?_)
      refine e_iinc (n := 1) (x := x1) (lv' := [(1, .int (iI ((x1 + 1)))), (0, e_rv B (x0)), (2, .int (iI (x2))), (3, .int (iI (x3))), (4, .int (iI (x4)))]) hx hb dX13_endsInsertion_82 hl (k := 1) rfl (by decide) rfl (fun ls hl => ?_)
      refine e_iinc (n := 1) (x := x4) (lv' := [(4, .int (iI ((x4 + 1)))), (1, .int (iI ((x1 + 1)))), (0, e_rv B (x0)), (2, .int (iI (x2))), (3, .int (iI (x3)))]) hx hb dX13_endsInsertion_85 hl (k := 4) rfl (by decide) rfl (fun ls hl => ?_)
      refine lv_goto (tgt := 63) hx hb dX13_endsInsertion_88 (by decide) ?_
      exact hk63 hp hS (hl.sub [2, 1, 3, 4, 0] rfl) hsh
set_option maxRecDepth 100000 in
set_option maxHeartbeats 4000000 in
theorem w13_endsInsertion_b61 {p : Program} {l : Launch} {e : Env} {s : State} {m : MethodId} {args : Array Value} {below : List Frame} {meth : Method} {c : Code} {D : va_G} {cA : Nat → ClassId} {B : Nat} {res : HP} {k7 : HP → Int → Int → Int → Option (HP)} (hk7 : ∀ {ls : Array Slot} {H : Heap} {locs : List Loc} {S : HP} {x0 : Int} {x1 : Int} {x2 : Int} (hp : e_Pic D cA B S s H) (hS : va_S (e_A B) s.heap H locs) (hl : e_lo ls 6 [(0, e_rv B (x0)), (1, .int (iI (x1))), (2, .int (iI (x2)))]) (hsh : k7 S x0 x1 x2 = some res), W p l e ({ frames := 4, cells := 0, slots := 0, locals := 100 } : Room) s m args below meth c H locs 0 0 (MQ below (e_Qv D cA B res) args s 0 0 (e_A B)) (F0 m 7 ls [])) (E : e_En p s m args meth c cX13_endsInsertion RX13 6 none) {ls : Array Slot} {H : Heap} {locs : List Loc} {S : HP} {x0 : Int} {x1 : Int} {x2 : Int} {x3 : Int} {y0 : Int} (hp : e_Pic D cA B S s H) (hS : va_S (e_A B) s.heap H locs) (hl : e_lo ls 6 [(0, e_rv B (x0)), (1, .int (iI (x1))), (2, .int (iI (x2))), (3, .int (iI (x3)))]) (hsh : s13_endsInsertion_b61 k7 S x0 x1 x2 x3 y0 = some res) : W p l e ({ frames := 4, cells := 0, slots := 0, locals := 100 } : Room) s m args below meth c H locs 0 0 (MQ below (e_Qv D cA B res) args s 0 0 (e_A B)) (F0 m 61 ls [.int (iI (y0))]) := by
  obtain ⟨hx, hb, hml, hown, hts, hlk, hrt⟩ := id E
  unfold s13_endsInsertion_b61 at hsh
  refine e_istore (lv' := [(4, .int (iI (y0))), (0, e_rv B (x0)), (1, .int (iI (x1))), (2, .int (iI (x2))), (3, .int (iI (x3)))]) hx hb dX13_endsInsertion_61 hl (by decide) rfl (fun ls hl => ?_)
  exact w13_endsInsertion_l63 (hk7 := hk7) E 1000000 hp hS (hl.sub [1, 2, 3, 4, 0] rfl) hsh
set_option maxRecDepth 100000 in
set_option maxHeartbeats 4000000 in
theorem w13_endsInsertion_b44 {p : Program} {l : Launch} {e : Env} {s : State} {m : MethodId} {args : Array Value} {below : List Frame} {meth : Method} {c : Code} {D : va_G} {cA : Nat → ClassId} {B : Nat} {res : HP} {k7 : HP → Int → Int → Int → Option (HP)} (hk7 : ∀ {ls : Array Slot} {H : Heap} {locs : List Loc} {S : HP} {x0 : Int} {x1 : Int} {x2 : Int} (hp : e_Pic D cA B S s H) (hS : va_S (e_A B) s.heap H locs) (hl : e_lo ls 6 [(0, e_rv B (x0)), (1, .int (iI (x1))), (2, .int (iI (x2)))]) (hsh : k7 S x0 x1 x2 = some res), W p l e ({ frames := 4, cells := 0, slots := 0, locals := 100 } : Room) s m args below meth c H locs 0 0 (MQ below (e_Qv D cA B res) args s 0 0 (e_A B)) (F0 m 7 ls [])) (E : e_En p s m args meth c cX13_endsInsertion RX13 6 none) {ls : Array Slot} {H : Heap} {locs : List Loc} {S : HP} {x0 : Int} {x1 : Int} {x2 : Int} {y0 : Int} (hp : e_Pic D cA B S s H) (hS : va_S (e_A B) s.heap H locs) (hl : e_lo ls 6 [(0, e_rv B (x0)), (1, .int (iI (x1))), (2, .int (iI (x2)))]) (hsh : s13_endsInsertion_b44 k7 S x0 x1 x2 y0 = some res) : W p l e ({ frames := 4, cells := 0, slots := 0, locals := 100 } : Room) s m args below meth c H locs 0 0 (MQ below (e_Qv D cA B res) args s 0 0 (e_A B)) (F0 m 44 ls [.int (iI (y0))]) := by
  obtain ⟨hx, hb, hml, hown, hts, hlk, hrt⟩ := id E
  unfold s13_endsInsertion_b44 at hsh
  refine e_istore_n (lv' := [(3, .int (iI (y0))), (0, e_rv B (x0)), (1, .int (iI (x1))), (2, .int (iI (x2)))]) hx hb dX13_endsInsertion_44 rfl hl (by decide) rfl (fun ls hl => ?_)
  refine lv_iload_n hx hb dX13_endsInsertion_45 rfl (hl.at 3 rfl) ?_
  refine e_aload_n (B := B) (x := x0) hx hb dX13_endsInsertion_46 rfl (hl.at 1 rfl) ?_
  obtain ⟨v47, h47, hsh⟩ := Option.bind_eq_some_iff.mp hsh
  refine e_getI (k := 71) hx hb hts in_X13 hown hp h47 rfl (by decide) (by decide) rfl (hts _ kf13_469) rfl dX13_endsInsertion_47 ?_
  refine e_icmp_ne (tgt := 60) hx hb dX13_endsInsertion_50 (by decide) (fun c50 => ?_) (fun c50 => ?_)
  · rw [if_neg c50] at hsh
    refine lv_iconst (v := iI (0)) hx hb dX13_endsInsertion_60 rfl ?_
    exact w13_endsInsertion_b61 (hk7 := hk7) E hp hS (hl.sub [1, 2, 3, 0] rfl) hsh
  · rw [if_pos c50] at hsh
    refine e_aload_n (B := B) (x := x0) hx hb dX13_endsInsertion_53 rfl (hl.at 1 rfl) ?_
    obtain ⟨v54, h54, hsh⟩ := Option.bind_eq_some_iff.mp hsh
    refine e_getI (k := 72) hx hb hts in_X13 hown hp h54 rfl (by decide) (by decide) rfl (hts _ kf13_472) rfl dX13_endsInsertion_54 ?_
    refine lv_goto (tgt := 61) hx hb dX13_endsInsertion_57 (by decide) ?_
    exact w13_endsInsertion_b61 (hk7 := hk7) E hp hS (hl.sub [1, 2, 3, 0] rfl) hsh
set_option maxRecDepth 100000 in
set_option maxHeartbeats 4000000 in
theorem w13_endsInsertion_l7 {p : Program} {l : Launch} {e : Env} {s : State} {m : MethodId} {args : Array Value} {below : List Frame} {meth : Method} {c : Code} {D : va_G} {cA : Nat → ClassId} {B : Nat} {res : HP} (E : e_En p s m args meth c cX13_endsInsertion RX13 6 none) : ∀ (f : Nat) {ls : Array Slot} {H : Heap} {locs : List Loc} {S : HP} {x0 : Int} {x1 : Int} {x2 : Int} (hp : e_Pic D cA B S s H) (hS : va_S (e_A B) s.heap H locs) (hl : e_lo ls 6 [(0, e_rv B (x0)), (1, .int (iI (x1))), (2, .int (iI (x2)))]) (hsh : s13_endsInsertion_l7 f S x0 x1 x2 = some res), W p l e ({ frames := 4, cells := 0, slots := 0, locals := 100 } : Room) s m args below meth c H locs 0 0 (MQ below (e_Qv D cA B res) args s 0 0 (e_A B)) (F0 m 7 ls []) := by
  obtain ⟨hx, hb, hml, hown, hts, hlk, hrt⟩ := id E
  intro f
  induction f with
  | zero => intro ls H locs S x0 x1 x2 hp hS hl hsh; cases hsh
  | succ f ih =>
    intro ls H locs S x0 x1 x2 hp hS hl hsh
    have hk7 : ∀ {ls : Array Slot} {H : Heap} {locs : List Loc} {S : HP} {x0 : Int} {x1 : Int} {x2 : Int} (hp : e_Pic D cA B S s H) (hS : va_S (e_A B) s.heap H locs) (hl : e_lo ls 6 [(0, e_rv B (x0)), (1, .int (iI (x1))), (2, .int (iI (x2)))]) (hsh : (s13_endsInsertion_l7 f) S x0 x1 x2 = some res), W p l e ({ frames := 4, cells := 0, slots := 0, locals := 100 } : Room) s m args below meth c H locs 0 0 (MQ below (e_Qv D cA B res) args s 0 0 (e_A B)) (F0 m 7 ls []) := ih
    generalize hkk : s13_endsInsertion_l7 f = k7 at hk7
    rw [s13_endsInsertion_l7] at hsh
    rw [hkk] at hsh
    try dsimp only at hsh
    refine lv_iload_n hx hb dX13_endsInsertion_7 rfl (hl.at 2 rfl) ?_
    refine e_aload_n (B := B) (x := x0) hx hb dX13_endsInsertion_8 rfl (hl.at 0 rfl) ?_
    obtain ⟨v9, h9, hsh⟩ := Option.bind_eq_some_iff.mp hsh
    refine e_getI (k := 5) hx hb hts in_X13 hown hp h9 rfl (by decide) (by decide) rfl (hts _ kf13_213) rfl dX13_endsInsertion_9 ?_
    refine e_icmp_gt (tgt := 116) hx hb dX13_endsInsertion_12 (by decide) (fun c12 => ?_) (fun c12 => ?_)
    · rw [if_pos c12] at hsh
      exact w13_endsInsertion_b116 E hp hS (hl.sub [0, 1] rfl) hsh
    · rw [if_neg c12] at hsh
      refine e_aload_n (B := B) (x := x0) hx hb dX13_endsInsertion_15 rfl (hl.at 0 rfl) ?_
      obtain ⟨v16, h16, hsh⟩ := Option.bind_eq_some_iff.mp hsh
      refine e_getI (k := 73) hx hb hts in_X13 hown hp h16 rfl (by decide) (by decide) rfl (hts _ kf13_475) rfl dX13_endsInsertion_16 ?_
      refine lv_iconst (v := iI (1)) hx hb dX13_endsInsertion_19 rfl ?_
      refine e_icmp_le (tgt := 116) hx hb dX13_endsInsertion_20 (by decide) (fun c20 => ?_) (fun c20 => ?_)
      · rw [if_pos c20] at hsh
        exact w13_endsInsertion_b116 E hp hS (hl.sub [0, 1] rfl) hsh
      · rw [if_neg c20] at hsh
        refine lv_iload_n hx hb dX13_endsInsertion_23 rfl (hl.at 2 rfl) ?_
        refine e_aload_n (B := B) (x := x0) hx hb dX13_endsInsertion_24 rfl (hl.at 0 rfl) ?_
        obtain ⟨v25, h25, hsh⟩ := Option.bind_eq_some_iff.mp hsh
        refine e_getI (k := 5) hx hb hts in_X13 hown hp h25 rfl (by decide) (by decide) rfl (hts _ kf13_213) rfl dX13_endsInsertion_25 ?_
        refine e_icmp_ne (tgt := 38) hx hb dX13_endsInsertion_28 (by decide) (fun c28 => ?_) (fun c28 => ?_)
        · rw [if_neg c28] at hsh
          refine e_aload_n (B := B) (x := x0) hx hb dX13_endsInsertion_38 rfl (hl.at 0 rfl) ?_
          obtain ⟨v39, h39, hsh⟩ := Option.bind_eq_some_iff.mp hsh
          refine e_getR (k := 3) hx hb hts in_X13 hown hp h39 rfl (by decide) (by decide) rfl (hts _ kf13_17) rfl dX13_endsInsertion_39 ?_
          refine lv_iload_n hx hb dX13_endsInsertion_42 rfl (hl.at 2 rfl) ?_
          obtain ⟨v43, h43, hsh⟩ := Option.bind_eq_some_iff.mp hsh
          refine e_iald hx hb hp h43 dX13_endsInsertion_43 ?_
          exact w13_endsInsertion_b44 (hk7 := hk7) E hp hS (hl.sub [0, 1, 2] rfl) hsh
        · rw [if_pos c28] at hsh
          refine e_aload_n (B := B) (x := x0) hx hb dX13_endsInsertion_31 rfl (hl.at 0 rfl) ?_
          obtain ⟨v32, h32, hsh⟩ := Option.bind_eq_some_iff.mp hsh
          refine e_getI (k := 6) hx hb hts in_X13 hown hp h32 rfl (by decide) (by decide) rfl (hts _ kf13_216) rfl dX13_endsInsertion_32 ?_
          refine lv_goto (tgt := 44) hx hb dX13_endsInsertion_35 (by decide) ?_
          exact w13_endsInsertion_b44 (hk7 := hk7) E hp hS (hl.sub [0, 1, 2] rfl) hsh
set_option maxRecDepth 100000 in
set_option maxHeartbeats 4000000 in
theorem c13_endsInsertion (l : Launch) (D : va_G) (cA : Nat → ClassId) (B : Nat) (S S' : HP) (x0 : Int) (hsh : s13_endsInsertion S x0 = some S') : Met l yX13_endsInsertion (e_wu yX13_endsInsertion cX13_endsInsertion 6 none) ({ frames := 4, cells := 0, slots := 0, locals := 100 } : Room) (va_Pc [e_rv B (x0)] (fun U => e_PU D cA B S U)) (e_Qv D cA B S') 0 0 (e_A B) := by
  refine Met.ofW (cc := cX13_endsInsertion) (maxL := 6) (ret := none) (by decide +kernel) rfl ?_
  intro p e s m args below meth c s₁ Bd hml hv
  obtain ⟨rfl, hp⟩ := hv
  have hp : e_Pic D cA B S s s.heap := hp
  have hx := Bd.exec
  have hb := Bd.bytes
  have hrt := Bd.returns
  have hlk := Bd.notSynchronized
  have hown : s.vm.findClass RX13 = some m.cls := findClass_of_methodNamed Bd.named
  have hts : ∀ w ∈ e_tb, w.before ([e_rv B (x0)] : List Value).toArray s = true := fun w h => atoms_spec (ws := (e_wu yX13_endsInsertion cX13_endsInsertion 6 none)) Bd.pre w (List.mem_cons_of_mem _ h)
  have E : e_En p s m ([e_rv B (x0)] : List Value).toArray meth c cX13_endsInsertion RX13 6 none := ⟨hx, hb, hml, hown, hts, hlk, hrt⟩
  have hS : va_S (e_A B) s.heap s.heap [] := va_S.rf
  have hl := e_entry (vs := [e_rv B (x0)]) (n := 6) (Nat.le_of_ble_eq_true rfl) (e_cc (e_rv_cat _ _) e_cn)
  rw [lg_entry_eq]
  generalize (lg_sl [e_rv B (x0)] ++ List.replicate (6 - (lg_sl [e_rv B (x0)]).length) Slot.unset).toArray = ls at hl ⊢
  generalize ([e_rv B (x0)] : List Value).toArray = args at hts E ⊢
  have hl : e_lo ls 6 [(0, e_rv B (x0))] := hl
  have hsh := (gd_some hsh).2
  refine lv_iconst (v := iI (0)) hx hb dX13_endsInsertion_0 rfl ?_
  refine e_istore_n (lv' := [(1, .int (iI (0))), (0, e_rv B (x0))]) hx hb dX13_endsInsertion_1 rfl hl (by decide) rfl (fun ls hl => ?_)
  refine e_aload_n (B := B) (x := x0) hx hb dX13_endsInsertion_2 rfl (hl.at 1 rfl) ?_
  obtain ⟨v3, h3, hsh⟩ := Option.bind_eq_some_iff.mp hsh
  refine e_getI (k := 71) hx hb hts in_X13 hown hp h3 rfl (by decide) (by decide) rfl (hts _ kf13_469) rfl dX13_endsInsertion_3 ?_
  refine e_istore_n (lv' := [(2, .int (iI (v3))), (1, .int (iI (0))), (0, e_rv B (x0))]) hx hb dX13_endsInsertion_6 rfl hl (by decide) rfl (fun ls hl => ?_)
  exact w13_endsInsertion_l7 E 1000000 hp hS (hl.sub [2, 1, 0] rfl) hsh
theorem ok13_endsSelection {S : HP} {x0 : Int} {r : Int × HP} (h : s13_endsSelection S x0 = some r) : 0 ≤ x0 ∧ x0.toNat < e_n S ∧ e_g S x0.toNat = 13 := (gd_some h).1
set_option maxRecDepth 100000 in
set_option maxHeartbeats 4000000 in
theorem w13_endsSelection_b167 {p : Program} {l : Launch} {e : Env} {s : State} {m : MethodId} {args : Array Value} {below : List Frame} {meth : Method} {c : Code} {D : va_G} {cA : Nat → ClassId} {B : Nat} {res : Int × HP} (E : e_En p s m args meth c cX13_endsSelection RX13 4 (some .boolean)) {ls : Array Slot} {H : Heap} {locs : List Loc} {S : HP} {x3 : Int} {y0 : Int} {y1 : Int} (hp : e_Pic D cA B S s H) (hS : va_S (e_A B) s.heap H locs) (hl : e_lo ls 4 [(3, .int (iI (x3)))]) (hsh : s13_endsSelection_b167 S x3 y0 y1 = some res) : W p l e ({ frames := 8, cells := 0, slots := 0, locals := 186 } : Room) s m args below meth c H locs 0 0 (MQ below (e_Qi D cA B res.1 res.2) args s 0 0 (e_A B)) (F0 m 167 ls [.int (iI (y1)), e_rv B (y0)]) := by
  obtain ⟨hx, hb, hml, hown, hts, hlk, hrt⟩ := id E
  unfold s13_endsSelection_b167 at hsh
  obtain ⟨S167, h167, hsh⟩ := Option.bind_eq_some_iff.mp hsh
  refine e_putI (k := 8) hx hb hts in_X13 tyX13 tyX13_ok nmX13 hown hp hS h167 rfl (by decide) (by decide) rfl (hts _ kf13_466) rfl rfl (by decide +kernel) dX13_endsSelection_167 (fun H locs hp hS => ?_)
  refine lv_iload_n hx hb dX13_endsSelection_170 rfl (hl.at 0 rfl) ?_
  obtain ⟨hz, hz1, hz2⟩ := zR_some hsh
  rw [← hz1, ← hz2]
  exact e_zret hx hb hrt hlk hp hS hz dX13_endsSelection_171
set_option maxRecDepth 100000 in
set_option maxHeartbeats 4000000 in
theorem w13_endsSelection_b154 {p : Program} {l : Launch} {e : Env} {s : State} {m : MethodId} {args : Array Value} {below : List Frame} {meth : Method} {c : Code} {D : va_G} {cA : Nat → ClassId} {B : Nat} {res : Int × HP} (E : e_En p s m args meth c cX13_endsSelection RX13 4 (some .boolean)) {ls : Array Slot} {H : Heap} {locs : List Loc} {S : HP} {x0 : Int} {x1 : Int} {x3 : Int} (hp : e_Pic D cA B S s H) (hS : va_S (e_A B) s.heap H locs) (hl : e_lo ls 4 [(0, e_rv B (x0)), (1, .int (iI (x1))), (3, .int (iI (x3)))]) (hsh : s13_endsSelection_b154 S x0 x1 x3 = some res) : W p l e ({ frames := 8, cells := 0, slots := 0, locals := 186 } : Room) s m args below meth c H locs 0 0 (MQ below (e_Qi D cA B res.1 res.2) args s 0 0 (e_A B)) (F0 m 154 ls []) := by
  obtain ⟨hx, hb, hml, hown, hts, hlk, hrt⟩ := id E
  unfold s13_endsSelection_b154 at hsh
  refine e_aload_n (B := B) (x := x0) hx hb dX13_endsSelection_154 rfl (hl.at 0 rfl) ?_
  refine lv_iload_n hx hb dX13_endsSelection_155 rfl (hl.at 2 rfl) ?_
  refine e_if_eq (tgt := 166) hx hb dX13_endsSelection_156 (by decide) (fun c156 => ?_) (fun c156 => ?_)
  · rw [if_pos c156] at hsh
    refine lv_iload_n hx hb dX13_endsSelection_166 rfl (hl.at 1 rfl) ?_
    exact w13_endsSelection_b167 E hp hS (hl.sub [2] rfl) hsh
  · rw [if_neg c156] at hsh
    refine e_aload_n (B := B) (x := x0) hx hb dX13_endsSelection_159 rfl (hl.at 0 rfl) ?_
    obtain ⟨v160, h160, hsh⟩ := Option.bind_eq_some_iff.mp hsh
    refine e_getI (k := 8) hx hb hts in_X13 hown hp h160 rfl (by decide) (by decide) rfl (hts _ kf13_466) rfl dX13_endsSelection_160 ?_
    refine lv_goto (tgt := 167) hx hb dX13_endsSelection_163 (by decide) ?_
    exact w13_endsSelection_b167 E hp hS (hl.sub [2] rfl) hsh
set_option maxRecDepth 100000 in
set_option maxHeartbeats 4000000 in
theorem w13_endsSelection_b98 {p : Program} {l : Launch} {e : Env} {s : State} {m : MethodId} {args : Array Value} {below : List Frame} {meth : Method} {c : Code} {D : va_G} {cA : Nat → ClassId} {B : Nat} {res : Int × HP} (E : e_En p s m args meth c cX13_endsSelection RX13 4 (some .boolean)) {ls : Array Slot} {H : Heap} {locs : List Loc} {S : HP} {x0 : Int} {x1 : Int} {x2 : Int} (hp : e_Pic D cA B S s H) (hS : va_S (e_A B) s.heap H locs) (hl : e_lo ls 4 [(0, e_rv B (x0)), (1, .int (iI (x1))), (2, .int (iI (x2)))]) (hsh : s13_endsSelection_b98 S x0 x1 x2 = some res) : W p l e ({ frames := 8, cells := 0, slots := 0, locals := 186 } : Room) s m args below meth c H locs 0 0 (MQ below (e_Qi D cA B res.1 res.2) args s 0 0 (e_A B)) (F0 m 98 ls []) := by
  obtain ⟨hx, hb, hml, hown, hts, hlk, hrt⟩ := id E
  unfold s13_endsSelection_b98 at hsh
  refine e_aload_n (B := B) (x := x0) hx hb dX13_endsSelection_98 rfl (hl.at 0 rfl) ?_
  refine lv_iload_n hx hb dX13_endsSelection_99 rfl (hl.at 2 rfl) ?_
  refine e_aload_n (B := B) (x := x0) hx hb dX13_endsSelection_100 rfl (hl.at 0 rfl) ?_
  obtain ⟨v101, h101, hsh⟩ := Option.bind_eq_some_iff.mp hsh
  refine e_getI (k := 58) hx hb hts in_X13 hown hp h101 rfl (by decide) (by decide) rfl (hts _ kf13_642) rfl dX13_endsSelection_101 ?_
  obtain ⟨⟨v104, S104⟩, h104, hsh⟩ := Option.bind_eq_some_iff.mp hsh
  have hsh : _ = _ := hsh
  try dsimp only at hsh
  have ok104 := ok13_operates h104
  refine e_callI (nL := 4) (mc := 0) (ms := 0) (T := TX13) (N := 126) (As := [.int (iI (x2)), .int (iI (v101))]) (rest := []) hx hb hml hown hts hp hS hl.size ok104.1 ok104.2.1 ok104.2.2 rfl (by decide) (c13_operates l D cA B S S104 (x0) (x2) (v101) v104 h104) rfl rfl kd13_operates (kl13_548) ks13_operates kv13_operates ki13 kh13_operates ⟨Nat.le_of_ble_eq_true rfl, Nat.le_of_ble_eq_true rfl⟩ rfl (by simp [e_rv_cat, e_int_cat]) ⟨Nat.le_refl _, Nat.le_refl _⟩ dX13_endsSelection_104 rfl (fun H locs hp hS => ?_)
  refine e_istore_n (lv' := [(3, .int (iI (v104))), (0, e_rv B (x0)), (1, .int (iI (x1))), (2, .int (iI (x2)))]) hx hb dX13_endsSelection_107 rfl hl (by decide) rfl (fun ls hl => ?_)
  refine lv_goto (tgt := 154) hx hb dX13_endsSelection_108 (by decide) ?_
  exact w13_endsSelection_b154 E hp hS (hl.sub [1, 2, 0] rfl) hsh
set_option maxRecDepth 100000 in
set_option maxHeartbeats 4000000 in
theorem w13_endsSelection_b153 {p : Program} {l : Launch} {e : Env} {s : State} {m : MethodId} {args : Array Value} {below : List Frame} {meth : Method} {c : Code} {D : va_G} {cA : Nat → ClassId} {B : Nat} {res : Int × HP} (E : e_En p s m args meth c cX13_endsSelection RX13 4 (some .boolean)) {ls : Array Slot} {H : Heap} {locs : List Loc} {S : HP} {x0 : Int} {x1 : Int} {y0 : Int} (hp : e_Pic D cA B S s H) (hS : va_S (e_A B) s.heap H locs) (hl : e_lo ls 4 [(0, e_rv B (x0)), (1, .int (iI (x1)))]) (hsh : s13_endsSelection_b153 S x0 x1 y0 = some res) : W p l e ({ frames := 8, cells := 0, slots := 0, locals := 186 } : Room) s m args below meth c H locs 0 0 (MQ below (e_Qi D cA B res.1 res.2) args s 0 0 (e_A B)) (F0 m 153 ls [.int (iI (y0))]) := by
  obtain ⟨hx, hb, hml, hown, hts, hlk, hrt⟩ := id E
  unfold s13_endsSelection_b153 at hsh
  refine e_istore_n (lv' := [(3, .int (iI (y0))), (0, e_rv B (x0)), (1, .int (iI (x1)))]) hx hb dX13_endsSelection_153 rfl hl (by decide) rfl (fun ls hl => ?_)
  exact w13_endsSelection_b154 E hp hS (hl.sub [1, 2, 0] rfl) hsh
set_option maxRecDepth 100000 in
set_option maxHeartbeats 4000000 in
theorem w13_endsSelection_b152 {p : Program} {l : Launch} {e : Env} {s : State} {m : MethodId} {args : Array Value} {below : List Frame} {meth : Method} {c : Code} {D : va_G} {cA : Nat → ClassId} {B : Nat} {res : Int × HP} (E : e_En p s m args meth c cX13_endsSelection RX13 4 (some .boolean)) {ls : Array Slot} {H : Heap} {locs : List Loc} {S : HP} {x0 : Int} {x1 : Int} (hp : e_Pic D cA B S s H) (hS : va_S (e_A B) s.heap H locs) (hl : e_lo ls 4 [(0, e_rv B (x0)), (1, .int (iI (x1)))]) (hsh : s13_endsSelection_b152 S x0 x1 = some res) : W p l e ({ frames := 8, cells := 0, slots := 0, locals := 186 } : Room) s m args below meth c H locs 0 0 (MQ below (e_Qi D cA B res.1 res.2) args s 0 0 (e_A B)) (F0 m 152 ls []) := by
  obtain ⟨hx, hb, hml, hown, hts, hlk, hrt⟩ := id E
  unfold s13_endsSelection_b152 at hsh
  refine lv_iconst (v := iI (0)) hx hb dX13_endsSelection_152 rfl ?_
  exact w13_endsSelection_b153 E hp hS (hl.sub [0, 1] rfl) hsh
set_option maxRecDepth 100000 in
set_option maxHeartbeats 4000000 in
theorem w13_endsSelection_b136 {p : Program} {l : Launch} {e : Env} {s : State} {m : MethodId} {args : Array Value} {below : List Frame} {meth : Method} {c : Code} {D : va_G} {cA : Nat → ClassId} {B : Nat} {res : Int × HP} (E : e_En p s m args meth c cX13_endsSelection RX13 4 (some .boolean)) {ls : Array Slot} {H : Heap} {locs : List Loc} {S : HP} {x0 : Int} {x1 : Int} {x2 : Int} (hp : e_Pic D cA B S s H) (hS : va_S (e_A B) s.heap H locs) (hl : e_lo ls 4 [(0, e_rv B (x0)), (1, .int (iI (x1))), (2, .int (iI (x2)))]) (hsh : s13_endsSelection_b136 S x0 x1 x2 = some res) : W p l e ({ frames := 8, cells := 0, slots := 0, locals := 186 } : Room) s m args below meth c H locs 0 0 (MQ below (e_Qi D cA B res.1 res.2) args s 0 0 (e_A B)) (F0 m 136 ls []) := by
  obtain ⟨hx, hb, hml, hown, hts, hlk, hrt⟩ := id E
  unfold s13_endsSelection_b136 at hsh
  refine e_aload_n (B := B) (x := x0) hx hb dX13_endsSelection_136 rfl (hl.at 0 rfl) ?_
  refine lv_iload_n hx hb dX13_endsSelection_137 rfl (hl.at 2 rfl) ?_
  refine e_aload_n (B := B) (x := x0) hx hb dX13_endsSelection_138 rfl (hl.at 0 rfl) ?_
  obtain ⟨v139, h139, hsh⟩ := Option.bind_eq_some_iff.mp hsh
  refine e_getI (k := 58) hx hb hts in_X13 hown hp h139 rfl (by decide) (by decide) rfl (hts _ kf13_642) rfl dX13_endsSelection_139 ?_
  obtain ⟨⟨v142, S142⟩, h142, hsh⟩ := Option.bind_eq_some_iff.mp hsh
  have hsh : _ = _ := hsh
  try dsimp only at hsh
  have ok142 := ok13_operates h142
  refine e_callI (nL := 4) (mc := 0) (ms := 0) (T := TX13) (N := 126) (As := [.int (iI (x2)), .int (iI (v139))]) (rest := []) hx hb hml hown hts hp hS hl.size ok142.1 ok142.2.1 ok142.2.2 rfl (by decide) (c13_operates l D cA B S S142 (x0) (x2) (v139) v142 h142) rfl rfl kd13_operates (kl13_548) ks13_operates kv13_operates ki13 kh13_operates ⟨Nat.le_of_ble_eq_true rfl, Nat.le_of_ble_eq_true rfl⟩ rfl (by simp [e_rv_cat, e_int_cat]) ⟨Nat.le_refl _, Nat.le_refl _⟩ dX13_endsSelection_142 rfl (fun H locs hp hS => ?_)
  refine e_if_eq (tgt := 152) hx hb dX13_endsSelection_145 (by decide) (fun c145 => ?_) (fun c145 => ?_)
  · rw [if_pos c145] at hsh
    exact w13_endsSelection_b152 E hp hS (hl.sub [0, 1] rfl) hsh
  · rw [if_neg c145] at hsh
    refine lv_iconst (v := iI (1)) hx hb dX13_endsSelection_148 rfl ?_
    refine lv_goto (tgt := 153) hx hb dX13_endsSelection_149 (by decide) ?_
    exact w13_endsSelection_b153 E hp hS (hl.sub [0, 1] rfl) hsh
set_option maxRecDepth 100000 in
set_option maxHeartbeats 4000000 in
theorem c13_endsSelection (l : Launch) (D : va_G) (cA : Nat → ClassId) (B : Nat) (S S' : HP) (x0 : Int) (r : Int) (hsh : s13_endsSelection S x0 = some (r, S')) : Met l yX13_endsSelection (e_wu yX13_endsSelection cX13_endsSelection 4 (some .boolean)) ({ frames := 8, cells := 0, slots := 0, locals := 186 } : Room) (va_Pc [e_rv B (x0)] (fun U => e_PU D cA B S U)) (e_Qi D cA B r S') 0 0 (e_A B) := by
  refine Met.ofW (cc := cX13_endsSelection) (maxL := 4) (ret := (some .boolean)) (by decide +kernel) rfl ?_
  intro p e s m args below meth c s₁ Bd hml hv
  obtain ⟨rfl, hp⟩ := hv
  have hp : e_Pic D cA B S s s.heap := hp
  have hx := Bd.exec
  have hb := Bd.bytes
  have hrt := Bd.returns
  have hlk := Bd.notSynchronized
  have hown : s.vm.findClass RX13 = some m.cls := findClass_of_methodNamed Bd.named
  have hts : ∀ w ∈ e_tb, w.before ([e_rv B (x0)] : List Value).toArray s = true := fun w h => atoms_spec (ws := (e_wu yX13_endsSelection cX13_endsSelection 4 (some .boolean))) Bd.pre w (List.mem_cons_of_mem _ h)
  have E : e_En p s m ([e_rv B (x0)] : List Value).toArray meth c cX13_endsSelection RX13 4 (some .boolean) := ⟨hx, hb, hml, hown, hts, hlk, hrt⟩
  have hS : va_S (e_A B) s.heap s.heap [] := va_S.rf
  have hl := e_entry (vs := [e_rv B (x0)]) (n := 4) (Nat.le_of_ble_eq_true rfl) (e_cc (e_rv_cat _ _) e_cn)
  rw [lg_entry_eq]
  generalize (lg_sl [e_rv B (x0)] ++ List.replicate (4 - (lg_sl [e_rv B (x0)]).length) Slot.unset).toArray = ls at hl ⊢
  generalize ([e_rv B (x0)] : List Value).toArray = args at hts E ⊢
  have hl : e_lo ls 4 [(0, e_rv B (x0))] := hl
  have hsh := (gd_some hsh).2
  refine e_aload_n (B := B) (x := x0) hx hb dX13_endsSelection_0 rfl (hl.at 0 rfl) ?_
  obtain ⟨v1, h1, hsh⟩ := Option.bind_eq_some_iff.mp hsh
  refine e_getI (k := 8) hx hb hts in_X13 hown hp h1 rfl (by decide) (by decide) rfl (hts _ kf13_466) rfl dX13_endsSelection_1 ?_
  refine e_istore_n (lv' := [(1, .int (iI (v1))), (0, e_rv B (x0))]) hx hb dX13_endsSelection_4 rfl hl (by decide) rfl (fun ls hl => ?_)
  refine e_aload_n (B := B) (x := x0) hx hb dX13_endsSelection_5 rfl (hl.at 1 rfl) ?_
  obtain ⟨v6, h6, hsh⟩ := Option.bind_eq_some_iff.mp hsh
  refine e_getI (k := 62) hx hb hts in_X13 hown hp h6 rfl (by decide) (by decide) rfl (hts _ kf13_615) rfl dX13_endsSelection_6 ?_
  obtain ⟨⟨v9, S9⟩, h9, hsh⟩ := Option.bind_eq_some_iff.mp hsh
  have hsh : _ = _ := hsh
  try dsimp only at hsh
  refine e_callS (nL := 4) (mc := 0) (ms := 0) (As := [.int (iI (v6))]) (rest := []) hx hb hml hown hts hp hS hl.size (c13_meant l D cA B S S9 (v6) v9 h9) rfl rfl kd13_meant (kl13_849) ks13_meant ki13 kh13_meant ⟨Nat.le_of_ble_eq_true rfl, Nat.le_of_ble_eq_true rfl⟩ rfl (by simp [e_rv_cat, e_int_cat]) ⟨Nat.le_refl _, Nat.le_refl _⟩ dX13_endsSelection_9 rfl (fun H locs hp hS => ?_)
  refine e_istore_n (lv' := [(2, .int (iI (v9))), (1, .int (iI (v1))), (0, e_rv B (x0))]) hx hb dX13_endsSelection_12 rfl hl (by decide) rfl (fun ls hl => ?_)
  refine e_aload_n (B := B) (x := x0) hx hb dX13_endsSelection_13 rfl (hl.at 2 rfl) ?_
  obtain ⟨S14, h14, hsh⟩ := Option.bind_eq_some_iff.mp hsh
  have ok14 := ok13_spansSelection h14
  refine e_callV (nL := 4) (mc := 0) (ms := 0) (T := TX13) (N := 126) (As := []) (rest := []) hx hb hml hown hts hp hS hl.size ok14.1 ok14.2.1 ok14.2.2 rfl (by decide) (c13_spansSelection l D cA B S9 S14 (x0) h14) rfl rfl kd13_spansSelection (kl13_852) ks13_spansSelection kv13_spansSelection ki13 kh13_spansSelection ⟨Nat.le_of_ble_eq_true rfl, Nat.le_of_ble_eq_true rfl⟩ rfl (by simp [e_rv_cat, e_int_cat]) ⟨Nat.le_refl _, Nat.le_refl _⟩ dX13_endsSelection_14 rfl (fun H locs hp hS => ?_)
  refine e_aload_n (B := B) (x := x0) hx hb dX13_endsSelection_17 rfl (hl.at 2 rfl) ?_
  refine lv_iconst (v := iI (0)) hx hb dX13_endsSelection_18 rfl ?_
  obtain ⟨S19, h19, hsh⟩ := Option.bind_eq_some_iff.mp hsh
  refine e_putI (k := 8) hx hb hts in_X13 tyX13 tyX13_ok nmX13 hown hp hS h19 rfl (by decide) (by decide) rfl (hts _ kf13_466) rfl rfl (by decide +kernel) dX13_endsSelection_19 (fun H locs hp hS => ?_)
  refine e_aload_n (B := B) (x := x0) hx hb dX13_endsSelection_22 rfl (hl.at 2 rfl) ?_
  obtain ⟨v23, h23, hsh⟩ := Option.bind_eq_some_iff.mp hsh
  refine e_getI (k := 62) hx hb hts in_X13 hown hp h23 rfl (by decide) (by decide) rfl (hts _ kf13_615) rfl dX13_endsSelection_23 ?_
  refine lv_bipush (v := iI (74)) hx hb dX13_endsSelection_26 (by decide +kernel) ?_
  refine e_icmp_ne (tgt := 58) hx hb dX13_endsSelection_28 (by decide) (fun c28 => ?_) (fun c28 => ?_)
  · rw [if_neg c28] at hsh
    refine e_aload_n (B := B) (x := x0) hx hb dX13_endsSelection_58 rfl (hl.at 2 rfl) ?_
    obtain ⟨v59, h59, hsh⟩ := Option.bind_eq_some_iff.mp hsh
    refine e_getI (k := 62) hx hb hts in_X13 hown hp h59 rfl (by decide) (by decide) rfl (hts _ kf13_615) rfl dX13_endsSelection_59 ?_
    refine lv_bipush (v := iI (114)) hx hb dX13_endsSelection_62 (by decide +kernel) ?_
    refine e_icmp_ne (tgt := 79) hx hb dX13_endsSelection_64 (by decide) (fun c64 => ?_) (fun c64 => ?_)
    · rw [if_neg c64] at hsh
      refine lv_iload_n hx hb dX13_endsSelection_79 rfl (hl.at 0 rfl) ?_
      refine lv_bipush (v := iI (62)) hx hb dX13_endsSelection_80 (by decide +kernel) ?_
      refine e_icmp_eq (tgt := 98) hx hb dX13_endsSelection_82 (by decide) (fun c82 => ?_) (fun c82 => ?_)
      · rw [if_pos c82] at hsh
        exact w13_endsSelection_b98 E hp hS (hl.sub [2, 1, 0] rfl) hsh
      · rw [if_neg c82] at hsh
        refine lv_iload_n hx hb dX13_endsSelection_85 rfl (hl.at 0 rfl) ?_
        refine lv_bipush (v := iI (60)) hx hb dX13_endsSelection_86 (by decide +kernel) ?_
        refine e_icmp_eq (tgt := 98) hx hb dX13_endsSelection_88 (by decide) (fun c88 => ?_) (fun c88 => ?_)
        · rw [if_pos c88] at hsh
          exact w13_endsSelection_b98 E hp hS (hl.sub [2, 1, 0] rfl) hsh
        · rw [if_neg c88] at hsh
          refine lv_iload_n hx hb dX13_endsSelection_91 rfl (hl.at 0 rfl) ?_
          refine lv_sipush (v := iI (614)) hx hb dX13_endsSelection_92 (by decide +kernel) ?_
          refine e_icmp_ne (tgt := 111) hx hb dX13_endsSelection_95 (by decide) (fun c95 => ?_) (fun c95 => ?_)
          · rw [if_neg c95] at hsh
            refine e_aload_n (B := B) (x := x0) hx hb dX13_endsSelection_111 rfl (hl.at 2 rfl) ?_
            obtain ⟨v112, h112, hsh⟩ := Option.bind_eq_some_iff.mp hsh
            refine e_getI (k := 35) hx hb hts in_X13 hown hp h112 rfl (by decide) (by decide) rfl (hts _ kf13_395) rfl dX13_endsSelection_112 ?_
            refine lv_iconst (v := iI (3)) hx hb dX13_endsSelection_115 rfl ?_
            refine e_icmp_ne (tgt := 129) hx hb dX13_endsSelection_116 (by decide) (fun c116 => ?_) (fun c116 => ?_)
            · rw [if_neg c116] at hsh
              refine e_aload_n (B := B) (x := x0) hx hb dX13_endsSelection_129 rfl (hl.at 2 rfl) ?_
              obtain ⟨⟨v130, S130⟩, h130, hsh⟩ := Option.bind_eq_some_iff.mp hsh
              have hsh : _ = _ := hsh
              try dsimp only at hsh
              have ok130 := ok13_isSomething h130
              refine e_callI (nL := 4) (mc := 0) (ms := 0) (T := TX13) (N := 126) (As := []) (rest := []) hx hb hml hown hts hp hS hl.size ok130.1 ok130.2.1 ok130.2.2 rfl (by decide) (c13_isSomething l D cA B S19 S130 (x0) v130 h130) rfl rfl kd13_isSomething (kl13_417) ks13_isSomething kv13_isSomething ki13 kh13_isSomething ⟨Nat.le_of_ble_eq_true rfl, Nat.le_of_ble_eq_true rfl⟩ rfl (by simp [e_rv_cat, e_int_cat]) ⟨Nat.le_refl _, Nat.le_refl _⟩ dX13_endsSelection_130 rfl (fun H locs hp hS => ?_)
              refine e_if_eq (tgt := 152) hx hb dX13_endsSelection_133 (by decide) (fun c133 => ?_) (fun c133 => ?_)
              · rw [if_pos c133] at hsh
                exact w13_endsSelection_b152 E hp hS (hl.sub [2, 1] rfl) hsh
              · rw [if_neg c133] at hsh
                exact w13_endsSelection_b136 E hp hS (hl.sub [2, 1, 0] rfl) hsh
            · rw [if_pos c116] at hsh
              refine e_aload_n (B := B) (x := x0) hx hb dX13_endsSelection_119 rfl (hl.at 2 rfl) ?_
              obtain ⟨⟨v120, S120⟩, h120, hsh⟩ := Option.bind_eq_some_iff.mp hsh
              have hsh : _ = _ := hsh
              try dsimp only at hsh
              have ok120 := ok13_hasSigns h120
              refine e_callI (nL := 4) (mc := 0) (ms := 0) (T := TX13) (N := 126) (As := []) (rest := []) hx hb hml hown hts hp hS hl.size ok120.1 ok120.2.1 ok120.2.2 rfl (by decide) (c13_hasSigns l D cA B S19 S120 (x0) v120 h120) rfl rfl kd13_hasSigns (kl13_837) ks13_hasSigns kv13_hasSigns ki13 kh13_hasSigns ⟨Nat.le_of_ble_eq_true rfl, Nat.le_of_ble_eq_true rfl⟩ rfl (by simp [e_rv_cat, e_int_cat]) ⟨Nat.le_refl _, Nat.le_refl _⟩ dX13_endsSelection_120 rfl (fun H locs hp hS => ?_)
              refine e_if_eq (tgt := 152) hx hb dX13_endsSelection_123 (by decide) (fun c123 => ?_) (fun c123 => ?_)
              · rw [if_pos c123] at hsh
                exact w13_endsSelection_b152 E hp hS (hl.sub [2, 1] rfl) hsh
              · rw [if_neg c123] at hsh
                refine lv_goto (tgt := 136) hx hb dX13_endsSelection_126 (by decide) ?_
                exact w13_endsSelection_b136 E hp hS (hl.sub [2, 1, 0] rfl) hsh
          · rw [if_pos c95] at hsh
            exact w13_endsSelection_b98 E hp hS (hl.sub [2, 1, 0] rfl) hsh
    · rw [if_pos c64] at hsh
      refine e_aload_n (B := B) (x := x0) hx hb dX13_endsSelection_67 rfl (hl.at 2 rfl) ?_
      refine e_aload_n (B := B) (x := x0) hx hb dX13_endsSelection_68 rfl (hl.at 2 rfl) ?_
      obtain ⟨v69, h69, hsh⟩ := Option.bind_eq_some_iff.mp hsh
      refine e_getI (k := 63) hx hb hts in_X13 hown hp h69 rfl (by decide) (by decide) rfl (hts _ kf13_612) rfl dX13_endsSelection_69 ?_
      obtain ⟨⟨v72, S72⟩, h72, hsh⟩ := Option.bind_eq_some_iff.mp hsh
      have hsh : _ = _ := hsh
      try dsimp only at hsh
      have ok72 := ok13_replacesSpan h72
      refine e_callI (nL := 4) (mc := 0) (ms := 0) (T := TX13) (N := 126) (As := [.int (iI (v69))]) (rest := []) hx hb hml hown hts hp hS hl.size ok72.1 ok72.2.1 ok72.2.2 rfl (by decide) (c13_replacesSpan l D cA B S19 S72 (x0) (v69) v72 h72) rfl rfl kd13_replacesSpan (kl13_855) ks13_replacesSpan kv13_replacesSpan ki13 kh13_replacesSpan ⟨Nat.le_of_ble_eq_true rfl, Nat.le_of_ble_eq_true rfl⟩ rfl (by simp [e_rv_cat, e_int_cat]) ⟨Nat.le_refl _, Nat.le_refl _⟩ dX13_endsSelection_72 rfl (fun H locs hp hS => ?_)
      refine e_istore_n (lv' := [(3, .int (iI (v72))), (2, .int (iI (v9))), (1, .int (iI (v1))), (0, e_rv B (x0))]) hx hb dX13_endsSelection_75 rfl hl (by decide) rfl (fun ls hl => ?_)
      refine lv_goto (tgt := 154) hx hb dX13_endsSelection_76 (by decide) ?_
      exact w13_endsSelection_b154 E hp hS (hl.sub [3, 2, 0] rfl) hsh
  · rw [if_pos c28] at hsh
    refine e_aload_n (B := B) (x := x0) hx hb dX13_endsSelection_31 rfl (hl.at 2 rfl) ?_
    refine e_aload_n (B := B) (x := x0) hx hb dX13_endsSelection_32 rfl (hl.at 2 rfl) ?_
    obtain ⟨v33, h33, hsh⟩ := Option.bind_eq_some_iff.mp hsh
    refine e_getI (k := 36) hx hb hts in_X13 hown hp h33 rfl (by decide) (by decide) rfl (hts _ kf13_398) rfl dX13_endsSelection_33 ?_
    refine lv_iconst (v := iI (2)) hx hb dX13_endsSelection_36 rfl ?_
    refine e_aload_n (B := B) (x := x0) hx hb dX13_endsSelection_37 rfl (hl.at 2 rfl) ?_
    obtain ⟨v38, h38, hsh⟩ := Option.bind_eq_some_iff.mp hsh
    refine e_getI (k := 38) hx hb hts in_X13 hown hp h38 rfl (by decide) (by decide) rfl (hts _ kf13_404) rfl dX13_endsSelection_38 ?_
    refine e_aload_n (B := B) (x := x0) hx hb dX13_endsSelection_41 rfl (hl.at 2 rfl) ?_
    obtain ⟨v42, h42, hsh⟩ := Option.bind_eq_some_iff.mp hsh
    refine e_getI (k := 36) hx hb hts in_X13 hown hp h42 rfl (by decide) (by decide) rfl (hts _ kf13_398) rfl dX13_endsSelection_42 ?_
    refine e_isub hx hb dX13_endsSelection_45 ?_
    refine lv_iconst (v := iI (1)) hx hb dX13_endsSelection_46 rfl ?_
    refine e_iadd hx hb dX13_endsSelection_47 ?_
    obtain ⟨⟨v48, S48⟩, h48, hsh⟩ := Option.bind_eq_some_iff.mp hsh
    have hsh : _ = _ := hsh
    try dsimp only at hsh
    refine e_callS (nL := 4) (mc := 0) (ms := 0) (As := [.int (iI (2)), .int (iI (((v38 - v42) + 1)))]) (rest := [.int (iI (v33)), e_rv B (x0)]) hx hb hml hown hts hp hS hl.size (c13_greater l D cA B S19 S48 (2) (((v38 - v42) + 1)) v48 h48) rfl rfl kd13_greater (kl13_210) ks13_greater ki13 kh13_greater ⟨Nat.le_of_ble_eq_true rfl, Nat.le_of_ble_eq_true rfl⟩ rfl (by simp [e_rv_cat, e_int_cat]) ⟨Nat.le_refl _, Nat.le_refl _⟩ dX13_endsSelection_48 rfl (fun H locs hp hS => ?_)
    obtain ⟨⟨v51, S51⟩, h51, hsh⟩ := Option.bind_eq_some_iff.mp hsh
    have hsh : _ = _ := hsh
    try dsimp only at hsh
    have ok51 := ok13_joins h51
    refine e_callI (nL := 4) (mc := 0) (ms := 0) (T := TX13) (N := 126) (As := [.int (iI (v33)), .int (iI (v48))]) (rest := []) hx hb hml hown hts hp hS hl.size ok51.1 ok51.2.1 ok51.2.2 rfl (by decide) (c13_joins l D cA B S48 S51 (x0) (v33) (v48) v51 h51) rfl rfl kd13_joins (kl13_754) ks13_joins kv13_joins ki13 kh13_joins ⟨Nat.le_of_ble_eq_true rfl, Nat.le_of_ble_eq_true rfl⟩ rfl (by simp [e_rv_cat, e_int_cat]) ⟨Nat.le_refl _, Nat.le_refl _⟩ dX13_endsSelection_51 rfl (fun H locs hp hS => ?_)
    refine e_istore_n (lv' := [(3, .int (iI (v51))), (2, .int (iI (v9))), (1, .int (iI (v1))), (0, e_rv B (x0))]) hx hb dX13_endsSelection_54 rfl hl (by decide) rfl (fun ls hl => ?_)
    refine lv_goto (tgt := 154) hx hb dX13_endsSelection_55 (by decide) ?_
    exact w13_endsSelection_b154 E hp hS (hl.sub [3, 2, 0] rfl) hsh
theorem ok13_takesLinesOf {S : HP} {x0 : Int} {x1 : Int} {x2 : Int} {r : HP} (h : s13_takesLinesOf S x0 x1 x2 = some r) : 0 ≤ x0 ∧ x0.toNat < e_n S ∧ e_g S x0.toNat = 13 := (gd_some h).1
set_option maxRecDepth 100000 in
set_option maxHeartbeats 4000000 in
theorem c13_takesLinesOf (l : Launch) (D : va_G) (cA : Nat → ClassId) (B : Nat) (S S' : HP) (x0 : Int) (x1 : Int) (x2 : Int) (hsh : s13_takesLinesOf S x0 x1 x2 = some S') : Met l yX13_takesLinesOf (e_wu yX13_takesLinesOf cX13_takesLinesOf 4 none) ({ frames := 4, cells := 0, slots := 0, locals := 94 } : Room) (va_Pc [e_rv B (x0), .int (iI (x1)), .int (iI (x2))] (fun U => e_PU D cA B S U)) (e_Qv D cA B S') 0 0 (e_A B) := by
  refine Met.ofW (cc := cX13_takesLinesOf) (maxL := 4) (ret := none) (by decide +kernel) rfl ?_
  intro p e s m args below meth c s₁ Bd hml hv
  obtain ⟨rfl, hp⟩ := hv
  have hp : e_Pic D cA B S s s.heap := hp
  have hx := Bd.exec
  have hb := Bd.bytes
  have hrt := Bd.returns
  have hlk := Bd.notSynchronized
  have hown : s.vm.findClass RX13 = some m.cls := findClass_of_methodNamed Bd.named
  have hts : ∀ w ∈ e_tb, w.before ([e_rv B (x0), .int (iI (x1)), .int (iI (x2))] : List Value).toArray s = true := fun w h => atoms_spec (ws := (e_wu yX13_takesLinesOf cX13_takesLinesOf 4 none)) Bd.pre w (List.mem_cons_of_mem _ h)
  have E : e_En p s m ([e_rv B (x0), .int (iI (x1)), .int (iI (x2))] : List Value).toArray meth c cX13_takesLinesOf RX13 4 none := ⟨hx, hb, hml, hown, hts, hlk, hrt⟩
  have hS : va_S (e_A B) s.heap s.heap [] := va_S.rf
  have hl := e_entry (vs := [e_rv B (x0), .int (iI (x1)), .int (iI (x2))]) (n := 4) (Nat.le_of_ble_eq_true rfl) (e_cc (e_rv_cat _ _) (e_cc rfl (e_cc rfl e_cn)))
  rw [lg_entry_eq]
  generalize (lg_sl [e_rv B (x0), .int (iI (x1)), .int (iI (x2))] ++ List.replicate (4 - (lg_sl [e_rv B (x0), .int (iI (x1)), .int (iI (x2))]).length) Slot.unset).toArray = ls at hl ⊢
  generalize ([e_rv B (x0), .int (iI (x1)), .int (iI (x2))] : List Value).toArray = args at hts E ⊢
  have hl : e_lo ls 4 [(0, e_rv B (x0)), (1, .int (iI (x1))), (2, .int (iI (x2)))] := hl
  have hsh := (gd_some hsh).2
  refine e_aload_n (B := B) (x := x0) hx hb dX13_takesLinesOf_0 rfl (hl.at 0 rfl) ?_
  obtain ⟨v1, h1, hsh⟩ := Option.bind_eq_some_iff.mp hsh
  refine e_getI (k := 2) hx hb hts in_X13 hown hp h1 rfl (by decide) (by decide) rfl (hts _ kf13_13) rfl dX13_takesLinesOf_1 ?_
  refine e_istore_n (lv' := [(3, .int (iI (v1))), (0, e_rv B (x0)), (1, .int (iI (x1))), (2, .int (iI (x2)))]) hx hb dX13_takesLinesOf_4 rfl hl (by decide) rfl (fun ls hl => ?_)
  refine e_aload_n (B := B) (x := x0) hx hb dX13_takesLinesOf_5 rfl (hl.at 1 rfl) ?_
  refine lv_iload_n hx hb dX13_takesLinesOf_6 rfl (hl.at 2 rfl) ?_
  refine lv_iload_n hx hb dX13_takesLinesOf_7 rfl (hl.at 3 rfl) ?_
  obtain ⟨S8, h8, hsh⟩ := Option.bind_eq_some_iff.mp hsh
  have ok8 := ok13_takesLines h8
  refine e_callV (nL := 4) (mc := 0) (ms := 0) (T := TX13) (N := 126) (As := [.int (iI (x1)), .int (iI (x2))]) (rest := []) hx hb hml hown hts hp hS hl.size ok8.1 ok8.2.1 ok8.2.2 rfl (by decide) (c13_takesLines l D cA B S S8 (x0) (x1) (x2) h8) rfl rfl kd13_takesLines (kl13_272) ks13_takesLines kv13_takesLines ki13 kh13_takesLines ⟨Nat.le_of_ble_eq_true rfl, Nat.le_of_ble_eq_true rfl⟩ rfl (by simp [e_rv_cat, e_int_cat]) ⟨Nat.le_refl _, Nat.le_refl _⟩ dX13_takesLinesOf_8 rfl (fun H locs hp hS => ?_)
  refine e_aload_n (B := B) (x := x0) hx hb dX13_takesLinesOf_11 rfl (hl.at 1 rfl) ?_
  refine lv_iload_n hx hb dX13_takesLinesOf_12 rfl (hl.at 0 rfl) ?_
  refine lv_iload_n hx hb dX13_takesLinesOf_13 rfl (hl.at 3 rfl) ?_
  refine lv_iload_n hx hb dX13_takesLinesOf_14 rfl (hl.at 2 rfl) ?_
  refine e_isub hx hb dX13_takesLinesOf_15 ?_
  refine lv_iconst (v := iI (1)) hx hb dX13_takesLinesOf_16 rfl ?_
  refine e_iadd hx hb dX13_takesLinesOf_17 ?_
  refine e_isub hx hb dX13_takesLinesOf_18 ?_
  obtain ⟨S19, h19, hsh⟩ := Option.bind_eq_some_iff.mp hsh
  refine e_putI (k := 2) hx hb hts in_X13 tyX13 tyX13_ok nmX13 hown hp hS h19 rfl (by decide) (by decide) rfl (hts _ kf13_13) rfl rfl (by decide +kernel) dX13_takesLinesOf_19 (fun H locs hp hS => ?_)
  cases hsh
  exact e_vret hx hb hrt hlk hp hS dX13_takesLinesOf_22
theorem ok13_sorts {S : HP} {x0 : Int} {r : Int × HP} (h : s13_sorts S x0 = some r) : 0 ≤ x0 ∧ x0.toNat < e_n S ∧ e_g S x0.toNat = 13 := (gd_some h).1
set_option maxRecDepth 100000 in
set_option maxHeartbeats 4000000 in
theorem w13_sorts_b163 {p : Program} {l : Launch} {e : Env} {s : State} {m : MethodId} {args : Array Value} {below : List Frame} {meth : Method} {c : Code} {D : va_G} {cA : Nat → ClassId} {B : Nat} {res : Int × HP} (E : e_En p s m args meth c cX13_sorts RX13 6 (some .boolean)) {ls : Array Slot} {H : Heap} {locs : List Loc} {S : HP} {x0 : Int} (hp : e_Pic D cA B S s H) (hS : va_S (e_A B) s.heap H locs) (hl : e_lo ls 6 [(0, e_rv B (x0))]) (hsh : s13_sorts_b163 S x0 = some res) : W p l e ({ frames := 5, cells := 0, slots := 0, locals := 117 } : Room) s m args below meth c H locs 0 0 (MQ below (e_Qi D cA B res.1 res.2) args s 0 0 (e_A B)) (F0 m 163 ls []) := by
  obtain ⟨hx, hb, hml, hown, hts, hlk, hrt⟩ := id E
  unfold s13_sorts_b163 at hsh
  refine e_aload_n (B := B) (x := x0) hx hb dX13_sorts_163 rfl (hl.at 0 rfl) ?_
  refine e_aload_n (B := B) (x := x0) hx hb dX13_sorts_164 rfl (hl.at 0 rfl) ?_
  obtain ⟨v165, h165, hsh⟩ := Option.bind_eq_some_iff.mp hsh
  refine e_getI (k := 109) hx hb hts in_X13 hown hp h165 rfl (by decide) (by decide) rfl (hts _ kf13_873) rfl dX13_sorts_165 ?_
  obtain ⟨S168, h168, hsh⟩ := Option.bind_eq_some_iff.mp hsh
  have ok168 := ok13_goesTo h168
  refine e_callV (nL := 6) (mc := 0) (ms := 0) (T := TX13) (N := 126) (As := [.int (iI (v165))]) (rest := []) hx hb hml hown hts hp hS hl.size ok168.1 ok168.2.1 ok168.2.2 rfl (by decide) (c13_goesTo l D cA B S S168 (x0) (v165) h168) rfl rfl kd13_goesTo (kl13_507) ks13_goesTo kv13_goesTo ki13 kh13_goesTo ⟨Nat.le_of_ble_eq_true rfl, Nat.le_of_ble_eq_true rfl⟩ rfl (by simp [e_rv_cat, e_int_cat]) ⟨Nat.le_refl _, Nat.le_refl _⟩ dX13_sorts_168 rfl (fun H locs hp hS => ?_)
  refine lv_iconst (v := iI (1)) hx hb dX13_sorts_171 rfl ?_
  obtain ⟨hz, hz1, hz2⟩ := zR_some hsh
  rw [← hz1, ← hz2]
  exact e_zret hx hb hrt hlk hp hS hz dX13_sorts_172
set_option maxRecDepth 100000 in
set_option maxHeartbeats 4000000 in
theorem w13_sorts_l136 {p : Program} {l : Launch} {e : Env} {s : State} {m : MethodId} {args : Array Value} {below : List Frame} {meth : Method} {c : Code} {D : va_G} {cA : Nat → ClassId} {B : Nat} {res : Int × HP} (E : e_En p s m args meth c cX13_sorts RX13 6 (some .boolean)) : ∀ (f : Nat) {ls : Array Slot} {H : Heap} {locs : List Loc} {S : HP} {x0 : Int} {x1 : Int} {x3 : Int} (hp : e_Pic D cA B S s H) (hS : va_S (e_A B) s.heap H locs) (hl : e_lo ls 6 [(0, e_rv B (x0)), (1, .int (iI (x1))), (3, .int (iI (x3)))]) (hsh : s13_sorts_l136 f S x0 x1 x3 = some res), W p l e ({ frames := 5, cells := 0, slots := 0, locals := 117 } : Room) s m args below meth c H locs 0 0 (MQ below (e_Qi D cA B res.1 res.2) args s 0 0 (e_A B)) (F0 m 136 ls []) := by
  obtain ⟨hx, hb, hml, hown, hts, hlk, hrt⟩ := id E
  intro f
  induction f with
  | zero => intro ls H locs S x0 x1 x3 hp hS hl hsh; cases hsh
  | succ f ih =>
    intro ls H locs S x0 x1 x3 hp hS hl hsh
    have hk136 : ∀ {ls : Array Slot} {H : Heap} {locs : List Loc} {S : HP} {x0 : Int} {x1 : Int} {x3 : Int} (hp : e_Pic D cA B S s H) (hS : va_S (e_A B) s.heap H locs) (hl : e_lo ls 6 [(0, e_rv B (x0)), (1, .int (iI (x1))), (3, .int (iI (x3)))]) (hsh : (s13_sorts_l136 f) S x0 x1 x3 = some res), W p l e ({ frames := 5, cells := 0, slots := 0, locals := 117 } : Room) s m args below meth c H locs 0 0 (MQ below (e_Qi D cA B res.1 res.2) args s 0 0 (e_A B)) (F0 m 136 ls []) := ih
    generalize hkk : s13_sorts_l136 f = k136 at hk136
    rw [s13_sorts_l136] at hsh
    rw [hkk] at hsh
    try dsimp only at hsh
    refine lv_iload_n hx hb dX13_sorts_136 rfl (hl.at 2 rfl) ?_
    refine lv_iload_n hx hb dX13_sorts_137 rfl (hl.at 1 rfl) ?_
    refine e_icmp_ge (tgt := 163) hx hb dX13_sorts_138 (by decide) (fun c138 => ?_) (fun c138 => ?_)
    · rw [if_pos c138] at hsh
      exact w13_sorts_b163 E hp hS (hl.sub [0] rfl) hsh
    · rw [if_neg c138] at hsh
      refine e_aload_n (B := B) (x := x0) hx hb dX13_sorts_141 rfl (hl.at 0 rfl) ?_
      refine e_aload_n (B := B) (x := x0) hx hb dX13_sorts_142 rfl (hl.at 0 rfl) ?_
      obtain ⟨v143, h143, hsh⟩ := Option.bind_eq_some_iff.mp hsh
      refine e_getI (k := 108) hx hb hts in_X13 hown hp h143 rfl (by decide) (by decide) rfl (hts _ kf13_870) rfl dX13_sorts_143 ?_
      refine lv_iload_n hx hb dX13_sorts_146 rfl (hl.at 2 rfl) ?_
      refine e_iadd hx hb dX13_sorts_147 ?_
      refine e_aload_n (B := B) (x := x0) hx hb dX13_sorts_148 rfl (hl.at 0 rfl) ?_
      obtain ⟨v149, h149, hsh⟩ := Option.bind_eq_some_iff.mp hsh
      refine e_getR (k := 112) hx hb hts in_X13 hown hp h149 rfl (by decide) (by decide) rfl (hts _ kf13_163) rfl dX13_sorts_149 ?_
      refine lv_iload_n hx hb dX13_sorts_152 rfl (hl.at 2 rfl) ?_
      obtain ⟨v153, h153, hsh⟩ := Option.bind_eq_some_iff.mp hsh
      refine e_iald hx hb hp h153 dX13_sorts_153 ?_
      obtain ⟨S154, h154, hsh⟩ := Option.bind_eq_some_iff.mp hsh
      have ok154 := ok13_laysLine h154
      refine e_callV (nL := 6) (mc := 0) (ms := 0) (T := TX13) (N := 126) (As := [.int (iI ((v143 + x3))), .int (iI (v153))]) (rest := []) hx hb hml hown hts hp hS hl.size ok154.1 ok154.2.1 ok154.2.2 rfl (by decide) (c13_laysLine l D cA B S S154 (x0) ((v143 + x3)) (v153) h154) rfl rfl kd13_laysLine (kl13_889) ks13_laysLine kv13_laysLine ki13 kh13_laysLine ⟨Nat.le_of_ble_eq_true rfl, Nat.le_of_ble_eq_true rfl⟩ rfl (by simp [e_rv_cat, e_int_cat]) ⟨Nat.le_refl _, Nat.le_refl _⟩ dX13_sorts_154 rfl (fun H locs hp hS => ?_)
      refine e_iinc (n := 1) (x := x3) (lv' := [(3, .int (iI ((x3 + 1)))), (0, e_rv B (x0)), (1, .int (iI (x1)))]) hx hb dX13_sorts_157 hl (k := 2) rfl (by decide) rfl (fun ls hl => ?_)
      refine lv_goto (tgt := 136) hx hb dX13_sorts_160 (by decide) ?_
      exact hk136 hp hS (hl.sub [1, 2, 0] rfl) hsh
set_option maxRecDepth 100000 in
set_option maxHeartbeats 4000000 in
theorem w13_sorts_b102 {p : Program} {l : Launch} {e : Env} {s : State} {m : MethodId} {args : Array Value} {below : List Frame} {meth : Method} {c : Code} {D : va_G} {cA : Nat → ClassId} {B : Nat} {res : Int × HP} {k20 : HP → Int → Int → Int → Int → Option (Int × HP)} (hk20 : ∀ {ls : Array Slot} {H : Heap} {locs : List Loc} {S : HP} {x0 : Int} {x1 : Int} {x2 : Int} {x3 : Int} (hp : e_Pic D cA B S s H) (hS : va_S (e_A B) s.heap H locs) (hl : e_lo ls 6 [(0, e_rv B (x0)), (1, .int (iI (x1))), (2, .int (iI (x2))), (3, .int (iI (x3)))]) (hsh : k20 S x0 x1 x2 x3 = some res), W p l e ({ frames := 5, cells := 0, slots := 0, locals := 117 } : Room) s m args below meth c H locs 0 0 (MQ below (e_Qi D cA B res.1 res.2) args s 0 0 (e_A B)) (F0 m 20 ls [])) (E : e_En p s m args meth c cX13_sorts RX13 6 (some .boolean)) {ls : Array Slot} {H : Heap} {locs : List Loc} {S : HP} {x0 : Int} {x1 : Int} {x3 : Int} {y0 : Int} (hp : e_Pic D cA B S s H) (hS : va_S (e_A B) s.heap H locs) (hl : e_lo ls 6 [(0, e_rv B (x0)), (1, .int (iI (x1))), (3, .int (iI (x3)))]) (hsh : s13_sorts_b102 k20 S x0 x1 x3 y0 = some res) : W p l e ({ frames := 5, cells := 0, slots := 0, locals := 117 } : Room) s m args below meth c H locs 0 0 (MQ below (e_Qi D cA B res.1 res.2) args s 0 0 (e_A B)) (F0 m 102 ls [.int (iI (y0))]) := by
  obtain ⟨hx, hb, hml, hown, hts, hlk, hrt⟩ := id E
  unfold s13_sorts_b102 at hsh
  refine e_istore_n (lv' := [(2, .int (iI (y0))), (0, e_rv B (x0)), (1, .int (iI (x1))), (3, .int (iI (x3)))]) hx hb dX13_sorts_102 rfl hl (by decide) rfl (fun ls hl => ?_)
  refine e_iinc (n := 1) (x := x3) (lv' := [(3, .int (iI ((x3 + 1)))), (2, .int (iI (y0))), (0, e_rv B (x0)), (1, .int (iI (x1)))]) hx hb dX13_sorts_103 hl (k := 3) rfl (by decide) rfl (fun ls hl => ?_)
  refine lv_goto (tgt := 20) hx hb dX13_sorts_106 (by decide) ?_
  exact hk20 hp hS (hl.sub [2, 3, 1, 0] rfl) hsh
set_option maxRecDepth 100000 in
set_option maxHeartbeats 4000000 in
theorem w13_sorts_b97 {p : Program} {l : Launch} {e : Env} {s : State} {m : MethodId} {args : Array Value} {below : List Frame} {meth : Method} {c : Code} {D : va_G} {cA : Nat → ClassId} {B : Nat} {res : Int × HP} {k20 : HP → Int → Int → Int → Int → Option (Int × HP)} (hk20 : ∀ {ls : Array Slot} {H : Heap} {locs : List Loc} {S : HP} {x0 : Int} {x1 : Int} {x2 : Int} {x3 : Int} (hp : e_Pic D cA B S s H) (hS : va_S (e_A B) s.heap H locs) (hl : e_lo ls 6 [(0, e_rv B (x0)), (1, .int (iI (x1))), (2, .int (iI (x2))), (3, .int (iI (x3)))]) (hsh : k20 S x0 x1 x2 x3 = some res), W p l e ({ frames := 5, cells := 0, slots := 0, locals := 117 } : Room) s m args below meth c H locs 0 0 (MQ below (e_Qi D cA B res.1 res.2) args s 0 0 (e_A B)) (F0 m 20 ls [])) (E : e_En p s m args meth c cX13_sorts RX13 6 (some .boolean)) {ls : Array Slot} {H : Heap} {locs : List Loc} {S : HP} {x0 : Int} {x1 : Int} {x3 : Int} (hp : e_Pic D cA B S s H) (hS : va_S (e_A B) s.heap H locs) (hl : e_lo ls 6 [(0, e_rv B (x0)), (1, .int (iI (x1))), (3, .int (iI (x3)))]) (hsh : s13_sorts_b97 k20 S x0 x1 x3 = some res) : W p l e ({ frames := 5, cells := 0, slots := 0, locals := 117 } : Room) s m args below meth c H locs 0 0 (MQ below (e_Qi D cA B res.1 res.2) args s 0 0 (e_A B)) (F0 m 97 ls []) := by
  obtain ⟨hx, hb, hml, hown, hts, hlk, hrt⟩ := id E
  unfold s13_sorts_b97 at hsh
  refine lv_iconst (v := iI (1)) hx hb dX13_sorts_97 rfl ?_
  refine lv_goto (tgt := 102) hx hb dX13_sorts_98 (by decide) ?_
  exact w13_sorts_b102 (hk20 := hk20) E hp hS (hl.sub [0, 1, 2] rfl) hsh
set_option maxRecDepth 100000 in
set_option maxHeartbeats 4000000 in
theorem w13_sorts_b70 {p : Program} {l : Launch} {e : Env} {s : State} {m : MethodId} {args : Array Value} {below : List Frame} {meth : Method} {c : Code} {D : va_G} {cA : Nat → ClassId} {B : Nat} {res : Int × HP} {k20 : HP → Int → Int → Int → Int → Option (Int × HP)} (hk20 : ∀ {ls : Array Slot} {H : Heap} {locs : List Loc} {S : HP} {x0 : Int} {x1 : Int} {x2 : Int} {x3 : Int} (hp : e_Pic D cA B S s H) (hS : va_S (e_A B) s.heap H locs) (hl : e_lo ls 6 [(0, e_rv B (x0)), (1, .int (iI (x1))), (2, .int (iI (x2))), (3, .int (iI (x3)))]) (hsh : k20 S x0 x1 x2 x3 = some res), W p l e ({ frames := 5, cells := 0, slots := 0, locals := 117 } : Room) s m args below meth c H locs 0 0 (MQ below (e_Qi D cA B res.1 res.2) args s 0 0 (e_A B)) (F0 m 20 ls [])) {k31 : HP → Int → Int → Int → Int → Int → Int → Option (Int × HP)} (hk31 : ∀ {ls : Array Slot} {H : Heap} {locs : List Loc} {S : HP} {x0 : Int} {x1 : Int} {x2 : Int} {x3 : Int} {x4 : Int} {x5 : Int} (hp : e_Pic D cA B S s H) (hS : va_S (e_A B) s.heap H locs) (hl : e_lo ls 6 [(0, e_rv B (x0)), (1, .int (iI (x1))), (2, .int (iI (x2))), (3, .int (iI (x3))), (4, .int (iI (x4))), (5, .int (iI (x5)))]) (hsh : k31 S x0 x1 x2 x3 x4 x5 = some res), W p l e ({ frames := 5, cells := 0, slots := 0, locals := 117 } : Room) s m args below meth c H locs 0 0 (MQ below (e_Qi D cA B res.1 res.2) args s 0 0 (e_A B)) (F0 m 31 ls [])) (E : e_En p s m args meth c cX13_sorts RX13 6 (some .boolean)) {ls : Array Slot} {H : Heap} {locs : List Loc} {S : HP} {x0 : Int} {x1 : Int} {x2 : Int} {x3 : Int} {x5 : Int} {y0 : Int} {y1 : Int} (hp : e_Pic D cA B S s H) (hS : va_S (e_A B) s.heap H locs) (hl : e_lo ls 6 [(0, e_rv B (x0)), (1, .int (iI (x1))), (2, .int (iI (x2))), (3, .int (iI (x3))), (5, .int (iI (x5)))]) (hsh : s13_sorts_b70 k20 k31 S x0 x1 x2 x3 x5 y0 y1 = some res) : W p l e ({ frames := 5, cells := 0, slots := 0, locals := 117 } : Room) s m args below meth c H locs 0 0 (MQ below (e_Qi D cA B res.1 res.2) args s 0 0 (e_A B)) (F0 m 70 ls [.int (iI (y1)), .int (iI (y0))]) := by
  obtain ⟨hx, hb, hml, hown, hts, hlk, hrt⟩ := id E
  unfold s13_sorts_b70 at hsh
  refine e_iadd hx hb dX13_sorts_70 ?_
  refine e_istore (lv' := [(4, .int (iI ((y0 + y1)))), (0, e_rv B (x0)), (1, .int (iI (x1))), (2, .int (iI (x2))), (3, .int (iI (x3))), (5, .int (iI (x5)))]) hx hb dX13_sorts_71 hl (by decide) rfl (fun ls hl => ?_)
  refine e_iinc (n := 1) (x := x5) (lv' := [(5, .int (iI ((x5 + 1)))), (4, .int (iI ((y0 + y1)))), (0, e_rv B (x0)), (1, .int (iI (x1))), (2, .int (iI (x2))), (3, .int (iI (x3)))]) hx hb dX13_sorts_73 hl (k := 5) rfl (by decide) rfl (fun ls hl => ?_)
  refine lv_goto (tgt := 31) hx hb dX13_sorts_76 (by decide) ?_
  exact hk31 hp hS (hl.sub [2, 3, 4, 5, 1, 0] rfl) hsh
set_option maxRecDepth 100000 in
set_option maxHeartbeats 4000000 in
theorem w13_sorts_b65 {p : Program} {l : Launch} {e : Env} {s : State} {m : MethodId} {args : Array Value} {below : List Frame} {meth : Method} {c : Code} {D : va_G} {cA : Nat → ClassId} {B : Nat} {res : Int × HP} {k20 : HP → Int → Int → Int → Int → Option (Int × HP)} (hk20 : ∀ {ls : Array Slot} {H : Heap} {locs : List Loc} {S : HP} {x0 : Int} {x1 : Int} {x2 : Int} {x3 : Int} (hp : e_Pic D cA B S s H) (hS : va_S (e_A B) s.heap H locs) (hl : e_lo ls 6 [(0, e_rv B (x0)), (1, .int (iI (x1))), (2, .int (iI (x2))), (3, .int (iI (x3)))]) (hsh : k20 S x0 x1 x2 x3 = some res), W p l e ({ frames := 5, cells := 0, slots := 0, locals := 117 } : Room) s m args below meth c H locs 0 0 (MQ below (e_Qi D cA B res.1 res.2) args s 0 0 (e_A B)) (F0 m 20 ls [])) {k31 : HP → Int → Int → Int → Int → Int → Int → Option (Int × HP)} (hk31 : ∀ {ls : Array Slot} {H : Heap} {locs : List Loc} {S : HP} {x0 : Int} {x1 : Int} {x2 : Int} {x3 : Int} {x4 : Int} {x5 : Int} (hp : e_Pic D cA B S s H) (hS : va_S (e_A B) s.heap H locs) (hl : e_lo ls 6 [(0, e_rv B (x0)), (1, .int (iI (x1))), (2, .int (iI (x2))), (3, .int (iI (x3))), (4, .int (iI (x4))), (5, .int (iI (x5)))]) (hsh : k31 S x0 x1 x2 x3 x4 x5 = some res), W p l e ({ frames := 5, cells := 0, slots := 0, locals := 117 } : Room) s m args below meth c H locs 0 0 (MQ below (e_Qi D cA B res.1 res.2) args s 0 0 (e_A B)) (F0 m 31 ls [])) (E : e_En p s m args meth c cX13_sorts RX13 6 (some .boolean)) {ls : Array Slot} {H : Heap} {locs : List Loc} {S : HP} {x0 : Int} {x1 : Int} {x2 : Int} {x3 : Int} {x5 : Int} {y0 : Int} (hp : e_Pic D cA B S s H) (hS : va_S (e_A B) s.heap H locs) (hl : e_lo ls 6 [(0, e_rv B (x0)), (1, .int (iI (x1))), (2, .int (iI (x2))), (3, .int (iI (x3))), (5, .int (iI (x5)))]) (hsh : s13_sorts_b65 k20 k31 S x0 x1 x2 x3 x5 y0 = some res) : W p l e ({ frames := 5, cells := 0, slots := 0, locals := 117 } : Room) s m args below meth c H locs 0 0 (MQ below (e_Qi D cA B res.1 res.2) args s 0 0 (e_A B)) (F0 m 65 ls [.int (iI (y0))]) := by
  obtain ⟨hx, hb, hml, hown, hts, hlk, hrt⟩ := id E
  unfold s13_sorts_b65 at hsh
  refine lv_iconst (v := iI (1)) hx hb dX13_sorts_65 rfl ?_
  refine lv_goto (tgt := 70) hx hb dX13_sorts_66 (by decide) ?_
  exact w13_sorts_b70 (hk20 := hk20) (hk31 := hk31) E hp hS (hl.sub [0, 1, 2, 3, 4] rfl) hsh
set_option maxRecDepth 100000 in
set_option maxHeartbeats 4000000 in
theorem w13_sorts_b69 {p : Program} {l : Launch} {e : Env} {s : State} {m : MethodId} {args : Array Value} {below : List Frame} {meth : Method} {c : Code} {D : va_G} {cA : Nat → ClassId} {B : Nat} {res : Int × HP} {k20 : HP → Int → Int → Int → Int → Option (Int × HP)} (hk20 : ∀ {ls : Array Slot} {H : Heap} {locs : List Loc} {S : HP} {x0 : Int} {x1 : Int} {x2 : Int} {x3 : Int} (hp : e_Pic D cA B S s H) (hS : va_S (e_A B) s.heap H locs) (hl : e_lo ls 6 [(0, e_rv B (x0)), (1, .int (iI (x1))), (2, .int (iI (x2))), (3, .int (iI (x3)))]) (hsh : k20 S x0 x1 x2 x3 = some res), W p l e ({ frames := 5, cells := 0, slots := 0, locals := 117 } : Room) s m args below meth c H locs 0 0 (MQ below (e_Qi D cA B res.1 res.2) args s 0 0 (e_A B)) (F0 m 20 ls [])) {k31 : HP → Int → Int → Int → Int → Int → Int → Option (Int × HP)} (hk31 : ∀ {ls : Array Slot} {H : Heap} {locs : List Loc} {S : HP} {x0 : Int} {x1 : Int} {x2 : Int} {x3 : Int} {x4 : Int} {x5 : Int} (hp : e_Pic D cA B S s H) (hS : va_S (e_A B) s.heap H locs) (hl : e_lo ls 6 [(0, e_rv B (x0)), (1, .int (iI (x1))), (2, .int (iI (x2))), (3, .int (iI (x3))), (4, .int (iI (x4))), (5, .int (iI (x5)))]) (hsh : k31 S x0 x1 x2 x3 x4 x5 = some res), W p l e ({ frames := 5, cells := 0, slots := 0, locals := 117 } : Room) s m args below meth c H locs 0 0 (MQ below (e_Qi D cA B res.1 res.2) args s 0 0 (e_A B)) (F0 m 31 ls [])) (E : e_En p s m args meth c cX13_sorts RX13 6 (some .boolean)) {ls : Array Slot} {H : Heap} {locs : List Loc} {S : HP} {x0 : Int} {x1 : Int} {x2 : Int} {x3 : Int} {x5 : Int} {y0 : Int} (hp : e_Pic D cA B S s H) (hS : va_S (e_A B) s.heap H locs) (hl : e_lo ls 6 [(0, e_rv B (x0)), (1, .int (iI (x1))), (2, .int (iI (x2))), (3, .int (iI (x3))), (5, .int (iI (x5)))]) (hsh : s13_sorts_b69 k20 k31 S x0 x1 x2 x3 x5 y0 = some res) : W p l e ({ frames := 5, cells := 0, slots := 0, locals := 117 } : Room) s m args below meth c H locs 0 0 (MQ below (e_Qi D cA B res.1 res.2) args s 0 0 (e_A B)) (F0 m 69 ls [.int (iI (y0))]) := by
  obtain ⟨hx, hb, hml, hown, hts, hlk, hrt⟩ := id E
  unfold s13_sorts_b69 at hsh
  refine lv_iconst (v := iI (0)) hx hb dX13_sorts_69 rfl ?_
  exact w13_sorts_b70 (hk20 := hk20) (hk31 := hk31) E hp hS (hl.sub [0, 1, 2, 3, 4] rfl) hsh
set_option maxRecDepth 100000 in
set_option maxHeartbeats 4000000 in
theorem w13_sorts_l31 {p : Program} {l : Launch} {e : Env} {s : State} {m : MethodId} {args : Array Value} {below : List Frame} {meth : Method} {c : Code} {D : va_G} {cA : Nat → ClassId} {B : Nat} {res : Int × HP} {k20 : HP → Int → Int → Int → Int → Option (Int × HP)} (hk20 : ∀ {ls : Array Slot} {H : Heap} {locs : List Loc} {S : HP} {x0 : Int} {x1 : Int} {x2 : Int} {x3 : Int} (hp : e_Pic D cA B S s H) (hS : va_S (e_A B) s.heap H locs) (hl : e_lo ls 6 [(0, e_rv B (x0)), (1, .int (iI (x1))), (2, .int (iI (x2))), (3, .int (iI (x3)))]) (hsh : k20 S x0 x1 x2 x3 = some res), W p l e ({ frames := 5, cells := 0, slots := 0, locals := 117 } : Room) s m args below meth c H locs 0 0 (MQ below (e_Qi D cA B res.1 res.2) args s 0 0 (e_A B)) (F0 m 20 ls [])) (E : e_En p s m args meth c cX13_sorts RX13 6 (some .boolean)) : ∀ (f : Nat) {ls : Array Slot} {H : Heap} {locs : List Loc} {S : HP} {x0 : Int} {x1 : Int} {x2 : Int} {x3 : Int} {x4 : Int} {x5 : Int} (hp : e_Pic D cA B S s H) (hS : va_S (e_A B) s.heap H locs) (hl : e_lo ls 6 [(0, e_rv B (x0)), (1, .int (iI (x1))), (2, .int (iI (x2))), (3, .int (iI (x3))), (4, .int (iI (x4))), (5, .int (iI (x5)))]) (hsh : s13_sorts_l31 k20 f S x0 x1 x2 x3 x4 x5 = some res), W p l e ({ frames := 5, cells := 0, slots := 0, locals := 117 } : Room) s m args below meth c H locs 0 0 (MQ below (e_Qi D cA B res.1 res.2) args s 0 0 (e_A B)) (F0 m 31 ls []) := by
  obtain ⟨hx, hb, hml, hown, hts, hlk, hrt⟩ := id E
  intro f
  induction f with
  | zero => intro ls H locs S x0 x1 x2 x3 x4 x5 hp hS hl hsh; cases hsh
  | succ f ih =>
    intro ls H locs S x0 x1 x2 x3 x4 x5 hp hS hl hsh
    have hk31 : ∀ {ls : Array Slot} {H : Heap} {locs : List Loc} {S : HP} {x0 : Int} {x1 : Int} {x2 : Int} {x3 : Int} {x4 : Int} {x5 : Int} (hp : e_Pic D cA B S s H) (hS : va_S (e_A B) s.heap H locs) (hl : e_lo ls 6 [(0, e_rv B (x0)), (1, .int (iI (x1))), (2, .int (iI (x2))), (3, .int (iI (x3))), (4, .int (iI (x4))), (5, .int (iI (x5)))]) (hsh : (s13_sorts_l31 k20 f) S x0 x1 x2 x3 x4 x5 = some res), W p l e ({ frames := 5, cells := 0, slots := 0, locals := 117 } : Room) s m args below meth c H locs 0 0 (MQ below (e_Qi D cA B res.1 res.2) args s 0 0 (e_A B)) (F0 m 31 ls []) := ih
    generalize hkk : s13_sorts_l31 k20 f = k31 at hk31
    rw [s13_sorts_l31] at hsh
    rw [hkk] at hsh
    try dsimp only at hsh
    refine lv_iload hx hb dX13_sorts_31 (hl.at 5 rfl) ?_
    refine lv_iload_n hx hb dX13_sorts_33 rfl (hl.at 1 rfl) ?_
    refine e_icmp_ge (tgt := 79) hx hb dX13_sorts_34 (by decide) (fun c34 => ?_) (fun c34 => ?_)
    · rw [if_pos c34] at hsh
      refine e_aload_n (B := B) (x := x0) hx hb dX13_sorts_79 rfl (hl.at 0 rfl) ?_
      obtain ⟨v80, h80, hsh⟩ := Option.bind_eq_some_iff.mp hsh
      refine e_getR (k := 112) hx hb hts in_X13 hown hp h80 rfl (by decide) (by decide) rfl (hts _ kf13_163) rfl dX13_sorts_80 ?_
      refine lv_iload hx hb dX13_sorts_83 (hl.at 4 rfl) ?_
      refine lv_iload_n hx hb dX13_sorts_85 rfl (hl.at 3 rfl) ?_
      obtain ⟨S86, h86, hsh⟩ := Option.bind_eq_some_iff.mp hsh
      refine e_iast hx hb hp hS h86 dX13_sorts_86 (fun H locs hp hS => ?_)
      refine lv_iload_n hx hb dX13_sorts_87 rfl (hl.at 2 rfl) ?_
      refine e_if_ne (tgt := 97) hx hb dX13_sorts_88 (by decide) (fun c88 => ?_) (fun c88 => ?_)
      · rw [if_neg c88] at hsh
        exact w13_sorts_b97 (hk20 := hk20) E hp hS (hl.sub [0, 1, 3] rfl) hsh
      · rw [if_pos c88] at hsh
        refine lv_iload hx hb dX13_sorts_91 (hl.at 4 rfl) ?_
        refine lv_iload_n hx hb dX13_sorts_93 rfl (hl.at 3 rfl) ?_
        refine e_icmp_eq (tgt := 101) hx hb dX13_sorts_94 (by decide) (fun c94 => ?_) (fun c94 => ?_)
        · rw [if_pos c94] at hsh
          refine lv_iconst (v := iI (0)) hx hb dX13_sorts_101 rfl ?_
          exact w13_sorts_b102 (hk20 := hk20) E hp hS (hl.sub [0, 1, 3] rfl) hsh
        · rw [if_neg c94] at hsh
          exact w13_sorts_b97 (hk20 := hk20) E hp hS (hl.sub [0, 1, 3] rfl) hsh
    · rw [if_neg c34] at hsh
      refine lv_iload hx hb dX13_sorts_37 (hl.at 4 rfl) ?_
      refine e_aload_n (B := B) (x := x0) hx hb dX13_sorts_39 rfl (hl.at 0 rfl) ?_
      refine lv_iload hx hb dX13_sorts_40 (hl.at 5 rfl) ?_
      refine lv_iload_n hx hb dX13_sorts_42 rfl (hl.at 3 rfl) ?_
      obtain ⟨⟨v43, S43⟩, h43, hsh⟩ := Option.bind_eq_some_iff.mp hsh
      have hsh : _ = _ := hsh
      try dsimp only at hsh
      have ok43 := ok13_isLess h43
      refine e_callI (nL := 6) (mc := 0) (ms := 0) (T := TX13) (N := 126) (As := [.int (iI (x5)), .int (iI (x3))]) (rest := [.int (iI (x4))]) hx hb hml hown hts hp hS hl.size ok43.1 ok43.2.1 ok43.2.2 rfl (by decide) (c13_isLess l D cA B S S43 (x0) (x5) (x3) v43 h43) rfl rfl kd13_isLess (kl13_892) ks13_isLess kv13_isLess ki13 kh13_isLess ⟨Nat.le_of_ble_eq_true rfl, Nat.le_of_ble_eq_true rfl⟩ rfl (by simp [e_rv_cat, e_int_cat]) ⟨Nat.le_refl _, Nat.le_refl _⟩ dX13_sorts_43 rfl (fun H locs hp hS => ?_)
      refine e_if_ne (tgt := 65) hx hb dX13_sorts_46 (by decide) (fun c46 => ?_) (fun c46 => ?_)
      · rw [if_neg c46] at hsh
        exact w13_sorts_b65 (hk20 := hk20) (hk31 := hk31) E hp hS (hl.sub [0, 1, 2, 3, 5] rfl) hsh
      · rw [if_pos c46] at hsh
        refine lv_iload hx hb dX13_sorts_49 (hl.at 5 rfl) ?_
        refine lv_iload_n hx hb dX13_sorts_51 rfl (hl.at 3 rfl) ?_
        refine e_icmp_ge (tgt := 69) hx hb dX13_sorts_52 (by decide) (fun c52 => ?_) (fun c52 => ?_)
        · rw [if_pos c52] at hsh
          exact w13_sorts_b69 (hk20 := hk20) (hk31 := hk31) E hp hS (hl.sub [0, 1, 2, 3, 5] rfl) hsh
        · rw [if_neg c52] at hsh
          refine e_aload_n (B := B) (x := x0) hx hb dX13_sorts_55 rfl (hl.at 0 rfl) ?_
          refine lv_iload_n hx hb dX13_sorts_56 rfl (hl.at 3 rfl) ?_
          refine lv_iload hx hb dX13_sorts_57 (hl.at 5 rfl) ?_
          obtain ⟨⟨v59, S59⟩, h59, hsh⟩ := Option.bind_eq_some_iff.mp hsh
          have hsh : _ = _ := hsh
          try dsimp only at hsh
          have ok59 := ok13_isLess h59
          refine e_callI (nL := 6) (mc := 0) (ms := 0) (T := TX13) (N := 126) (As := [.int (iI (x3)), .int (iI (x5))]) (rest := [.int (iI (x4))]) hx hb hml hown hts hp hS hl.size ok59.1 ok59.2.1 ok59.2.2 rfl (by decide) (c13_isLess l D cA B S43 S59 (x0) (x3) (x5) v59 h59) rfl rfl kd13_isLess (kl13_892) ks13_isLess kv13_isLess ki13 kh13_isLess ⟨Nat.le_of_ble_eq_true rfl, Nat.le_of_ble_eq_true rfl⟩ rfl (by simp [e_rv_cat, e_int_cat]) ⟨Nat.le_refl _, Nat.le_refl _⟩ dX13_sorts_59 rfl (fun H locs hp hS => ?_)
          refine e_if_ne (tgt := 69) hx hb dX13_sorts_62 (by decide) (fun c62 => ?_) (fun c62 => ?_)
          · rw [if_neg c62] at hsh
            exact w13_sorts_b69 (hk20 := hk20) (hk31 := hk31) E hp hS (hl.sub [0, 1, 2, 3, 5] rfl) hsh
          · rw [if_pos c62] at hsh
            exact w13_sorts_b65 (hk20 := hk20) (hk31 := hk31) E hp hS (hl.sub [0, 1, 2, 3, 5] rfl) hsh
set_option maxRecDepth 100000 in
set_option maxHeartbeats 4000000 in
theorem w13_sorts_l20 {p : Program} {l : Launch} {e : Env} {s : State} {m : MethodId} {args : Array Value} {below : List Frame} {meth : Method} {c : Code} {D : va_G} {cA : Nat → ClassId} {B : Nat} {res : Int × HP} (E : e_En p s m args meth c cX13_sorts RX13 6 (some .boolean)) : ∀ (f : Nat) {ls : Array Slot} {H : Heap} {locs : List Loc} {S : HP} {x0 : Int} {x1 : Int} {x2 : Int} {x3 : Int} (hp : e_Pic D cA B S s H) (hS : va_S (e_A B) s.heap H locs) (hl : e_lo ls 6 [(0, e_rv B (x0)), (1, .int (iI (x1))), (2, .int (iI (x2))), (3, .int (iI (x3)))]) (hsh : s13_sorts_l20 f S x0 x1 x2 x3 = some res), W p l e ({ frames := 5, cells := 0, slots := 0, locals := 117 } : Room) s m args below meth c H locs 0 0 (MQ below (e_Qi D cA B res.1 res.2) args s 0 0 (e_A B)) (F0 m 20 ls []) := by
  obtain ⟨hx, hb, hml, hown, hts, hlk, hrt⟩ := id E
  intro f
  induction f with
  | zero => intro ls H locs S x0 x1 x2 x3 hp hS hl hsh; cases hsh
  | succ f ih =>
    intro ls H locs S x0 x1 x2 x3 hp hS hl hsh
    have hk20 : ∀ {ls : Array Slot} {H : Heap} {locs : List Loc} {S : HP} {x0 : Int} {x1 : Int} {x2 : Int} {x3 : Int} (hp : e_Pic D cA B S s H) (hS : va_S (e_A B) s.heap H locs) (hl : e_lo ls 6 [(0, e_rv B (x0)), (1, .int (iI (x1))), (2, .int (iI (x2))), (3, .int (iI (x3)))]) (hsh : (s13_sorts_l20 f) S x0 x1 x2 x3 = some res), W p l e ({ frames := 5, cells := 0, slots := 0, locals := 117 } : Room) s m args below meth c H locs 0 0 (MQ below (e_Qi D cA B res.1 res.2) args s 0 0 (e_A B)) (F0 m 20 ls []) := ih
    generalize hkk : s13_sorts_l20 f = k20 at hk20
    rw [s13_sorts_l20] at hsh
    rw [hkk] at hsh
    try dsimp only at hsh
    refine lv_iload_n hx hb dX13_sorts_20 rfl (hl.at 3 rfl) ?_
    refine lv_iload_n hx hb dX13_sorts_21 rfl (hl.at 1 rfl) ?_
    refine e_icmp_ge (tgt := 109) hx hb dX13_sorts_22 (by decide) (fun c22 => ?_) (fun c22 => ?_)
    · rw [if_pos c22] at hsh
      refine lv_iload_n hx hb dX13_sorts_109 rfl (hl.at 2 rfl) ?_
      refine e_if_eq (tgt := 163) hx hb dX13_sorts_110 (by decide) (fun c110 => ?_) (fun c110 => ?_)
      · rw [if_pos c110] at hsh
        exact w13_sorts_b163 E hp hS (hl.sub [0] rfl) hsh
      · rw [if_neg c110] at hsh
        refine e_aload_n (B := B) (x := x0) hx hb dX13_sorts_113 rfl (hl.at 0 rfl) ?_
        refine e_aload_n (B := B) (x := x0) hx hb dX13_sorts_114 rfl (hl.at 0 rfl) ?_
        obtain ⟨v115, h115, hsh⟩ := Option.bind_eq_some_iff.mp hsh
        refine e_getI (k := 108) hx hb hts in_X13 hown hp h115 rfl (by decide) (by decide) rfl (hts _ kf13_870) rfl dX13_sorts_115 ?_
        refine e_aload_n (B := B) (x := x0) hx hb dX13_sorts_118 rfl (hl.at 0 rfl) ?_
        obtain ⟨v119, h119, hsh⟩ := Option.bind_eq_some_iff.mp hsh
        refine e_getI (k := 109) hx hb hts in_X13 hown hp h119 rfl (by decide) (by decide) rfl (hts _ kf13_873) rfl dX13_sorts_119 ?_
        obtain ⟨S122, h122, hsh⟩ := Option.bind_eq_some_iff.mp hsh
        have ok122 := ok13_takesLinesOf h122
        refine e_callV (nL := 6) (mc := 0) (ms := 0) (T := TX13) (N := 126) (As := [.int (iI (v115)), .int (iI (v119))]) (rest := []) hx hb hml hown hts hp hS hl.size ok122.1 ok122.2.1 ok122.2.2 rfl (by decide) (c13_takesLinesOf l D cA B S S122 (x0) (v115) (v119) h122) rfl rfl kd13_takesLinesOf (kl13_886) ks13_takesLinesOf kv13_takesLinesOf ki13 kh13_takesLinesOf ⟨Nat.le_of_ble_eq_true rfl, Nat.le_of_ble_eq_true rfl⟩ rfl (by simp [e_rv_cat, e_int_cat]) ⟨Nat.le_refl _, Nat.le_refl _⟩ dX13_sorts_122 rfl (fun H locs hp hS => ?_)
        refine e_aload_n (B := B) (x := x0) hx hb dX13_sorts_125 rfl (hl.at 0 rfl) ?_
        refine e_aload_n (B := B) (x := x0) hx hb dX13_sorts_126 rfl (hl.at 0 rfl) ?_
        obtain ⟨v127, h127, hsh⟩ := Option.bind_eq_some_iff.mp hsh
        refine e_getI (k := 108) hx hb hts in_X13 hown hp h127 rfl (by decide) (by decide) rfl (hts _ kf13_870) rfl dX13_sorts_127 ?_
        refine lv_iload_n hx hb dX13_sorts_130 rfl (hl.at 1 rfl) ?_
        obtain ⟨S131, h131, hsh⟩ := Option.bind_eq_some_iff.mp hsh
        have ok131 := ok13_putsLines h131
        refine e_callV (nL := 6) (mc := 0) (ms := 0) (T := TX13) (N := 126) (As := [.int (iI (v127)), .int (iI (x1))]) (rest := []) hx hb hml hown hts hp hS hl.size ok131.1 ok131.2.1 ok131.2.2 rfl (by decide) (c13_putsLines l D cA B S122 S131 (x0) (v127) (x1) h131) rfl rfl kd13_putsLines (kl13_278) ks13_putsLines kv13_putsLines ki13 kh13_putsLines ⟨Nat.le_of_ble_eq_true rfl, Nat.le_of_ble_eq_true rfl⟩ rfl (by simp [e_rv_cat, e_int_cat]) ⟨Nat.le_refl _, Nat.le_refl _⟩ dX13_sorts_131 rfl (fun H locs hp hS => ?_)
        refine lv_iconst (v := iI (0)) hx hb dX13_sorts_134 rfl ?_
        refine e_istore_n (lv' := [(3, .int (iI (0))), (0, e_rv B (x0)), (1, .int (iI (x1))), (2, .int (iI (x2)))]) hx hb dX13_sorts_135 rfl hl (by decide) rfl (fun ls hl => ?_)
        exact w13_sorts_l136 E 1000000 hp hS (hl.sub [1, 2, 0] rfl) hsh
    · rw [if_neg c22] at hsh
      refine lv_iconst (v := iI (0)) hx hb dX13_sorts_25 rfl ?_
      refine e_istore (lv' := [(4, .int (iI (0))), (0, e_rv B (x0)), (1, .int (iI (x1))), (2, .int (iI (x2))), (3, .int (iI (x3)))]) hx hb dX13_sorts_26 hl (by decide) rfl (fun ls hl => ?_)
      refine lv_iconst (v := iI (0)) hx hb dX13_sorts_28 rfl ?_
      refine e_istore (lv' := [(5, .int (iI (0))), (4, .int (iI (0))), (0, e_rv B (x0)), (1, .int (iI (x1))), (2, .int (iI (x2))), (3, .int (iI (x3)))]) hx hb dX13_sorts_29 hl (by decide) rfl (fun ls hl => ?_)
      exact w13_sorts_l31 (hk20 := hk20) E 1000000 hp hS (hl.sub [2, 3, 4, 5, 1, 0] rfl) hsh
set_option maxRecDepth 100000 in
set_option maxHeartbeats 4000000 in
theorem c13_sorts (l : Launch) (D : va_G) (cA : Nat → ClassId) (B : Nat) (S S' : HP) (x0 : Int) (r : Int) (hsh : s13_sorts S x0 = some (r, S')) : Met l yX13_sorts (e_wu yX13_sorts cX13_sorts 6 (some .boolean)) ({ frames := 5, cells := 0, slots := 0, locals := 117 } : Room) (va_Pc [e_rv B (x0)] (fun U => e_PU D cA B S U)) (e_Qi D cA B r S') 0 0 (e_A B) := by
  refine Met.ofW (cc := cX13_sorts) (maxL := 6) (ret := (some .boolean)) (by decide +kernel) rfl ?_
  intro p e s m args below meth c s₁ Bd hml hv
  obtain ⟨rfl, hp⟩ := hv
  have hp : e_Pic D cA B S s s.heap := hp
  have hx := Bd.exec
  have hb := Bd.bytes
  have hrt := Bd.returns
  have hlk := Bd.notSynchronized
  have hown : s.vm.findClass RX13 = some m.cls := findClass_of_methodNamed Bd.named
  have hts : ∀ w ∈ e_tb, w.before ([e_rv B (x0)] : List Value).toArray s = true := fun w h => atoms_spec (ws := (e_wu yX13_sorts cX13_sorts 6 (some .boolean))) Bd.pre w (List.mem_cons_of_mem _ h)
  have E : e_En p s m ([e_rv B (x0)] : List Value).toArray meth c cX13_sorts RX13 6 (some .boolean) := ⟨hx, hb, hml, hown, hts, hlk, hrt⟩
  have hS : va_S (e_A B) s.heap s.heap [] := va_S.rf
  have hl := e_entry (vs := [e_rv B (x0)]) (n := 6) (Nat.le_of_ble_eq_true rfl) (e_cc (e_rv_cat _ _) e_cn)
  rw [lg_entry_eq]
  generalize (lg_sl [e_rv B (x0)] ++ List.replicate (6 - (lg_sl [e_rv B (x0)]).length) Slot.unset).toArray = ls at hl ⊢
  generalize ([e_rv B (x0)] : List Value).toArray = args at hts E ⊢
  have hl : e_lo ls 6 [(0, e_rv B (x0))] := hl
  have hsh := (gd_some hsh).2
  refine e_aload_n (B := B) (x := x0) hx hb dX13_sorts_0 rfl (hl.at 0 rfl) ?_
  obtain ⟨v1, h1, hsh⟩ := Option.bind_eq_some_iff.mp hsh
  refine e_getI (k := 109) hx hb hts in_X13 hown hp h1 rfl (by decide) (by decide) rfl (hts _ kf13_873) rfl dX13_sorts_1 ?_
  refine e_aload_n (B := B) (x := x0) hx hb dX13_sorts_4 rfl (hl.at 0 rfl) ?_
  obtain ⟨v5, h5, hsh⟩ := Option.bind_eq_some_iff.mp hsh
  refine e_getI (k := 108) hx hb hts in_X13 hown hp h5 rfl (by decide) (by decide) rfl (hts _ kf13_870) rfl dX13_sorts_5 ?_
  refine e_isub hx hb dX13_sorts_8 ?_
  refine lv_iconst (v := iI (1)) hx hb dX13_sorts_9 rfl ?_
  refine e_iadd hx hb dX13_sorts_10 ?_
  refine e_istore_n (lv' := [(1, .int (iI (((v1 - v5) + 1)))), (0, e_rv B (x0))]) hx hb dX13_sorts_11 rfl hl (by decide) rfl (fun ls hl => ?_)
  refine e_aload_n (B := B) (x := x0) hx hb dX13_sorts_12 rfl (hl.at 1 rfl) ?_
  obtain ⟨S13, h13, hsh⟩ := Option.bind_eq_some_iff.mp hsh
  have ok13 := ok13_holdsLines h13
  refine e_callV (nL := 6) (mc := 0) (ms := 0) (T := TX13) (N := 126) (As := []) (rest := []) hx hb hml hown hts hp hS hl.size ok13.1 ok13.2.1 ok13.2.2 rfl (by decide) (c13_holdsLines l D cA B S S13 (x0) h13) rfl rfl kd13_holdsLines (kl13_883) ks13_holdsLines kv13_holdsLines ki13 kh13_holdsLines ⟨Nat.le_of_ble_eq_true rfl, Nat.le_of_ble_eq_true rfl⟩ rfl (by simp [e_rv_cat, e_int_cat]) ⟨Nat.le_refl _, Nat.le_refl _⟩ dX13_sorts_13 rfl (fun H locs hp hS => ?_)
  refine lv_iconst (v := iI (0)) hx hb dX13_sorts_16 rfl ?_
  refine e_istore_n (lv' := [(2, .int (iI (0))), (1, .int (iI (((v1 - v5) + 1)))), (0, e_rv B (x0))]) hx hb dX13_sorts_17 rfl hl (by decide) rfl (fun ls hl => ?_)
  refine lv_iconst (v := iI (0)) hx hb dX13_sorts_18 rfl ?_
  refine e_istore_n (lv' := [(3, .int (iI (0))), (2, .int (iI (0))), (1, .int (iI (((v1 - v5) + 1)))), (0, e_rv B (x0))]) hx hb dX13_sorts_19 rfl hl (by decide) rfl (fun ls hl => ?_)
  exact w13_sorts_l20 E 1000000 hp hS (hl.sub [3, 2, 1, 0] rfl) hsh
theorem ok13_beginsMarked {S : HP} {x0 : Int} {r : Int × HP} (h : s13_beginsMarked S x0 = some r) : 0 ≤ x0 ∧ x0.toNat < e_n S ∧ e_g S x0.toNat = 13 := (gd_some h).1
set_option maxRecDepth 100000 in
set_option maxHeartbeats 4000000 in
theorem w13_beginsMarked_b67 {p : Program} {l : Launch} {e : Env} {s : State} {m : MethodId} {args : Array Value} {below : List Frame} {meth : Method} {c : Code} {D : va_G} {cA : Nat → ClassId} {B : Nat} {res : Int × HP} (E : e_En p s m args meth c cX13_beginsMarked RX13 9 (some .boolean)) {ls : Array Slot} {H : Heap} {locs : List Loc} {S : HP} (hp : e_Pic D cA B S s H) (hS : va_S (e_A B) s.heap H locs) (hl : e_lo ls 9 []) (hsh : s13_beginsMarked_b67 S  = some res) : W p l e ({ frames := 2, cells := 0, slots := 0, locals := 48 } : Room) s m args below meth c H locs 0 0 (MQ below (e_Qi D cA B res.1 res.2) args s 0 0 (e_A B)) (F0 m 67 ls []) := by
  obtain ⟨hx, hb, hml, hown, hts, hlk, hrt⟩ := id E
  unfold s13_beginsMarked_b67 at hsh
  refine lv_iconst (v := iI (0)) hx hb dX13_beginsMarked_67 rfl ?_
  obtain ⟨hz, hz1, hz2⟩ := zR_some hsh
  rw [← hz1, ← hz2]
  exact e_zret hx hb hrt hlk hp hS hz dX13_beginsMarked_68
set_option maxRecDepth 100000 in
set_option maxHeartbeats 4000000 in
theorem w13_beginsMarked_b254 {p : Program} {l : Launch} {e : Env} {s : State} {m : MethodId} {args : Array Value} {below : List Frame} {meth : Method} {c : Code} {D : va_G} {cA : Nat → ClassId} {B : Nat} {res : Int × HP} (E : e_En p s m args meth c cX13_beginsMarked RX13 9 (some .boolean)) {ls : Array Slot} {H : Heap} {locs : List Loc} {S : HP} {y0 : Int} (hp : e_Pic D cA B S s H) (hS : va_S (e_A B) s.heap H locs) (hl : e_lo ls 9 []) (hsh : s13_beginsMarked_b254 S y0 = some res) : W p l e ({ frames := 2, cells := 0, slots := 0, locals := 48 } : Room) s m args below meth c H locs 0 0 (MQ below (e_Qi D cA B res.1 res.2) args s 0 0 (e_A B)) (F0 m 254 ls [.int (iI (y0))]) := by
  obtain ⟨hx, hb, hml, hown, hts, hlk, hrt⟩ := id E
  unfold s13_beginsMarked_b254 at hsh
  obtain ⟨hz, hz1, hz2⟩ := zR_some hsh
  rw [← hz1, ← hz2]
  exact e_zret hx hb hrt hlk hp hS hz dX13_beginsMarked_254
set_option maxRecDepth 100000 in
set_option maxHeartbeats 4000000 in
theorem w13_beginsMarked_b245 {p : Program} {l : Launch} {e : Env} {s : State} {m : MethodId} {args : Array Value} {below : List Frame} {meth : Method} {c : Code} {D : va_G} {cA : Nat → ClassId} {B : Nat} {res : Int × HP} (E : e_En p s m args meth c cX13_beginsMarked RX13 9 (some .boolean)) {ls : Array Slot} {H : Heap} {locs : List Loc} {S : HP} {x3 : Int} (hp : e_Pic D cA B S s H) (hS : va_S (e_A B) s.heap H locs) (hl : e_lo ls 9 [(3, .int (iI (x3)))]) (hsh : s13_beginsMarked_b245 S x3 = some res) : W p l e ({ frames := 2, cells := 0, slots := 0, locals := 48 } : Room) s m args below meth c H locs 0 0 (MQ below (e_Qi D cA B res.1 res.2) args s 0 0 (e_A B)) (F0 m 245 ls []) := by
  obtain ⟨hx, hb, hml, hown, hts, hlk, hrt⟩ := id E
  unfold s13_beginsMarked_b245 at hsh
  refine lv_iload_n hx hb dX13_beginsMarked_245 rfl (hl.at 0 rfl) ?_
  refine e_if_le (tgt := 253) hx hb dX13_beginsMarked_246 (by decide) (fun c246 => ?_) (fun c246 => ?_)
  · rw [if_pos c246] at hsh
    refine lv_iconst (v := iI (0)) hx hb dX13_beginsMarked_253 rfl ?_
    exact w13_beginsMarked_b254 E hp hS (hl.sub [] rfl) hsh
  · rw [if_neg c246] at hsh
    refine lv_iconst (v := iI (1)) hx hb dX13_beginsMarked_249 rfl ?_
    refine lv_goto (tgt := 254) hx hb dX13_beginsMarked_250 (by decide) ?_
    exact w13_beginsMarked_b254 E hp hS (hl.sub [] rfl) hsh
set_option maxRecDepth 100000 in
set_option maxHeartbeats 4000000 in
theorem w13_beginsMarked_l205 {p : Program} {l : Launch} {e : Env} {s : State} {m : MethodId} {args : Array Value} {below : List Frame} {meth : Method} {c : Code} {D : va_G} {cA : Nat → ClassId} {B : Nat} {res : Int × HP} (E : e_En p s m args meth c cX13_beginsMarked RX13 9 (some .boolean)) : ∀ (f : Nat) {ls : Array Slot} {H : Heap} {locs : List Loc} {S : HP} {x0 : Int} {x3 : Int} {x6 : Int} (hp : e_Pic D cA B S s H) (hS : va_S (e_A B) s.heap H locs) (hl : e_lo ls 9 [(0, e_rv B (x0)), (3, .int (iI (x3))), (6, .int (iI (x6)))]) (hsh : s13_beginsMarked_l205 f S x0 x3 x6 = some res), W p l e ({ frames := 2, cells := 0, slots := 0, locals := 48 } : Room) s m args below meth c H locs 0 0 (MQ below (e_Qi D cA B res.1 res.2) args s 0 0 (e_A B)) (F0 m 205 ls []) := by
  obtain ⟨hx, hb, hml, hown, hts, hlk, hrt⟩ := id E
  intro f
  induction f with
  | zero => intro ls H locs S x0 x3 x6 hp hS hl hsh; cases hsh
  | succ f ih =>
    intro ls H locs S x0 x3 x6 hp hS hl hsh
    have hk205 : ∀ {ls : Array Slot} {H : Heap} {locs : List Loc} {S : HP} {x0 : Int} {x3 : Int} {x6 : Int} (hp : e_Pic D cA B S s H) (hS : va_S (e_A B) s.heap H locs) (hl : e_lo ls 9 [(0, e_rv B (x0)), (3, .int (iI (x3))), (6, .int (iI (x6)))]) (hsh : (s13_beginsMarked_l205 f) S x0 x3 x6 = some res), W p l e ({ frames := 2, cells := 0, slots := 0, locals := 48 } : Room) s m args below meth c H locs 0 0 (MQ below (e_Qi D cA B res.1 res.2) args s 0 0 (e_A B)) (F0 m 205 ls []) := ih
    generalize hkk : s13_beginsMarked_l205 f = k205 at hk205
    rw [s13_beginsMarked_l205] at hsh
    rw [hkk] at hsh
    try dsimp only at hsh
    refine lv_iload hx hb dX13_beginsMarked_205 (hl.at 2 rfl) ?_
    refine e_aload_n (B := B) (x := x0) hx hb dX13_beginsMarked_207 rfl (hl.at 0 rfl) ?_
    obtain ⟨v208, h208, hsh⟩ := Option.bind_eq_some_iff.mp hsh
    refine e_getI (k := 104) hx hb hts in_X13 hown hp h208 rfl (by decide) (by decide) rfl (hts _ kf13_858) rfl dX13_beginsMarked_208 ?_
    refine e_icmp_ge (tgt := 231) hx hb dX13_beginsMarked_211 (by decide) (fun c211 => ?_) (fun c211 => ?_)
    · rw [if_pos c211] at hsh
      refine lv_iload_n hx hb dX13_beginsMarked_231 rfl (hl.at 1 rfl) ?_
      refine e_if_ne (tgt := 245) hx hb dX13_beginsMarked_232 (by decide) (fun c232 => ?_) (fun c232 => ?_)
      · rw [if_neg c232] at hsh
        exact w13_beginsMarked_b245 E hp hS (hl.sub [1] rfl) hsh
      · rw [if_pos c232] at hsh
        refine e_aload_n (B := B) (x := x0) hx hb dX13_beginsMarked_235 rfl (hl.at 0 rfl) ?_
        refine lv_dup hx hb dX13_beginsMarked_236 (e_rv_cat _ _) ?_
        obtain ⟨v237, h237, hsh⟩ := Option.bind_eq_some_iff.mp hsh
        refine e_getI (k := 90) hx hb hts in_X13 hown hp h237 rfl (by decide) (by decide) rfl (hts _ kf13_672) rfl dX13_beginsMarked_237 ?_
        refine lv_iconst (v := iI (1)) hx hb dX13_beginsMarked_240 rfl ?_
        refine e_isub hx hb dX13_beginsMarked_241 ?_
        obtain ⟨S242, h242, hsh⟩ := Option.bind_eq_some_iff.mp hsh
        refine e_putI (k := 90) hx hb hts in_X13 tyX13 tyX13_ok nmX13 hown hp hS h242 rfl (by decide) (by decide) rfl (hts _ kf13_672) rfl rfl (by decide +kernel) dX13_beginsMarked_242 (fun H locs hp hS => ?_)
        exact w13_beginsMarked_b245 E hp hS (hl.sub [1] rfl) hsh
    · rw [if_neg c211] at hsh
      refine e_aload_n (B := B) (x := x0) hx hb dX13_beginsMarked_214 rfl (hl.at 0 rfl) ?_
      refine e_aload_n (B := B) (x := x0) hx hb dX13_beginsMarked_215 rfl (hl.at 0 rfl) ?_
      obtain ⟨v216, h216, hsh⟩ := Option.bind_eq_some_iff.mp hsh
      refine e_getR (k := 106) hx hb hts in_X13 hown hp h216 rfl (by decide) (by decide) rfl (hts _ kf13_154) rfl dX13_beginsMarked_216 ?_
      refine lv_iload hx hb dX13_beginsMarked_219 (hl.at 2 rfl) ?_
      obtain ⟨v221, h221, hsh⟩ := Option.bind_eq_some_iff.mp hsh
      refine e_iald hx hb hp h221 dX13_beginsMarked_221 ?_
      obtain ⟨S222, h222, hsh⟩ := Option.bind_eq_some_iff.mp hsh
      have ok222 := ok13_heaps h222
      refine e_callV (nL := 9) (mc := 0) (ms := 0) (T := TX13) (N := 126) (As := [.int (iI (v221))]) (rest := []) hx hb hml hown hts hp hS hl.size ok222.1 ok222.2.1 ok222.2.2 rfl (by decide) (c13_heaps l D cA B S S222 (x0) (v221) h222) rfl rfl kd13_heaps (kl13_702) ks13_heaps kv13_heaps ki13 kh13_heaps ⟨Nat.le_of_ble_eq_true rfl, Nat.le_of_ble_eq_true rfl⟩ rfl (by simp [e_rv_cat, e_int_cat]) ⟨Nat.le_refl _, Nat.le_refl _⟩ dX13_beginsMarked_222 rfl (fun H locs hp hS => ?_)
      refine e_iinc (n := 1) (x := x6) (lv' := [(6, .int (iI ((x6 + 1)))), (0, e_rv B (x0)), (3, .int (iI (x3)))]) hx hb dX13_beginsMarked_225 hl (k := 2) rfl (by decide) rfl (fun ls hl => ?_)
      refine lv_goto (tgt := 205) hx hb dX13_beginsMarked_228 (by decide) ?_
      exact hk205 hp hS (hl.sub [1, 2, 0] rfl) hsh
set_option maxRecDepth 100000 in
set_option maxHeartbeats 4000000 in
theorem w13_beginsMarked_b194 {p : Program} {l : Launch} {e : Env} {s : State} {m : MethodId} {args : Array Value} {below : List Frame} {meth : Method} {c : Code} {D : va_G} {cA : Nat → ClassId} {B : Nat} {res : Int × HP} {k120 : HP → Int → Int → Int → Int → Int → Int → Option (Int × HP)} (hk120 : ∀ {ls : Array Slot} {H : Heap} {locs : List Loc} {S : HP} {x0 : Int} {x1 : Int} {x2 : Int} {x3 : Int} {x5 : Int} {x6 : Int} (hp : e_Pic D cA B S s H) (hS : va_S (e_A B) s.heap H locs) (hl : e_lo ls 9 [(0, e_rv B (x0)), (1, .int (iI (x1))), (2, .int (iI (x2))), (3, .int (iI (x3))), (5, .int (iI (x5))), (6, .int (iI (x6)))]) (hsh : k120 S x0 x1 x2 x3 x5 x6 = some res), W p l e ({ frames := 2, cells := 0, slots := 0, locals := 48 } : Room) s m args below meth c H locs 0 0 (MQ below (e_Qi D cA B res.1 res.2) args s 0 0 (e_A B)) (F0 m 120 ls [])) (E : e_En p s m args meth c cX13_beginsMarked RX13 9 (some .boolean)) {ls : Array Slot} {H : Heap} {locs : List Loc} {S : HP} {x0 : Int} {x1 : Int} {x2 : Int} {x3 : Int} {x5 : Int} {x6 : Int} (hp : e_Pic D cA B S s H) (hS : va_S (e_A B) s.heap H locs) (hl : e_lo ls 9 [(0, e_rv B (x0)), (1, .int (iI (x1))), (2, .int (iI (x2))), (3, .int (iI (x3))), (5, .int (iI (x5))), (6, .int (iI (x6)))]) (hsh : s13_beginsMarked_b194 k120 S x0 x1 x2 x3 x5 x6 = some res) : W p l e ({ frames := 2, cells := 0, slots := 0, locals := 48 } : Room) s m args below meth c H locs 0 0 (MQ below (e_Qi D cA B res.1 res.2) args s 0 0 (e_A B)) (F0 m 194 ls []) := by
  obtain ⟨hx, hb, hml, hown, hts, hlk, hrt⟩ := id E
  unfold s13_beginsMarked_b194 at hsh
  refine e_iinc (n := 1) (x := x6) (lv' := [(6, .int (iI ((x6 + 1)))), (0, e_rv B (x0)), (1, .int (iI (x1))), (2, .int (iI (x2))), (3, .int (iI (x3))), (5, .int (iI (x5)))]) hx hb dX13_beginsMarked_194 hl (k := 5) rfl (by decide) rfl (fun ls hl => ?_)
  refine lv_goto (tgt := 120) hx hb dX13_beginsMarked_197 (by decide) ?_
  exact hk120 hp hS (hl.sub [1, 2, 3, 4, 5, 0] rfl) hsh
set_option maxRecDepth 100000 in
set_option maxHeartbeats 4000000 in
theorem w13_beginsMarked_b168 {p : Program} {l : Launch} {e : Env} {s : State} {m : MethodId} {args : Array Value} {below : List Frame} {meth : Method} {c : Code} {D : va_G} {cA : Nat → ClassId} {B : Nat} {res : Int × HP} {k120 : HP → Int → Int → Int → Int → Int → Int → Option (Int × HP)} (hk120 : ∀ {ls : Array Slot} {H : Heap} {locs : List Loc} {S : HP} {x0 : Int} {x1 : Int} {x2 : Int} {x3 : Int} {x5 : Int} {x6 : Int} (hp : e_Pic D cA B S s H) (hS : va_S (e_A B) s.heap H locs) (hl : e_lo ls 9 [(0, e_rv B (x0)), (1, .int (iI (x1))), (2, .int (iI (x2))), (3, .int (iI (x3))), (5, .int (iI (x5))), (6, .int (iI (x6)))]) (hsh : k120 S x0 x1 x2 x3 x5 x6 = some res), W p l e ({ frames := 2, cells := 0, slots := 0, locals := 48 } : Room) s m args below meth c H locs 0 0 (MQ below (e_Qi D cA B res.1 res.2) args s 0 0 (e_A B)) (F0 m 120 ls [])) (E : e_En p s m args meth c cX13_beginsMarked RX13 9 (some .boolean)) {ls : Array Slot} {H : Heap} {locs : List Loc} {S : HP} {x0 : Int} {x1 : Int} {x2 : Int} {x3 : Int} {x5 : Int} {x6 : Int} {x7 : Int} (hp : e_Pic D cA B S s H) (hS : va_S (e_A B) s.heap H locs) (hl : e_lo ls 9 [(0, e_rv B (x0)), (1, .int (iI (x1))), (2, .int (iI (x2))), (3, .int (iI (x3))), (5, .int (iI (x5))), (6, .int (iI (x6))), (7, .int (iI (x7)))]) (hsh : s13_beginsMarked_b168 k120 S x0 x1 x2 x3 x5 x6 x7 = some res) : W p l e ({ frames := 2, cells := 0, slots := 0, locals := 48 } : Room) s m args below meth c H locs 0 0 (MQ below (e_Qi D cA B res.1 res.2) args s 0 0 (e_A B)) (F0 m 168 ls []) := by
  obtain ⟨hx, hb, hml, hown, hts, hlk, hrt⟩ := id E
  unfold s13_beginsMarked_b168 at hsh
  refine lv_iload hx hb dX13_beginsMarked_168 (hl.at 6 rfl) ?_
  refine e_if_eq (tgt := 194) hx hb dX13_beginsMarked_170 (by decide) (fun c170 => ?_) (fun c170 => ?_)
  · rw [if_pos c170] at hsh
    exact w13_beginsMarked_b194 (hk120 := hk120) E hp hS (hl.sub [0, 1, 2, 3, 4, 5] rfl) hsh
  · rw [if_neg c170] at hsh
    refine e_aload_n (B := B) (x := x0) hx hb dX13_beginsMarked_173 rfl (hl.at 0 rfl) ?_
    obtain ⟨v174, h174, hsh⟩ := Option.bind_eq_some_iff.mp hsh
    refine e_getR (k := 99) hx hb hts in_X13 hown hp h174 rfl (by decide) (by decide) rfl (hts _ kf13_148) rfl dX13_beginsMarked_174 ?_
    refine lv_bipush (v := iI (41)) hx hb dX13_beginsMarked_177 (by decide +kernel) ?_
    refine e_aload_n (B := B) (x := x0) hx hb dX13_beginsMarked_179 rfl (hl.at 0 rfl) ?_
    obtain ⟨v180, h180, hsh⟩ := Option.bind_eq_some_iff.mp hsh
    refine e_getI (k := 90) hx hb hts in_X13 hown hp h180 rfl (by decide) (by decide) rfl (hts _ kf13_672) rfl dX13_beginsMarked_180 ?_
    refine lv_iconst (v := iI (1)) hx hb dX13_beginsMarked_183 rfl ?_
    refine e_isub hx hb dX13_beginsMarked_184 ?_
    refine e_imul hx hb dX13_beginsMarked_185 ?_
    refine lv_iload_n hx hb dX13_beginsMarked_186 rfl (hl.at 3 rfl) ?_
    refine e_iadd hx hb dX13_beginsMarked_187 ?_
    refine lv_iload hx hb dX13_beginsMarked_188 (hl.at 5 rfl) ?_
    obtain ⟨S190, h190, hsh⟩ := Option.bind_eq_some_iff.mp hsh
    refine e_iast hx hb hp hS h190 dX13_beginsMarked_190 (fun H locs hp hS => ?_)
    refine e_iinc (n := 1) (x := x3) (lv' := [(3, .int (iI ((x3 + 1)))), (0, e_rv B (x0)), (1, .int (iI (x1))), (2, .int (iI (x2))), (5, .int (iI (x5))), (6, .int (iI (x6))), (7, .int (iI (x7)))]) hx hb dX13_beginsMarked_191 hl (k := 3) rfl (by decide) rfl (fun ls hl => ?_)
    exact w13_beginsMarked_b194 (hk120 := hk120) E hp hS (hl.sub [1, 2, 3, 0, 4, 5] rfl) hsh
set_option maxRecDepth 100000 in
set_option maxHeartbeats 4000000 in
theorem w13_beginsMarked_l133 {p : Program} {l : Launch} {e : Env} {s : State} {m : MethodId} {args : Array Value} {below : List Frame} {meth : Method} {c : Code} {D : va_G} {cA : Nat → ClassId} {B : Nat} {res : Int × HP} {k120 : HP → Int → Int → Int → Int → Int → Int → Option (Int × HP)} (hk120 : ∀ {ls : Array Slot} {H : Heap} {locs : List Loc} {S : HP} {x0 : Int} {x1 : Int} {x2 : Int} {x3 : Int} {x5 : Int} {x6 : Int} (hp : e_Pic D cA B S s H) (hS : va_S (e_A B) s.heap H locs) (hl : e_lo ls 9 [(0, e_rv B (x0)), (1, .int (iI (x1))), (2, .int (iI (x2))), (3, .int (iI (x3))), (5, .int (iI (x5))), (6, .int (iI (x6)))]) (hsh : k120 S x0 x1 x2 x3 x5 x6 = some res), W p l e ({ frames := 2, cells := 0, slots := 0, locals := 48 } : Room) s m args below meth c H locs 0 0 (MQ below (e_Qi D cA B res.1 res.2) args s 0 0 (e_A B)) (F0 m 120 ls [])) (E : e_En p s m args meth c cX13_beginsMarked RX13 9 (some .boolean)) : ∀ (f : Nat) {ls : Array Slot} {H : Heap} {locs : List Loc} {S : HP} {x0 : Int} {x1 : Int} {x2 : Int} {x3 : Int} {x5 : Int} {x6 : Int} {x7 : Int} {x8 : Int} (hp : e_Pic D cA B S s H) (hS : va_S (e_A B) s.heap H locs) (hl : e_lo ls 9 [(0, e_rv B (x0)), (1, .int (iI (x1))), (2, .int (iI (x2))), (3, .int (iI (x3))), (5, .int (iI (x5))), (6, .int (iI (x6))), (7, .int (iI (x7))), (8, .int (iI (x8)))]) (hsh : s13_beginsMarked_l133 k120 f S x0 x1 x2 x3 x5 x6 x7 x8 = some res), W p l e ({ frames := 2, cells := 0, slots := 0, locals := 48 } : Room) s m args below meth c H locs 0 0 (MQ below (e_Qi D cA B res.1 res.2) args s 0 0 (e_A B)) (F0 m 133 ls []) := by
  obtain ⟨hx, hb, hml, hown, hts, hlk, hrt⟩ := id E
  intro f
  induction f with
  | zero => intro ls H locs S x0 x1 x2 x3 x5 x6 x7 x8 hp hS hl hsh; cases hsh
  | succ f ih =>
    intro ls H locs S x0 x1 x2 x3 x5 x6 x7 x8 hp hS hl hsh
    have hk133 : ∀ {ls : Array Slot} {H : Heap} {locs : List Loc} {S : HP} {x0 : Int} {x1 : Int} {x2 : Int} {x3 : Int} {x5 : Int} {x6 : Int} {x7 : Int} {x8 : Int} (hp : e_Pic D cA B S s H) (hS : va_S (e_A B) s.heap H locs) (hl : e_lo ls 9 [(0, e_rv B (x0)), (1, .int (iI (x1))), (2, .int (iI (x2))), (3, .int (iI (x3))), (5, .int (iI (x5))), (6, .int (iI (x6))), (7, .int (iI (x7))), (8, .int (iI (x8)))]) (hsh : (s13_beginsMarked_l133 k120 f) S x0 x1 x2 x3 x5 x6 x7 x8 = some res), W p l e ({ frames := 2, cells := 0, slots := 0, locals := 48 } : Room) s m args below meth c H locs 0 0 (MQ below (e_Qi D cA B res.1 res.2) args s 0 0 (e_A B)) (F0 m 133 ls []) := ih
    generalize hkk : s13_beginsMarked_l133 k120 f = k133 at hk133
    rw [s13_beginsMarked_l133] at hsh
    rw [hkk] at hsh
    try dsimp only at hsh
    refine lv_iload hx hb dX13_beginsMarked_133 (hl.at 7 rfl) ?_
    refine e_aload_n (B := B) (x := x0) hx hb dX13_beginsMarked_135 rfl (hl.at 0 rfl) ?_
    obtain ⟨v136, h136, hsh⟩ := Option.bind_eq_some_iff.mp hsh
    refine e_getR (k := 3) hx hb hts in_X13 hown hp h136 rfl (by decide) (by decide) rfl (hts _ kf13_17) rfl dX13_beginsMarked_136 ?_
    refine lv_iload hx hb dX13_beginsMarked_139 (hl.at 5 rfl) ?_
    obtain ⟨v141, h141, hsh⟩ := Option.bind_eq_some_iff.mp hsh
    refine e_iald hx hb hp h141 dX13_beginsMarked_141 ?_
    refine e_icmp_ge (tgt := 168) hx hb dX13_beginsMarked_142 (by decide) (fun c142 => ?_) (fun c142 => ?_)
    · rw [if_pos c142] at hsh
      exact w13_beginsMarked_b168 (hk120 := hk120) E hp hS (hl.sub [0, 1, 2, 3, 4, 5, 6] rfl) hsh
    · rw [if_neg c142] at hsh
      refine lv_iload hx hb dX13_beginsMarked_145 (hl.at 6 rfl) ?_
      refine e_if_ne (tgt := 168) hx hb dX13_beginsMarked_147 (by decide) (fun c147 => ?_) (fun c147 => ?_)
      · rw [if_neg c147] at hsh
        exact w13_beginsMarked_b168 (hk120 := hk120) E hp hS (hl.sub [0, 1, 2, 3, 4, 5, 6] rfl) hsh
      · rw [if_pos c147] at hsh
        refine e_aload_n (B := B) (x := x0) hx hb dX13_beginsMarked_150 rfl (hl.at 0 rfl) ?_
        refine lv_iload hx hb dX13_beginsMarked_151 (hl.at 5 rfl) ?_
        refine lv_iload hx hb dX13_beginsMarked_153 (hl.at 7 rfl) ?_
        refine lv_iload_n hx hb dX13_beginsMarked_155 rfl (hl.at 1 rfl) ?_
        refine lv_iload_n hx hb dX13_beginsMarked_156 rfl (hl.at 2 rfl) ?_
        obtain ⟨⟨v157, S157⟩, h157, hsh⟩ := Option.bind_eq_some_iff.mp hsh
        have hsh : _ = _ := hsh
        try dsimp only at hsh
        have ok157 := ok13_standsIn h157
        refine e_callI (nL := 9) (mc := 0) (ms := 0) (T := TX13) (N := 126) (As := [.int (iI (x6)), .int (iI (x8)), .int (iI (x1)), .int (iI (x2))]) (rest := []) hx hb hml hown hts hp hS hl.size ok157.1 ok157.2.1 ok157.2.2 rfl (by decide) (c13_standsIn l D cA B S S157 (x0) (x6) (x8) (x1) (x2) v157 h157) rfl rfl kd13_standsIn (kl13_895) ks13_standsIn kv13_standsIn ki13 kh13_standsIn ⟨Nat.le_of_ble_eq_true rfl, Nat.le_of_ble_eq_true rfl⟩ rfl (by simp [e_rv_cat, e_int_cat]) ⟨Nat.le_refl _, Nat.le_refl _⟩ dX13_beginsMarked_157 rfl (fun H locs hp hS => ?_)
        refine e_istore (lv' := [(7, .int (iI (v157))), (0, e_rv B (x0)), (1, .int (iI (x1))), (2, .int (iI (x2))), (3, .int (iI (x3))), (5, .int (iI (x5))), (6, .int (iI (x6))), (8, .int (iI (x8)))]) hx hb dX13_beginsMarked_160 hl (by decide) rfl (fun ls hl => ?_)
        refine e_iinc (n := 1) (x := x8) (lv' := [(8, .int (iI ((x8 + 1)))), (7, .int (iI (v157))), (0, e_rv B (x0)), (1, .int (iI (x1))), (2, .int (iI (x2))), (3, .int (iI (x3))), (5, .int (iI (x5))), (6, .int (iI (x6)))]) hx hb dX13_beginsMarked_162 hl (k := 7) rfl (by decide) rfl (fun ls hl => ?_)
        refine lv_goto (tgt := 133) hx hb dX13_beginsMarked_165 (by decide) ?_
        exact hk133 hp hS (hl.sub [2, 3, 4, 5, 6, 7, 1, 0] rfl) hsh
set_option maxRecDepth 100000 in
set_option maxHeartbeats 4000000 in
theorem w13_beginsMarked_l120 {p : Program} {l : Launch} {e : Env} {s : State} {m : MethodId} {args : Array Value} {below : List Frame} {meth : Method} {c : Code} {D : va_G} {cA : Nat → ClassId} {B : Nat} {res : Int × HP} (E : e_En p s m args meth c cX13_beginsMarked RX13 9 (some .boolean)) : ∀ (f : Nat) {ls : Array Slot} {H : Heap} {locs : List Loc} {S : HP} {x0 : Int} {x1 : Int} {x2 : Int} {x3 : Int} {x5 : Int} {x6 : Int} (hp : e_Pic D cA B S s H) (hS : va_S (e_A B) s.heap H locs) (hl : e_lo ls 9 [(0, e_rv B (x0)), (1, .int (iI (x1))), (2, .int (iI (x2))), (3, .int (iI (x3))), (5, .int (iI (x5))), (6, .int (iI (x6)))]) (hsh : s13_beginsMarked_l120 f S x0 x1 x2 x3 x5 x6 = some res), W p l e ({ frames := 2, cells := 0, slots := 0, locals := 48 } : Room) s m args below meth c H locs 0 0 (MQ below (e_Qi D cA B res.1 res.2) args s 0 0 (e_A B)) (F0 m 120 ls []) := by
  obtain ⟨hx, hb, hml, hown, hts, hlk, hrt⟩ := id E
  intro f
  induction f with
  | zero => intro ls H locs S x0 x1 x2 x3 x5 x6 hp hS hl hsh; cases hsh
  | succ f ih =>
    intro ls H locs S x0 x1 x2 x3 x5 x6 hp hS hl hsh
    have hk120 : ∀ {ls : Array Slot} {H : Heap} {locs : List Loc} {S : HP} {x0 : Int} {x1 : Int} {x2 : Int} {x3 : Int} {x5 : Int} {x6 : Int} (hp : e_Pic D cA B S s H) (hS : va_S (e_A B) s.heap H locs) (hl : e_lo ls 9 [(0, e_rv B (x0)), (1, .int (iI (x1))), (2, .int (iI (x2))), (3, .int (iI (x3))), (5, .int (iI (x5))), (6, .int (iI (x6)))]) (hsh : (s13_beginsMarked_l120 f) S x0 x1 x2 x3 x5 x6 = some res), W p l e ({ frames := 2, cells := 0, slots := 0, locals := 48 } : Room) s m args below meth c H locs 0 0 (MQ below (e_Qi D cA B res.1 res.2) args s 0 0 (e_A B)) (F0 m 120 ls []) := ih
    generalize hkk : s13_beginsMarked_l120 f = k120 at hk120
    rw [s13_beginsMarked_l120] at hsh
    rw [hkk] at hsh
    try dsimp only at hsh
    refine lv_iload hx hb dX13_beginsMarked_120 (hl.at 5 rfl) ?_
    refine lv_iload hx hb dX13_beginsMarked_122 (hl.at 4 rfl) ?_
    refine e_icmp_gt (tgt := 200) hx hb dX13_beginsMarked_124 (by decide) (fun c124 => ?_) (fun c124 => ?_)
    · rw [if_pos c124] at hsh
      refine lv_iload_n hx hb dX13_beginsMarked_200 rfl (hl.at 2 rfl) ?_
      refine lv_iconst (v := iI (1)) hx hb dX13_beginsMarked_201 rfl ?_
      refine e_iadd hx hb dX13_beginsMarked_202 ?_
      refine e_istore (lv' := [(6, .int (iI ((x2 + 1)))), (0, e_rv B (x0)), (1, .int (iI (x1))), (2, .int (iI (x2))), (3, .int (iI (x3))), (5, .int (iI (x5)))]) hx hb dX13_beginsMarked_203 hl (by decide) rfl (fun ls hl => ?_)
      exact w13_beginsMarked_l205 E 1000000 hp hS (hl.sub [1, 4, 0] rfl) hsh
    · rw [if_neg c124] at hsh
      refine lv_iconst (v := iI (0)) hx hb dX13_beginsMarked_127 rfl ?_
      refine e_istore (lv' := [(7, .int (iI (0))), (0, e_rv B (x0)), (1, .int (iI (x1))), (2, .int (iI (x2))), (3, .int (iI (x3))), (5, .int (iI (x5))), (6, .int (iI (x6)))]) hx hb dX13_beginsMarked_128 hl (by decide) rfl (fun ls hl => ?_)
      refine lv_iconst (v := iI (0)) hx hb dX13_beginsMarked_130 rfl ?_
      refine e_istore (lv' := [(8, .int (iI (0))), (7, .int (iI (0))), (0, e_rv B (x0)), (1, .int (iI (x1))), (2, .int (iI (x2))), (3, .int (iI (x3))), (5, .int (iI (x5))), (6, .int (iI (x6)))]) hx hb dX13_beginsMarked_131 hl (by decide) rfl (fun ls hl => ?_)
      exact w13_beginsMarked_l133 (hk120 := hk120) E 1000000 hp hS (hl.sub [2, 3, 4, 5, 6, 7, 1, 0] rfl) hsh
set_option maxRecDepth 100000 in
set_option maxHeartbeats 4000000 in
theorem w13_beginsMarked_b108 {p : Program} {l : Launch} {e : Env} {s : State} {m : MethodId} {args : Array Value} {below : List Frame} {meth : Method} {c : Code} {D : va_G} {cA : Nat → ClassId} {B : Nat} {res : Int × HP} (E : e_En p s m args meth c cX13_beginsMarked RX13 9 (some .boolean)) {ls : Array Slot} {H : Heap} {locs : List Loc} {S : HP} {x0 : Int} {x1 : Int} {x2 : Int} {x3 : Int} {x4 : Int} {y0 : Int} (hp : e_Pic D cA B S s H) (hS : va_S (e_A B) s.heap H locs) (hl : e_lo ls 9 [(0, e_rv B (x0)), (1, .int (iI (x1))), (2, .int (iI (x2))), (3, .int (iI (x3))), (4, .int (iI (x4)))]) (hsh : s13_beginsMarked_b108 S x0 x1 x2 x3 x4 y0 = some res) : W p l e ({ frames := 2, cells := 0, slots := 0, locals := 48 } : Room) s m args below meth c H locs 0 0 (MQ below (e_Qi D cA B res.1 res.2) args s 0 0 (e_A B)) (F0 m 108 ls [.int (iI (y0))]) := by
  obtain ⟨hx, hb, hml, hown, hts, hlk, hrt⟩ := id E
  unfold s13_beginsMarked_b108 at hsh
  refine e_istore (lv' := [(5, .int (iI (y0))), (0, e_rv B (x0)), (1, .int (iI (x1))), (2, .int (iI (x2))), (3, .int (iI (x3))), (4, .int (iI (x4)))]) hx hb dX13_beginsMarked_108 hl (by decide) rfl (fun ls hl => ?_)
  refine e_aload_n (B := B) (x := x0) hx hb dX13_beginsMarked_110 rfl (hl.at 1 rfl) ?_
  refine lv_iconst (v := iI (4)) hx hb dX13_beginsMarked_111 rfl ?_
  refine lv_iconst (v := iI (1)) hx hb dX13_beginsMarked_112 rfl ?_
  obtain ⟨S113, h113, hsh⟩ := Option.bind_eq_some_iff.mp hsh
  have ok113 := ok13_begins h113
  refine e_callV (nL := 9) (mc := 0) (ms := 0) (T := TX13) (N := 126) (As := [.int (iI (4)), .int (iI (1))]) (rest := []) hx hb hml hown hts hp hS hl.size ok113.1 ok113.2.1 ok113.2.2 rfl (by decide) (c13_begins l D cA B S S113 (x0) (4) (1) h113) rfl rfl kd13_begins (kl13_699) ks13_begins kv13_begins ki13 kh13_begins ⟨Nat.le_of_ble_eq_true rfl, Nat.le_of_ble_eq_true rfl⟩ rfl (by simp [e_rv_cat, e_int_cat]) ⟨Nat.le_refl _, Nat.le_refl _⟩ dX13_beginsMarked_113 rfl (fun H locs hp hS => ?_)
  refine lv_iload hx hb dX13_beginsMarked_116 (hl.at 5 rfl) ?_
  refine e_istore (lv' := [(6, .int (iI (x4))), (5, .int (iI (y0))), (0, e_rv B (x0)), (1, .int (iI (x1))), (2, .int (iI (x2))), (3, .int (iI (x3))), (4, .int (iI (x4)))]) hx hb dX13_beginsMarked_118 hl (by decide) rfl (fun ls hl => ?_)
  exact w13_beginsMarked_l120 E 1000000 hp hS (hl.sub [2, 3, 4, 5, 1, 0] rfl) hsh
set_option maxRecDepth 100000 in
set_option maxHeartbeats 4000000 in
theorem w13_beginsMarked_b86 {p : Program} {l : Launch} {e : Env} {s : State} {m : MethodId} {args : Array Value} {below : List Frame} {meth : Method} {c : Code} {D : va_G} {cA : Nat → ClassId} {B : Nat} {res : Int × HP} (E : e_En p s m args meth c cX13_beginsMarked RX13 9 (some .boolean)) {ls : Array Slot} {H : Heap} {locs : List Loc} {S : HP} {x0 : Int} {x1 : Int} {x2 : Int} {x3 : Int} {y0 : Int} (hp : e_Pic D cA B S s H) (hS : va_S (e_A B) s.heap H locs) (hl : e_lo ls 9 [(0, e_rv B (x0)), (1, .int (iI (x1))), (2, .int (iI (x2))), (3, .int (iI (x3)))]) (hsh : s13_beginsMarked_b86 S x0 x1 x2 x3 y0 = some res) : W p l e ({ frames := 2, cells := 0, slots := 0, locals := 48 } : Room) s m args below meth c H locs 0 0 (MQ below (e_Qi D cA B res.1 res.2) args s 0 0 (e_A B)) (F0 m 86 ls [.int (iI (y0))]) := by
  obtain ⟨hx, hb, hml, hown, hts, hlk, hrt⟩ := id E
  unfold s13_beginsMarked_b86 at hsh
  refine e_istore (lv' := [(4, .int (iI (y0))), (0, e_rv B (x0)), (1, .int (iI (x1))), (2, .int (iI (x2))), (3, .int (iI (x3)))]) hx hb dX13_beginsMarked_86 hl (by decide) rfl (fun ls hl => ?_)
  refine e_aload_n (B := B) (x := x0) hx hb dX13_beginsMarked_88 rfl (hl.at 1 rfl) ?_
  obtain ⟨v89, h89, hsh⟩ := Option.bind_eq_some_iff.mp hsh
  refine e_getI (k := 107) hx hb hts in_X13 hown hp h89 rfl (by decide) (by decide) rfl (hts _ kf13_867) rfl dX13_beginsMarked_89 ?_
  refine e_if_eq (tgt := 102) hx hb dX13_beginsMarked_92 (by decide) (fun c92 => ?_) (fun c92 => ?_)
  · rw [if_pos c92] at hsh
    refine e_aload_n (B := B) (x := x0) hx hb dX13_beginsMarked_102 rfl (hl.at 1 rfl) ?_
    obtain ⟨v103, h103, hsh⟩ := Option.bind_eq_some_iff.mp hsh
    refine e_getI (k := 2) hx hb hts in_X13 hown hp h103 rfl (by decide) (by decide) rfl (hts _ kf13_13) rfl dX13_beginsMarked_103 ?_
    refine lv_iconst (v := iI (1)) hx hb dX13_beginsMarked_106 rfl ?_
    refine e_isub hx hb dX13_beginsMarked_107 ?_
    exact w13_beginsMarked_b108 E hp hS (hl.sub [1, 2, 3, 4, 0] rfl) hsh
  · rw [if_neg c92] at hsh
    refine e_aload_n (B := B) (x := x0) hx hb dX13_beginsMarked_95 rfl (hl.at 1 rfl) ?_
    obtain ⟨v96, h96, hsh⟩ := Option.bind_eq_some_iff.mp hsh
    refine e_getI (k := 109) hx hb hts in_X13 hown hp h96 rfl (by decide) (by decide) rfl (hts _ kf13_873) rfl dX13_beginsMarked_96 ?_
    refine lv_goto (tgt := 108) hx hb dX13_beginsMarked_99 (by decide) ?_
    exact w13_beginsMarked_b108 E hp hS (hl.sub [1, 2, 3, 4, 0] rfl) hsh
set_option maxRecDepth 100000 in
set_option maxHeartbeats 4000000 in
theorem w13_beginsMarked_b34 {p : Program} {l : Launch} {e : Env} {s : State} {m : MethodId} {args : Array Value} {below : List Frame} {meth : Method} {c : Code} {D : va_G} {cA : Nat → ClassId} {B : Nat} {res : Int × HP} (E : e_En p s m args meth c cX13_beginsMarked RX13 9 (some .boolean)) {ls : Array Slot} {H : Heap} {locs : List Loc} {S : HP} {x0 : Int} {x1 : Int} {x2 : Int} (hp : e_Pic D cA B S s H) (hS : va_S (e_A B) s.heap H locs) (hl : e_lo ls 9 [(0, e_rv B (x0)), (1, .int (iI (x1))), (2, .int (iI (x2)))]) (hsh : s13_beginsMarked_b34 S x0 x1 x2 = some res) : W p l e ({ frames := 2, cells := 0, slots := 0, locals := 48 } : Room) s m args below meth c H locs 0 0 (MQ below (e_Qi D cA B res.1 res.2) args s 0 0 (e_A B)) (F0 m 34 ls []) := by
  obtain ⟨hx, hb, hml, hown, hts, hlk, hrt⟩ := id E
  unfold s13_beginsMarked_b34 at hsh
  refine e_aload_n (B := B) (x := x0) hx hb dX13_beginsMarked_34 rfl (hl.at 0 rfl) ?_
  refine e_aload_n (B := B) (x := x0) hx hb dX13_beginsMarked_35 rfl (hl.at 0 rfl) ?_
  obtain ⟨v36, h36, hsh⟩ := Option.bind_eq_some_iff.mp hsh
  refine e_getI (k := 105) hx hb hts in_X13 hown hp h36 rfl (by decide) (by decide) rfl (hts _ kf13_861) rfl dX13_beginsMarked_36 ?_
  obtain ⟨⟨v39, S39⟩, h39, hsh⟩ := Option.bind_eq_some_iff.mp hsh
  have hsh : _ = _ := hsh
  try dsimp only at hsh
  have ok39 := ok13_codeAt h39
  refine e_callI (nL := 9) (mc := 0) (ms := 0) (T := TX13) (N := 126) (As := [.int (iI (v36))]) (rest := []) hx hb hml hown hts hp hS hl.size ok39.1 ok39.2.1 ok39.2.2 rfl (by decide) (c13_codeAt l D cA B S S39 (x0) (v36) v39 h39) rfl rfl kd13_codeAt (kl13_864) ks13_codeAt kv13_codeAt ki13 kh13_codeAt ⟨Nat.le_of_ble_eq_true rfl, Nat.le_of_ble_eq_true rfl⟩ rfl (by simp [e_rv_cat, e_int_cat]) ⟨Nat.le_refl _, Nat.le_refl _⟩ dX13_beginsMarked_39 rfl (fun H locs hp hS => ?_)
  refine lv_bipush (v := iI (47)) hx hb dX13_beginsMarked_42 (by decide +kernel) ?_
  refine e_icmp_ne (tgt := 67) hx hb dX13_beginsMarked_44 (by decide) (fun c44 => ?_) (fun c44 => ?_)
  · rw [if_neg c44] at hsh
    exact w13_beginsMarked_b67 E hp hS (hl.sub [] rfl) hsh
  · rw [if_pos c44] at hsh
    refine e_aload_n (B := B) (x := x0) hx hb dX13_beginsMarked_47 rfl (hl.at 0 rfl) ?_
    refine lv_iload_n hx hb dX13_beginsMarked_48 rfl (hl.at 2 rfl) ?_
    obtain ⟨⟨v49, S49⟩, h49, hsh⟩ := Option.bind_eq_some_iff.mp hsh
    have hsh : _ = _ := hsh
    try dsimp only at hsh
    have ok49 := ok13_codeAt h49
    refine e_callI (nL := 9) (mc := 0) (ms := 0) (T := TX13) (N := 126) (As := [.int (iI (x2))]) (rest := []) hx hb hml hown hts hp hS hl.size ok49.1 ok49.2.1 ok49.2.2 rfl (by decide) (c13_codeAt l D cA B S39 S49 (x0) (x2) v49 h49) rfl rfl kd13_codeAt (kl13_864) ks13_codeAt kv13_codeAt ki13 kh13_codeAt ⟨Nat.le_of_ble_eq_true rfl, Nat.le_of_ble_eq_true rfl⟩ rfl (by simp [e_rv_cat, e_int_cat]) ⟨Nat.le_refl _, Nat.le_refl _⟩ dX13_beginsMarked_49 rfl (fun H locs hp hS => ?_)
    refine lv_bipush (v := iI (47)) hx hb dX13_beginsMarked_52 (by decide +kernel) ?_
    refine e_icmp_ne (tgt := 67) hx hb dX13_beginsMarked_54 (by decide) (fun c54 => ?_) (fun c54 => ?_)
    · rw [if_neg c54] at hsh
      exact w13_beginsMarked_b67 E hp hS (hl.sub [] rfl) hsh
    · rw [if_pos c54] at hsh
      refine e_aload_n (B := B) (x := x0) hx hb dX13_beginsMarked_57 rfl (hl.at 0 rfl) ?_
      refine lv_iload_n hx hb dX13_beginsMarked_58 rfl (hl.at 2 rfl) ?_
      refine lv_iconst (v := iI (1)) hx hb dX13_beginsMarked_59 rfl ?_
      refine e_iadd hx hb dX13_beginsMarked_60 ?_
      obtain ⟨⟨v61, S61⟩, h61, hsh⟩ := Option.bind_eq_some_iff.mp hsh
      have hsh : _ = _ := hsh
      try dsimp only at hsh
      have ok61 := ok13_isOne h61
      refine e_callI (nL := 9) (mc := 0) (ms := 0) (T := TX13) (N := 126) (As := [.int (iI ((x2 + 1)))]) (rest := []) hx hb hml hown hts hp hS hl.size ok61.1 ok61.2.1 ok61.2.2 rfl (by decide) (c13_isOne l D cA B S49 S61 (x0) ((x2 + 1)) v61 h61) rfl rfl kd13_isOne (kl13_902) ks13_isOne kv13_isOne ki13 kh13_isOne ⟨Nat.le_of_ble_eq_true rfl, Nat.le_of_ble_eq_true rfl⟩ rfl (by simp [e_rv_cat, e_int_cat]) ⟨Nat.le_refl _, Nat.le_refl _⟩ dX13_beginsMarked_61 rfl (fun H locs hp hS => ?_)
      refine e_if_ne (tgt := 69) hx hb dX13_beginsMarked_64 (by decide) (fun c64 => ?_) (fun c64 => ?_)
      · rw [if_neg c64] at hsh
        refine lv_iconst (v := iI (0)) hx hb dX13_beginsMarked_69 rfl ?_
        refine e_istore_n (lv' := [(3, .int (iI (0))), (0, e_rv B (x0)), (1, .int (iI (x1))), (2, .int (iI (x2)))]) hx hb dX13_beginsMarked_70 rfl hl (by decide) rfl (fun ls hl => ?_)
        refine e_aload_n (B := B) (x := x0) hx hb dX13_beginsMarked_71 rfl (hl.at 1 rfl) ?_
        obtain ⟨v72, h72, hsh⟩ := Option.bind_eq_some_iff.mp hsh
        refine e_getI (k := 107) hx hb hts in_X13 hown hp h72 rfl (by decide) (by decide) rfl (hts _ kf13_867) rfl dX13_beginsMarked_72 ?_
        refine e_if_eq (tgt := 85) hx hb dX13_beginsMarked_75 (by decide) (fun c75 => ?_) (fun c75 => ?_)
        · rw [if_pos c75] at hsh
          refine lv_iconst (v := iI (0)) hx hb dX13_beginsMarked_85 rfl ?_
          exact w13_beginsMarked_b86 E hp hS (hl.sub [1, 2, 3, 0] rfl) hsh
        · rw [if_neg c75] at hsh
          refine e_aload_n (B := B) (x := x0) hx hb dX13_beginsMarked_78 rfl (hl.at 1 rfl) ?_
          obtain ⟨v79, h79, hsh⟩ := Option.bind_eq_some_iff.mp hsh
          refine e_getI (k := 108) hx hb hts in_X13 hown hp h79 rfl (by decide) (by decide) rfl (hts _ kf13_870) rfl dX13_beginsMarked_79 ?_
          refine lv_goto (tgt := 86) hx hb dX13_beginsMarked_82 (by decide) ?_
          exact w13_beginsMarked_b86 E hp hS (hl.sub [1, 2, 3, 0] rfl) hsh
      · rw [if_pos c64] at hsh
        exact w13_beginsMarked_b67 E hp hS (hl.sub [] rfl) hsh
set_option maxRecDepth 100000 in
set_option maxHeartbeats 4000000 in
theorem w13_beginsMarked_l9 {p : Program} {l : Launch} {e : Env} {s : State} {m : MethodId} {args : Array Value} {below : List Frame} {meth : Method} {c : Code} {D : va_G} {cA : Nat → ClassId} {B : Nat} {res : Int × HP} (E : e_En p s m args meth c cX13_beginsMarked RX13 9 (some .boolean)) : ∀ (f : Nat) {ls : Array Slot} {H : Heap} {locs : List Loc} {S : HP} {x0 : Int} {x1 : Int} {x2 : Int} (hp : e_Pic D cA B S s H) (hS : va_S (e_A B) s.heap H locs) (hl : e_lo ls 9 [(0, e_rv B (x0)), (1, .int (iI (x1))), (2, .int (iI (x2)))]) (hsh : s13_beginsMarked_l9 f S x0 x1 x2 = some res), W p l e ({ frames := 2, cells := 0, slots := 0, locals := 48 } : Room) s m args below meth c H locs 0 0 (MQ below (e_Qi D cA B res.1 res.2) args s 0 0 (e_A B)) (F0 m 9 ls []) := by
  obtain ⟨hx, hb, hml, hown, hts, hlk, hrt⟩ := id E
  intro f
  induction f with
  | zero => intro ls H locs S x0 x1 x2 hp hS hl hsh; cases hsh
  | succ f ih =>
    intro ls H locs S x0 x1 x2 hp hS hl hsh
    have hk9 : ∀ {ls : Array Slot} {H : Heap} {locs : List Loc} {S : HP} {x0 : Int} {x1 : Int} {x2 : Int} (hp : e_Pic D cA B S s H) (hS : va_S (e_A B) s.heap H locs) (hl : e_lo ls 9 [(0, e_rv B (x0)), (1, .int (iI (x1))), (2, .int (iI (x2)))]) (hsh : (s13_beginsMarked_l9 f) S x0 x1 x2 = some res), W p l e ({ frames := 2, cells := 0, slots := 0, locals := 48 } : Room) s m args below meth c H locs 0 0 (MQ below (e_Qi D cA B res.1 res.2) args s 0 0 (e_A B)) (F0 m 9 ls []) := ih
    generalize hkk : s13_beginsMarked_l9 f = k9 at hk9
    rw [s13_beginsMarked_l9] at hsh
    rw [hkk] at hsh
    try dsimp only at hsh
    refine e_aload_n (B := B) (x := x0) hx hb dX13_beginsMarked_9 rfl (hl.at 0 rfl) ?_
    refine lv_iload_n hx hb dX13_beginsMarked_10 rfl (hl.at 2 rfl) ?_
    obtain ⟨⟨v11, S11⟩, h11, hsh⟩ := Option.bind_eq_some_iff.mp hsh
    have hsh : _ = _ := hsh
    try dsimp only at hsh
    have ok11 := ok13_codeAt h11
    refine e_callI (nL := 9) (mc := 0) (ms := 0) (T := TX13) (N := 126) (As := [.int (iI (x2))]) (rest := []) hx hb hml hown hts hp hS hl.size ok11.1 ok11.2.1 ok11.2.2 rfl (by decide) (c13_codeAt l D cA B S S11 (x0) (x2) v11 h11) rfl rfl kd13_codeAt (kl13_864) ks13_codeAt kv13_codeAt ki13 kh13_codeAt ⟨Nat.le_of_ble_eq_true rfl, Nat.le_of_ble_eq_true rfl⟩ rfl (by simp [e_rv_cat, e_int_cat]) ⟨Nat.le_refl _, Nat.le_refl _⟩ dX13_beginsMarked_11 rfl (fun H locs hp hS => ?_)
    refine lv_bipush (v := iI (47)) hx hb dX13_beginsMarked_14 (by decide +kernel) ?_
    refine e_icmp_eq (tgt := 34) hx hb dX13_beginsMarked_16 (by decide) (fun c16 => ?_) (fun c16 => ?_)
    · rw [if_pos c16] at hsh
      exact w13_beginsMarked_b34 E hp hS (hl.sub [0, 1, 2] rfl) hsh
    · rw [if_neg c16] at hsh
      refine e_aload_n (B := B) (x := x0) hx hb dX13_beginsMarked_19 rfl (hl.at 0 rfl) ?_
      refine lv_iload_n hx hb dX13_beginsMarked_20 rfl (hl.at 2 rfl) ?_
      obtain ⟨⟨v21, S21⟩, h21, hsh⟩ := Option.bind_eq_some_iff.mp hsh
      have hsh : _ = _ := hsh
      try dsimp only at hsh
      have ok21 := ok13_codeAt h21
      refine e_callI (nL := 9) (mc := 0) (ms := 0) (T := TX13) (N := 126) (As := [.int (iI (x2))]) (rest := []) hx hb hml hown hts hp hS hl.size ok21.1 ok21.2.1 ok21.2.2 rfl (by decide) (c13_codeAt l D cA B S11 S21 (x0) (x2) v21 h21) rfl rfl kd13_codeAt (kl13_864) ks13_codeAt kv13_codeAt ki13 kh13_codeAt ⟨Nat.le_of_ble_eq_true rfl, Nat.le_of_ble_eq_true rfl⟩ rfl (by simp [e_rv_cat, e_int_cat]) ⟨Nat.le_refl _, Nat.le_refl _⟩ dX13_beginsMarked_21 rfl (fun H locs hp hS => ?_)
      refine lv_iconst (v := iI (-1)) hx hb dX13_beginsMarked_24 rfl ?_
      refine e_icmp_eq (tgt := 34) hx hb dX13_beginsMarked_25 (by decide) (fun c25 => ?_) (fun c25 => ?_)
      · rw [if_pos c25] at hsh
        exact w13_beginsMarked_b34 E hp hS (hl.sub [0, 1, 2] rfl) hsh
      · rw [if_neg c25] at hsh
        refine e_iinc (n := 1) (x := x2) (lv' := [(2, .int (iI ((x2 + 1)))), (0, e_rv B (x0)), (1, .int (iI (x1)))]) hx hb dX13_beginsMarked_28 hl (k := 2) rfl (by decide) rfl (fun ls hl => ?_)
        refine lv_goto (tgt := 9) hx hb dX13_beginsMarked_31 (by decide) ?_
        exact hk9 hp hS (hl.sub [1, 2, 0] rfl) hsh
set_option maxRecDepth 100000 in
set_option maxHeartbeats 4000000 in
theorem c13_beginsMarked (l : Launch) (D : va_G) (cA : Nat → ClassId) (B : Nat) (S S' : HP) (x0 : Int) (r : Int) (hsh : s13_beginsMarked S x0 = some (r, S')) : Met l yX13_beginsMarked (e_wu yX13_beginsMarked cX13_beginsMarked 9 (some .boolean)) ({ frames := 2, cells := 0, slots := 0, locals := 48 } : Room) (va_Pc [e_rv B (x0)] (fun U => e_PU D cA B S U)) (e_Qi D cA B r S') 0 0 (e_A B) := by
  refine Met.ofW (cc := cX13_beginsMarked) (maxL := 9) (ret := (some .boolean)) (by decide +kernel) rfl ?_
  intro p e s m args below meth c s₁ Bd hml hv
  obtain ⟨rfl, hp⟩ := hv
  have hp : e_Pic D cA B S s s.heap := hp
  have hx := Bd.exec
  have hb := Bd.bytes
  have hrt := Bd.returns
  have hlk := Bd.notSynchronized
  have hown : s.vm.findClass RX13 = some m.cls := findClass_of_methodNamed Bd.named
  have hts : ∀ w ∈ e_tb, w.before ([e_rv B (x0)] : List Value).toArray s = true := fun w h => atoms_spec (ws := (e_wu yX13_beginsMarked cX13_beginsMarked 9 (some .boolean))) Bd.pre w (List.mem_cons_of_mem _ h)
  have E : e_En p s m ([e_rv B (x0)] : List Value).toArray meth c cX13_beginsMarked RX13 9 (some .boolean) := ⟨hx, hb, hml, hown, hts, hlk, hrt⟩
  have hS : va_S (e_A B) s.heap s.heap [] := va_S.rf
  have hl := e_entry (vs := [e_rv B (x0)]) (n := 9) (Nat.le_of_ble_eq_true rfl) (e_cc (e_rv_cat _ _) e_cn)
  rw [lg_entry_eq]
  generalize (lg_sl [e_rv B (x0)] ++ List.replicate (9 - (lg_sl [e_rv B (x0)]).length) Slot.unset).toArray = ls at hl ⊢
  generalize ([e_rv B (x0)] : List Value).toArray = args at hts E ⊢
  have hl : e_lo ls 9 [(0, e_rv B (x0))] := hl
  have hsh := (gd_some hsh).2
  refine e_aload_n (B := B) (x := x0) hx hb dX13_beginsMarked_0 rfl (hl.at 0 rfl) ?_
  obtain ⟨v1, h1, hsh⟩ := Option.bind_eq_some_iff.mp hsh
  refine e_getI (k := 105) hx hb hts in_X13 hown hp h1 rfl (by decide) (by decide) rfl (hts _ kf13_861) rfl dX13_beginsMarked_1 ?_
  refine lv_iconst (v := iI (1)) hx hb dX13_beginsMarked_4 rfl ?_
  refine e_iadd hx hb dX13_beginsMarked_5 ?_
  refine e_istore_n (lv' := [(1, .int (iI ((v1 + 1)))), (0, e_rv B (x0))]) hx hb dX13_beginsMarked_6 rfl hl (by decide) rfl (fun ls hl => ?_)
  refine lv_iload_n hx hb dX13_beginsMarked_7 rfl (hl.at 0 rfl) ?_
  refine e_istore_n (lv' := [(2, .int (iI ((v1 + 1)))), (1, .int (iI ((v1 + 1)))), (0, e_rv B (x0))]) hx hb dX13_beginsMarked_8 rfl hl (by decide) rfl (fun ls hl => ?_)
  exact w13_beginsMarked_l9 E 1000000 hp hS (hl.sub [2, 1, 0] rfl) hsh
theorem ok13_beginsMap {S : HP} {x0 : Int} {x1 : Int} {x2 : Int} {r : Int × HP} (h : s13_beginsMap S x0 x1 x2 = some r) : 0 ≤ x0 ∧ x0.toNat < e_n S ∧ e_g S x0.toNat = 13 := (gd_some h).1
set_option maxRecDepth 100000 in
set_option maxHeartbeats 4000000 in
theorem w13_beginsMap_b85 {p : Program} {l : Launch} {e : Env} {s : State} {m : MethodId} {args : Array Value} {below : List Frame} {meth : Method} {c : Code} {D : va_G} {cA : Nat → ClassId} {B : Nat} {res : Int × HP} (E : e_En p s m args meth c cX13_beginsMap RX13 5 (some .boolean)) {ls : Array Slot} {H : Heap} {locs : List Loc} {S : HP} {x3 : Int} (hp : e_Pic D cA B S s H) (hS : va_S (e_A B) s.heap H locs) (hl : e_lo ls 5 [(3, .int (iI (x3)))]) (hsh : s13_beginsMap_b85 S x3 = some res) : W p l e ({ frames := 1, cells := 0, slots := 0, locals := 20 } : Room) s m args below meth c H locs 0 0 (MQ below (e_Qi D cA B res.1 res.2) args s 0 0 (e_A B)) (F0 m 85 ls []) := by
  obtain ⟨hx, hb, hml, hown, hts, hlk, hrt⟩ := id E
  unfold s13_beginsMap_b85 at hsh
  refine lv_iload_n hx hb dX13_beginsMap_85 rfl (hl.at 0 rfl) ?_
  obtain ⟨hz, hz1, hz2⟩ := zR_some hsh
  rw [← hz1, ← hz2]
  exact e_zret hx hb hrt hlk hp hS hz dX13_beginsMap_86
set_option maxRecDepth 100000 in
set_option maxHeartbeats 4000000 in
theorem w13_beginsMap_b78 {p : Program} {l : Launch} {e : Env} {s : State} {m : MethodId} {args : Array Value} {below : List Frame} {meth : Method} {c : Code} {D : va_G} {cA : Nat → ClassId} {B : Nat} {res : Int × HP} {k32 : HP → Int → Int → Int → Int → Int → Option (Int × HP)} (hk32 : ∀ {ls : Array Slot} {H : Heap} {locs : List Loc} {S : HP} {x0 : Int} {x1 : Int} {x2 : Int} {x3 : Int} {x4 : Int} (hp : e_Pic D cA B S s H) (hS : va_S (e_A B) s.heap H locs) (hl : e_lo ls 5 [(0, e_rv B (x0)), (1, .int (iI (x1))), (2, .int (iI (x2))), (3, .int (iI (x3))), (4, .int (iI (x4)))]) (hsh : k32 S x0 x1 x2 x3 x4 = some res), W p l e ({ frames := 1, cells := 0, slots := 0, locals := 20 } : Room) s m args below meth c H locs 0 0 (MQ below (e_Qi D cA B res.1 res.2) args s 0 0 (e_A B)) (F0 m 32 ls [])) (E : e_En p s m args meth c cX13_beginsMap RX13 5 (some .boolean)) {ls : Array Slot} {H : Heap} {locs : List Loc} {S : HP} {x0 : Int} {x1 : Int} {x2 : Int} {x4 : Int} {y0 : Int} (hp : e_Pic D cA B S s H) (hS : va_S (e_A B) s.heap H locs) (hl : e_lo ls 5 [(0, e_rv B (x0)), (1, .int (iI (x1))), (2, .int (iI (x2))), (4, .int (iI (x4)))]) (hsh : s13_beginsMap_b78 k32 S x0 x1 x2 x4 y0 = some res) : W p l e ({ frames := 1, cells := 0, slots := 0, locals := 20 } : Room) s m args below meth c H locs 0 0 (MQ below (e_Qi D cA B res.1 res.2) args s 0 0 (e_A B)) (F0 m 78 ls [.int (iI (y0))]) := by
  obtain ⟨hx, hb, hml, hown, hts, hlk, hrt⟩ := id E
  unfold s13_beginsMap_b78 at hsh
  refine e_istore_n (lv' := [(3, .int (iI (y0))), (0, e_rv B (x0)), (1, .int (iI (x1))), (2, .int (iI (x2))), (4, .int (iI (x4)))]) hx hb dX13_beginsMap_78 rfl hl (by decide) rfl (fun ls hl => ?_)
  refine e_iinc (n := 1) (x := x4) (lv' := [(4, .int (iI ((x4 + 1)))), (3, .int (iI (y0))), (0, e_rv B (x0)), (1, .int (iI (x1))), (2, .int (iI (x2)))]) hx hb dX13_beginsMap_79 hl (k := 4) rfl (by decide) rfl (fun ls hl => ?_)
  refine lv_goto (tgt := 32) hx hb dX13_beginsMap_82 (by decide) ?_
  exact hk32 hp hS (hl.sub [2, 3, 4, 1, 0] rfl) hsh
set_option maxRecDepth 100000 in
set_option maxHeartbeats 4000000 in
theorem w13_beginsMap_b77 {p : Program} {l : Launch} {e : Env} {s : State} {m : MethodId} {args : Array Value} {below : List Frame} {meth : Method} {c : Code} {D : va_G} {cA : Nat → ClassId} {B : Nat} {res : Int × HP} {k32 : HP → Int → Int → Int → Int → Int → Option (Int × HP)} (hk32 : ∀ {ls : Array Slot} {H : Heap} {locs : List Loc} {S : HP} {x0 : Int} {x1 : Int} {x2 : Int} {x3 : Int} {x4 : Int} (hp : e_Pic D cA B S s H) (hS : va_S (e_A B) s.heap H locs) (hl : e_lo ls 5 [(0, e_rv B (x0)), (1, .int (iI (x1))), (2, .int (iI (x2))), (3, .int (iI (x3))), (4, .int (iI (x4)))]) (hsh : k32 S x0 x1 x2 x3 x4 = some res), W p l e ({ frames := 1, cells := 0, slots := 0, locals := 20 } : Room) s m args below meth c H locs 0 0 (MQ below (e_Qi D cA B res.1 res.2) args s 0 0 (e_A B)) (F0 m 32 ls [])) (E : e_En p s m args meth c cX13_beginsMap RX13 5 (some .boolean)) {ls : Array Slot} {H : Heap} {locs : List Loc} {S : HP} {x0 : Int} {x1 : Int} {x2 : Int} {x4 : Int} (hp : e_Pic D cA B S s H) (hS : va_S (e_A B) s.heap H locs) (hl : e_lo ls 5 [(0, e_rv B (x0)), (1, .int (iI (x1))), (2, .int (iI (x2))), (4, .int (iI (x4)))]) (hsh : s13_beginsMap_b77 k32 S x0 x1 x2 x4 = some res) : W p l e ({ frames := 1, cells := 0, slots := 0, locals := 20 } : Room) s m args below meth c H locs 0 0 (MQ below (e_Qi D cA B res.1 res.2) args s 0 0 (e_A B)) (F0 m 77 ls []) := by
  obtain ⟨hx, hb, hml, hown, hts, hlk, hrt⟩ := id E
  unfold s13_beginsMap_b77 at hsh
  refine lv_iconst (v := iI (0)) hx hb dX13_beginsMap_77 rfl ?_
  exact w13_beginsMap_b78 (hk32 := hk32) E hp hS (hl.sub [0, 1, 2, 3] rfl) hsh
set_option maxRecDepth 100000 in
set_option maxHeartbeats 4000000 in
theorem w13_beginsMap_l32 {p : Program} {l : Launch} {e : Env} {s : State} {m : MethodId} {args : Array Value} {below : List Frame} {meth : Method} {c : Code} {D : va_G} {cA : Nat → ClassId} {B : Nat} {res : Int × HP} (E : e_En p s m args meth c cX13_beginsMap RX13 5 (some .boolean)) : ∀ (f : Nat) {ls : Array Slot} {H : Heap} {locs : List Loc} {S : HP} {x0 : Int} {x1 : Int} {x2 : Int} {x3 : Int} {x4 : Int} (hp : e_Pic D cA B S s H) (hS : va_S (e_A B) s.heap H locs) (hl : e_lo ls 5 [(0, e_rv B (x0)), (1, .int (iI (x1))), (2, .int (iI (x2))), (3, .int (iI (x3))), (4, .int (iI (x4)))]) (hsh : s13_beginsMap_l32 f S x0 x1 x2 x3 x4 = some res), W p l e ({ frames := 1, cells := 0, slots := 0, locals := 20 } : Room) s m args below meth c H locs 0 0 (MQ below (e_Qi D cA B res.1 res.2) args s 0 0 (e_A B)) (F0 m 32 ls []) := by
  obtain ⟨hx, hb, hml, hown, hts, hlk, hrt⟩ := id E
  intro f
  induction f with
  | zero => intro ls H locs S x0 x1 x2 x3 x4 hp hS hl hsh; cases hsh
  | succ f ih =>
    intro ls H locs S x0 x1 x2 x3 x4 hp hS hl hsh
    have hk32 : ∀ {ls : Array Slot} {H : Heap} {locs : List Loc} {S : HP} {x0 : Int} {x1 : Int} {x2 : Int} {x3 : Int} {x4 : Int} (hp : e_Pic D cA B S s H) (hS : va_S (e_A B) s.heap H locs) (hl : e_lo ls 5 [(0, e_rv B (x0)), (1, .int (iI (x1))), (2, .int (iI (x2))), (3, .int (iI (x3))), (4, .int (iI (x4)))]) (hsh : (s13_beginsMap_l32 f) S x0 x1 x2 x3 x4 = some res), W p l e ({ frames := 1, cells := 0, slots := 0, locals := 20 } : Room) s m args below meth c H locs 0 0 (MQ below (e_Qi D cA B res.1 res.2) args s 0 0 (e_A B)) (F0 m 32 ls []) := ih
    generalize hkk : s13_beginsMap_l32 f = k32 at hk32
    rw [s13_beginsMap_l32] at hsh
    rw [hkk] at hsh
    try dsimp only at hsh
    refine lv_iload hx hb dX13_beginsMap_32 (hl.at 4 rfl) ?_
    refine lv_iload_n hx hb dX13_beginsMap_34 rfl (hl.at 2 rfl) ?_
    refine e_icmp_ge (tgt := 85) hx hb dX13_beginsMap_35 (by decide) (fun c35 => ?_) (fun c35 => ?_)
    · rw [if_pos c35] at hsh
      exact w13_beginsMap_b85 E hp hS (hl.sub [3] rfl) hsh
    · rw [if_neg c35] at hsh
      refine lv_iload_n hx hb dX13_beginsMap_38 rfl (hl.at 3 rfl) ?_
      refine e_if_eq (tgt := 85) hx hb dX13_beginsMap_39 (by decide) (fun c39 => ?_) (fun c39 => ?_)
      · rw [if_pos c39] at hsh
        exact w13_beginsMap_b85 E hp hS (hl.sub [3] rfl) hsh
      · rw [if_neg c39] at hsh
        refine e_aload_n (B := B) (x := x0) hx hb dX13_beginsMap_42 rfl (hl.at 0 rfl) ?_
        obtain ⟨v43, h43, hsh⟩ := Option.bind_eq_some_iff.mp hsh
        refine e_getR (k := 116) hx hb hts in_X13 hown hp h43 rfl (by decide) (by decide) rfl (hts _ kf13_172) rfl dX13_beginsMap_43 ?_
        refine lv_iconst (v := iI (4)) hx hb dX13_beginsMap_46 rfl ?_
        refine lv_iload_n hx hb dX13_beginsMap_47 rfl (hl.at 1 rfl) ?_
        refine e_imul hx hb dX13_beginsMap_48 ?_
        refine lv_iload hx hb dX13_beginsMap_49 (hl.at 4 rfl) ?_
        refine e_iadd hx hb dX13_beginsMap_51 ?_
        obtain ⟨v52, h52, hsh⟩ := Option.bind_eq_some_iff.mp hsh
        refine e_iald hx hb hp h52 dX13_beginsMap_52 ?_
        refine e_aload_n (B := B) (x := x0) hx hb dX13_beginsMap_53 rfl (hl.at 0 rfl) ?_
        obtain ⟨v54, h54, hsh⟩ := Option.bind_eq_some_iff.mp hsh
        refine e_getR (k := 120) hx hb hts in_X13 hown hp h54 rfl (by decide) (by decide) rfl (hts _ kf13_182) rfl dX13_beginsMap_54 ?_
        refine lv_iload hx hb dX13_beginsMap_57 (hl.at 4 rfl) ?_
        obtain ⟨v59, h59, hsh⟩ := Option.bind_eq_some_iff.mp hsh
        refine e_iald hx hb hp h59 dX13_beginsMap_59 ?_
        refine e_icmp_ne (tgt := 77) hx hb dX13_beginsMap_60 (by decide) (fun c60 => ?_) (fun c60 => ?_)
        · rw [if_neg c60] at hsh
          exact w13_beginsMap_b77 (hk32 := hk32) E hp hS (hl.sub [0, 1, 2, 4] rfl) hsh
        · rw [if_pos c60] at hsh
          refine e_aload_n (B := B) (x := x0) hx hb dX13_beginsMap_63 rfl (hl.at 0 rfl) ?_
          obtain ⟨v64, h64, hsh⟩ := Option.bind_eq_some_iff.mp hsh
          refine e_getR (k := 122) hx hb hts in_X13 hown hp h64 rfl (by decide) (by decide) rfl (hts _ kf13_188) rfl dX13_beginsMap_64 ?_
          refine lv_iload hx hb dX13_beginsMap_67 (hl.at 4 rfl) ?_
          obtain ⟨v69, h69, hsh⟩ := Option.bind_eq_some_iff.mp hsh
          refine e_bald hx hb hp h69 dX13_beginsMap_69 ?_
          refine e_if_eq (tgt := 77) hx hb dX13_beginsMap_70 (by decide) (fun c70 => ?_) (fun c70 => ?_)
          · rw [if_pos c70] at hsh
            exact w13_beginsMap_b77 (hk32 := hk32) E hp hS (hl.sub [0, 1, 2, 4] rfl) hsh
          · rw [if_neg c70] at hsh
            refine lv_iconst (v := iI (1)) hx hb dX13_beginsMap_73 rfl ?_
            refine lv_goto (tgt := 78) hx hb dX13_beginsMap_74 (by decide) ?_
            exact w13_beginsMap_b78 (hk32 := hk32) E hp hS (hl.sub [0, 1, 2, 4] rfl) hsh
set_option maxRecDepth 100000 in
set_option maxHeartbeats 4000000 in
theorem w13_beginsMap_b28 {p : Program} {l : Launch} {e : Env} {s : State} {m : MethodId} {args : Array Value} {below : List Frame} {meth : Method} {c : Code} {D : va_G} {cA : Nat → ClassId} {B : Nat} {res : Int × HP} (E : e_En p s m args meth c cX13_beginsMap RX13 5 (some .boolean)) {ls : Array Slot} {H : Heap} {locs : List Loc} {S : HP} {x0 : Int} {x1 : Int} {x2 : Int} {y0 : Int} (hp : e_Pic D cA B S s H) (hS : va_S (e_A B) s.heap H locs) (hl : e_lo ls 5 [(0, e_rv B (x0)), (1, .int (iI (x1))), (2, .int (iI (x2)))]) (hsh : s13_beginsMap_b28 S x0 x1 x2 y0 = some res) : W p l e ({ frames := 1, cells := 0, slots := 0, locals := 20 } : Room) s m args below meth c H locs 0 0 (MQ below (e_Qi D cA B res.1 res.2) args s 0 0 (e_A B)) (F0 m 28 ls [.int (iI (y0))]) := by
  obtain ⟨hx, hb, hml, hown, hts, hlk, hrt⟩ := id E
  unfold s13_beginsMap_b28 at hsh
  refine e_istore_n (lv' := [(3, .int (iI (y0))), (0, e_rv B (x0)), (1, .int (iI (x1))), (2, .int (iI (x2)))]) hx hb dX13_beginsMap_28 rfl hl (by decide) rfl (fun ls hl => ?_)
  refine lv_iconst (v := iI (0)) hx hb dX13_beginsMap_29 rfl ?_
  refine e_istore (lv' := [(4, .int (iI (0))), (3, .int (iI (y0))), (0, e_rv B (x0)), (1, .int (iI (x1))), (2, .int (iI (x2)))]) hx hb dX13_beginsMap_30 hl (by decide) rfl (fun ls hl => ?_)
  exact w13_beginsMap_l32 E 1000000 hp hS (hl.sub [2, 3, 4, 1, 0] rfl) hsh
set_option maxRecDepth 100000 in
set_option maxHeartbeats 4000000 in
theorem w13_beginsMap_b27 {p : Program} {l : Launch} {e : Env} {s : State} {m : MethodId} {args : Array Value} {below : List Frame} {meth : Method} {c : Code} {D : va_G} {cA : Nat → ClassId} {B : Nat} {res : Int × HP} (E : e_En p s m args meth c cX13_beginsMap RX13 5 (some .boolean)) {ls : Array Slot} {H : Heap} {locs : List Loc} {S : HP} {x0 : Int} {x1 : Int} {x2 : Int} (hp : e_Pic D cA B S s H) (hS : va_S (e_A B) s.heap H locs) (hl : e_lo ls 5 [(0, e_rv B (x0)), (1, .int (iI (x1))), (2, .int (iI (x2)))]) (hsh : s13_beginsMap_b27 S x0 x1 x2 = some res) : W p l e ({ frames := 1, cells := 0, slots := 0, locals := 20 } : Room) s m args below meth c H locs 0 0 (MQ below (e_Qi D cA B res.1 res.2) args s 0 0 (e_A B)) (F0 m 27 ls []) := by
  obtain ⟨hx, hb, hml, hown, hts, hlk, hrt⟩ := id E
  unfold s13_beginsMap_b27 at hsh
  refine lv_iconst (v := iI (0)) hx hb dX13_beginsMap_27 rfl ?_
  exact w13_beginsMap_b28 E hp hS (hl.sub [0, 1, 2] rfl) hsh
set_option maxRecDepth 100000 in
set_option maxHeartbeats 4000000 in
theorem c13_beginsMap (l : Launch) (D : va_G) (cA : Nat → ClassId) (B : Nat) (S S' : HP) (x0 : Int) (x1 : Int) (x2 : Int) (r : Int) (hsh : s13_beginsMap S x0 x1 x2 = some (r, S')) : Met l yX13_beginsMap (e_wu yX13_beginsMap cX13_beginsMap 5 (some .boolean)) ({ frames := 1, cells := 0, slots := 0, locals := 20 } : Room) (va_Pc [e_rv B (x0), .int (iI (x1)), .int (iI (x2))] (fun U => e_PU D cA B S U)) (e_Qi D cA B r S') 0 0 (e_A B) := by
  refine Met.ofW (cc := cX13_beginsMap) (maxL := 5) (ret := (some .boolean)) (by decide +kernel) rfl ?_
  intro p e s m args below meth c s₁ Bd hml hv
  obtain ⟨rfl, hp⟩ := hv
  have hp : e_Pic D cA B S s s.heap := hp
  have hx := Bd.exec
  have hb := Bd.bytes
  have hrt := Bd.returns
  have hlk := Bd.notSynchronized
  have hown : s.vm.findClass RX13 = some m.cls := findClass_of_methodNamed Bd.named
  have hts : ∀ w ∈ e_tb, w.before ([e_rv B (x0), .int (iI (x1)), .int (iI (x2))] : List Value).toArray s = true := fun w h => atoms_spec (ws := (e_wu yX13_beginsMap cX13_beginsMap 5 (some .boolean))) Bd.pre w (List.mem_cons_of_mem _ h)
  have E : e_En p s m ([e_rv B (x0), .int (iI (x1)), .int (iI (x2))] : List Value).toArray meth c cX13_beginsMap RX13 5 (some .boolean) := ⟨hx, hb, hml, hown, hts, hlk, hrt⟩
  have hS : va_S (e_A B) s.heap s.heap [] := va_S.rf
  have hl := e_entry (vs := [e_rv B (x0), .int (iI (x1)), .int (iI (x2))]) (n := 5) (Nat.le_of_ble_eq_true rfl) (e_cc (e_rv_cat _ _) (e_cc rfl (e_cc rfl e_cn)))
  rw [lg_entry_eq]
  generalize (lg_sl [e_rv B (x0), .int (iI (x1)), .int (iI (x2))] ++ List.replicate (5 - (lg_sl [e_rv B (x0), .int (iI (x1)), .int (iI (x2))]).length) Slot.unset).toArray = ls at hl ⊢
  generalize ([e_rv B (x0), .int (iI (x1)), .int (iI (x2))] : List Value).toArray = args at hts E ⊢
  have hl : e_lo ls 5 [(0, e_rv B (x0)), (1, .int (iI (x1))), (2, .int (iI (x2)))] := hl
  have hsh := (gd_some hsh).2
  refine e_aload_n (B := B) (x := x0) hx hb dX13_beginsMap_0 rfl (hl.at 0 rfl) ?_
  obtain ⟨v1, h1, hsh⟩ := Option.bind_eq_some_iff.mp hsh
  refine e_getR (k := 114) hx hb hts in_X13 hown hp h1 rfl (by decide) (by decide) rfl (hts _ kf13_166) rfl dX13_beginsMap_1 ?_
  refine lv_iload_n hx hb dX13_beginsMap_4 rfl (hl.at 1 rfl) ?_
  obtain ⟨v5, h5, hsh⟩ := Option.bind_eq_some_iff.mp hsh
  refine e_iald hx hb hp h5 dX13_beginsMap_5 ?_
  refine e_aload_n (B := B) (x := x0) hx hb dX13_beginsMap_6 rfl (hl.at 0 rfl) ?_
  obtain ⟨⟨v7, S7⟩, h7, hsh⟩ := Option.bind_eq_some_iff.mp hsh
  have hsh : _ = _ := hsh
  try dsimp only at hsh
  have ok7 := ok13_mapsFor h7
  refine e_callI (nL := 5) (mc := 0) (ms := 0) (T := TX13) (N := 126) (As := []) (rest := [.int (iI (v5))]) hx hb hml hown hts hp hS hl.size ok7.1 ok7.2.1 ok7.2.2 rfl (by decide) (c13_mapsFor l D cA B S S7 (x0) v7 h7) rfl rfl kd13_mapsFor (kl13_1003) ks13_mapsFor kv13_mapsFor ki13 kh13_mapsFor ⟨Nat.le_of_ble_eq_true rfl, Nat.le_of_ble_eq_true rfl⟩ rfl (by simp [e_rv_cat, e_int_cat]) ⟨Nat.le_refl _, Nat.le_refl _⟩ dX13_beginsMap_7 rfl (fun H locs hp hS => ?_)
  refine e_icmp_ne (tgt := 27) hx hb dX13_beginsMap_10 (by decide) (fun c10 => ?_) (fun c10 => ?_)
  · rw [if_neg c10] at hsh
    exact w13_beginsMap_b27 E hp hS (hl.sub [0, 1, 2] rfl) hsh
  · rw [if_pos c10] at hsh
    refine e_aload_n (B := B) (x := x0) hx hb dX13_beginsMap_13 rfl (hl.at 0 rfl) ?_
    obtain ⟨v14, h14, hsh⟩ := Option.bind_eq_some_iff.mp hsh
    refine e_getR (k := 115) hx hb hts in_X13 hown hp h14 rfl (by decide) (by decide) rfl (hts _ kf13_169) rfl dX13_beginsMap_14 ?_
    refine lv_iload_n hx hb dX13_beginsMap_17 rfl (hl.at 1 rfl) ?_
    obtain ⟨v18, h18, hsh⟩ := Option.bind_eq_some_iff.mp hsh
    refine e_iald hx hb hp h18 dX13_beginsMap_18 ?_
    refine lv_iload_n hx hb dX13_beginsMap_19 rfl (hl.at 2 rfl) ?_
    refine e_icmp_lt (tgt := 27) hx hb dX13_beginsMap_20 (by decide) (fun c20 => ?_) (fun c20 => ?_)
    · rw [if_pos c20] at hsh
      exact w13_beginsMap_b27 E hp hS (hl.sub [0, 1, 2] rfl) hsh
    · rw [if_neg c20] at hsh
      refine lv_iconst (v := iI (1)) hx hb dX13_beginsMap_23 rfl ?_
      refine lv_goto (tgt := 28) hx hb dX13_beginsMap_24 (by decide) ?_
      exact w13_beginsMap_b28 E hp hS (hl.sub [0, 1, 2] rfl) hsh
theorem ok13_mapWith {S : HP} {x0 : Int} {x1 : Int} {r : Int × HP} (h : s13_mapWith S x0 x1 = some r) : 0 ≤ x0 ∧ x0.toNat < e_n S ∧ e_g S x0.toNat = 13 := (gd_some h).1
set_option maxRecDepth 100000 in
set_option maxHeartbeats 4000000 in
theorem w13_mapWith_b36 {p : Program} {l : Launch} {e : Env} {s : State} {m : MethodId} {args : Array Value} {below : List Frame} {meth : Method} {c : Code} {D : va_G} {cA : Nat → ClassId} {B : Nat} {res : Int × HP} {k4 : HP → Int → Int → Int → Int → Option (Int × HP)} (hk4 : ∀ {ls : Array Slot} {H : Heap} {locs : List Loc} {S : HP} {x0 : Int} {x1 : Int} {x2 : Int} {x3 : Int} (hp : e_Pic D cA B S s H) (hS : va_S (e_A B) s.heap H locs) (hl : e_lo ls 4 [(0, e_rv B (x0)), (1, .int (iI (x1))), (2, .int (iI (x2))), (3, .int (iI (x3)))]) (hsh : k4 S x0 x1 x2 x3 = some res), W p l e ({ frames := 2, cells := 0, slots := 0, locals := 44 } : Room) s m args below meth c H locs 0 0 (MQ below (e_Qi D cA B res.1 res.2) args s 0 0 (e_A B)) (F0 m 4 ls [])) (E : e_En p s m args meth c cX13_mapWith RX13 4 (some .int)) {ls : Array Slot} {H : Heap} {locs : List Loc} {S : HP} {x0 : Int} {x1 : Int} {x3 : Int} {y0 : Int} (hp : e_Pic D cA B S s H) (hS : va_S (e_A B) s.heap H locs) (hl : e_lo ls 4 [(0, e_rv B (x0)), (1, .int (iI (x1))), (3, .int (iI (x3)))]) (hsh : s13_mapWith_b36 k4 S x0 x1 x3 y0 = some res) : W p l e ({ frames := 2, cells := 0, slots := 0, locals := 44 } : Room) s m args below meth c H locs 0 0 (MQ below (e_Qi D cA B res.1 res.2) args s 0 0 (e_A B)) (F0 m 36 ls [.int (iI (y0))]) := by
  obtain ⟨hx, hb, hml, hown, hts, hlk, hrt⟩ := id E
  unfold s13_mapWith_b36 at hsh
  refine e_istore_n (lv' := [(2, .int (iI (y0))), (0, e_rv B (x0)), (1, .int (iI (x1))), (3, .int (iI (x3)))]) hx hb dX13_mapWith_36 rfl hl (by decide) rfl (fun ls hl => ?_)
  refine e_iinc (n := 1) (x := x3) (lv' := [(3, .int (iI ((x3 + 1)))), (2, .int (iI (y0))), (0, e_rv B (x0)), (1, .int (iI (x1)))]) hx hb dX13_mapWith_37 hl (k := 3) rfl (by decide) rfl (fun ls hl => ?_)
  refine lv_goto (tgt := 4) hx hb dX13_mapWith_40 (by decide) ?_
  exact hk4 hp hS (hl.sub [2, 3, 1, 0] rfl) hsh
set_option maxRecDepth 100000 in
set_option maxHeartbeats 4000000 in
theorem w13_mapWith_b35 {p : Program} {l : Launch} {e : Env} {s : State} {m : MethodId} {args : Array Value} {below : List Frame} {meth : Method} {c : Code} {D : va_G} {cA : Nat → ClassId} {B : Nat} {res : Int × HP} {k4 : HP → Int → Int → Int → Int → Option (Int × HP)} (hk4 : ∀ {ls : Array Slot} {H : Heap} {locs : List Loc} {S : HP} {x0 : Int} {x1 : Int} {x2 : Int} {x3 : Int} (hp : e_Pic D cA B S s H) (hS : va_S (e_A B) s.heap H locs) (hl : e_lo ls 4 [(0, e_rv B (x0)), (1, .int (iI (x1))), (2, .int (iI (x2))), (3, .int (iI (x3)))]) (hsh : k4 S x0 x1 x2 x3 = some res), W p l e ({ frames := 2, cells := 0, slots := 0, locals := 44 } : Room) s m args below meth c H locs 0 0 (MQ below (e_Qi D cA B res.1 res.2) args s 0 0 (e_A B)) (F0 m 4 ls [])) (E : e_En p s m args meth c cX13_mapWith RX13 4 (some .int)) {ls : Array Slot} {H : Heap} {locs : List Loc} {S : HP} {x0 : Int} {x1 : Int} {x2 : Int} {x3 : Int} (hp : e_Pic D cA B S s H) (hS : va_S (e_A B) s.heap H locs) (hl : e_lo ls 4 [(0, e_rv B (x0)), (1, .int (iI (x1))), (2, .int (iI (x2))), (3, .int (iI (x3)))]) (hsh : s13_mapWith_b35 k4 S x0 x1 x2 x3 = some res) : W p l e ({ frames := 2, cells := 0, slots := 0, locals := 44 } : Room) s m args below meth c H locs 0 0 (MQ below (e_Qi D cA B res.1 res.2) args s 0 0 (e_A B)) (F0 m 35 ls []) := by
  obtain ⟨hx, hb, hml, hown, hts, hlk, hrt⟩ := id E
  unfold s13_mapWith_b35 at hsh
  refine lv_iload_n hx hb dX13_mapWith_35 rfl (hl.at 2 rfl) ?_
  exact w13_mapWith_b36 (hk4 := hk4) E hp hS (hl.sub [0, 1, 3] rfl) hsh
set_option maxRecDepth 100000 in
set_option maxHeartbeats 4000000 in
theorem w13_mapWith_l4 {p : Program} {l : Launch} {e : Env} {s : State} {m : MethodId} {args : Array Value} {below : List Frame} {meth : Method} {c : Code} {D : va_G} {cA : Nat → ClassId} {B : Nat} {res : Int × HP} (E : e_En p s m args meth c cX13_mapWith RX13 4 (some .int)) : ∀ (f : Nat) {ls : Array Slot} {H : Heap} {locs : List Loc} {S : HP} {x0 : Int} {x1 : Int} {x2 : Int} {x3 : Int} (hp : e_Pic D cA B S s H) (hS : va_S (e_A B) s.heap H locs) (hl : e_lo ls 4 [(0, e_rv B (x0)), (1, .int (iI (x1))), (2, .int (iI (x2))), (3, .int (iI (x3)))]) (hsh : s13_mapWith_l4 f S x0 x1 x2 x3 = some res), W p l e ({ frames := 2, cells := 0, slots := 0, locals := 44 } : Room) s m args below meth c H locs 0 0 (MQ below (e_Qi D cA B res.1 res.2) args s 0 0 (e_A B)) (F0 m 4 ls []) := by
  obtain ⟨hx, hb, hml, hown, hts, hlk, hrt⟩ := id E
  intro f
  induction f with
  | zero => intro ls H locs S x0 x1 x2 x3 hp hS hl hsh; cases hsh
  | succ f ih =>
    intro ls H locs S x0 x1 x2 x3 hp hS hl hsh
    have hk4 : ∀ {ls : Array Slot} {H : Heap} {locs : List Loc} {S : HP} {x0 : Int} {x1 : Int} {x2 : Int} {x3 : Int} (hp : e_Pic D cA B S s H) (hS : va_S (e_A B) s.heap H locs) (hl : e_lo ls 4 [(0, e_rv B (x0)), (1, .int (iI (x1))), (2, .int (iI (x2))), (3, .int (iI (x3)))]) (hsh : (s13_mapWith_l4 f) S x0 x1 x2 x3 = some res), W p l e ({ frames := 2, cells := 0, slots := 0, locals := 44 } : Room) s m args below meth c H locs 0 0 (MQ below (e_Qi D cA B res.1 res.2) args s 0 0 (e_A B)) (F0 m 4 ls []) := ih
    generalize hkk : s13_mapWith_l4 f = k4 at hk4
    rw [s13_mapWith_l4] at hsh
    rw [hkk] at hsh
    try dsimp only at hsh
    refine lv_iload_n hx hb dX13_mapWith_4 rfl (hl.at 3 rfl) ?_
    refine e_aload_n (B := B) (x := x0) hx hb dX13_mapWith_5 rfl (hl.at 0 rfl) ?_
    obtain ⟨v6, h6, hsh⟩ := Option.bind_eq_some_iff.mp hsh
    refine e_getI (k := 113) hx hb hts in_X13 hown hp h6 rfl (by decide) (by decide) rfl (hts _ kf13_1006) rfl dX13_mapWith_6 ?_
    refine e_icmp_ge (tgt := 43) hx hb dX13_mapWith_9 (by decide) (fun c9 => ?_) (fun c9 => ?_)
    · rw [if_pos c9] at hsh
      refine lv_iload_n hx hb dX13_mapWith_43 rfl (hl.at 2 rfl) ?_
      cases hsh
      exact e_iret hx hb hrt hlk hp hS dX13_mapWith_44
    · rw [if_neg c9] at hsh
      refine e_aload_n (B := B) (x := x0) hx hb dX13_mapWith_12 rfl (hl.at 0 rfl) ?_
      obtain ⟨v13, h13, hsh⟩ := Option.bind_eq_some_iff.mp hsh
      refine e_getR (k := 115) hx hb hts in_X13 hown hp h13 rfl (by decide) (by decide) rfl (hts _ kf13_169) rfl dX13_mapWith_13 ?_
      refine lv_iload_n hx hb dX13_mapWith_16 rfl (hl.at 3 rfl) ?_
      obtain ⟨v17, h17, hsh⟩ := Option.bind_eq_some_iff.mp hsh
      refine e_iald hx hb hp h17 dX13_mapWith_17 ?_
      refine lv_iload_n hx hb dX13_mapWith_18 rfl (hl.at 1 rfl) ?_
      refine e_icmp_ne (tgt := 35) hx hb dX13_mapWith_19 (by decide) (fun c19 => ?_) (fun c19 => ?_)
      · rw [if_neg c19] at hsh
        exact w13_mapWith_b35 (hk4 := hk4) E hp hS (hl.sub [0, 1, 2, 3] rfl) hsh
      · rw [if_pos c19] at hsh
        refine e_aload_n (B := B) (x := x0) hx hb dX13_mapWith_22 rfl (hl.at 0 rfl) ?_
        refine lv_iload_n hx hb dX13_mapWith_23 rfl (hl.at 3 rfl) ?_
        refine lv_iload_n hx hb dX13_mapWith_24 rfl (hl.at 1 rfl) ?_
        obtain ⟨⟨v25, S25⟩, h25, hsh⟩ := Option.bind_eq_some_iff.mp hsh
        have hsh : _ = _ := hsh
        try dsimp only at hsh
        have ok25 := ok13_beginsMap h25
        refine e_callI (nL := 4) (mc := 0) (ms := 0) (T := TX13) (N := 126) (As := [.int (iI (x3)), .int (iI (x1))]) (rest := []) hx hb hml hown hts hp hS hl.size ok25.1 ok25.2.1 ok25.2.2 rfl (by decide) (c13_beginsMap l D cA B S S25 (x0) (x3) (x1) v25 h25) rfl rfl kd13_beginsMap (kl13_1009) ks13_beginsMap kv13_beginsMap ki13 kh13_beginsMap ⟨Nat.le_of_ble_eq_true rfl, Nat.le_of_ble_eq_true rfl⟩ rfl (by simp [e_rv_cat, e_int_cat]) ⟨Nat.le_refl _, Nat.le_refl _⟩ dX13_mapWith_25 rfl (fun H locs hp hS => ?_)
        refine e_if_eq (tgt := 35) hx hb dX13_mapWith_28 (by decide) (fun c28 => ?_) (fun c28 => ?_)
        · rw [if_pos c28] at hsh
          exact w13_mapWith_b35 (hk4 := hk4) E hp hS (hl.sub [0, 1, 2, 3] rfl) hsh
        · rw [if_neg c28] at hsh
          refine lv_iload_n hx hb dX13_mapWith_31 rfl (hl.at 3 rfl) ?_
          refine lv_goto (tgt := 36) hx hb dX13_mapWith_32 (by decide) ?_
          exact w13_mapWith_b36 (hk4 := hk4) E hp hS (hl.sub [0, 1, 3] rfl) hsh
set_option maxRecDepth 100000 in
set_option maxHeartbeats 4000000 in
theorem c13_mapWith (l : Launch) (D : va_G) (cA : Nat → ClassId) (B : Nat) (S S' : HP) (x0 : Int) (x1 : Int) (r : Int) (hsh : s13_mapWith S x0 x1 = some (r, S')) : Met l yX13_mapWith (e_wu yX13_mapWith cX13_mapWith 4 (some .int)) ({ frames := 2, cells := 0, slots := 0, locals := 44 } : Room) (va_Pc [e_rv B (x0), .int (iI (x1))] (fun U => e_PU D cA B S U)) (e_Qi D cA B r S') 0 0 (e_A B) := by
  refine Met.ofW (cc := cX13_mapWith) (maxL := 4) (ret := (some .int)) (by decide +kernel) rfl ?_
  intro p e s m args below meth c s₁ Bd hml hv
  obtain ⟨rfl, hp⟩ := hv
  have hp : e_Pic D cA B S s s.heap := hp
  have hx := Bd.exec
  have hb := Bd.bytes
  have hrt := Bd.returns
  have hlk := Bd.notSynchronized
  have hown : s.vm.findClass RX13 = some m.cls := findClass_of_methodNamed Bd.named
  have hts : ∀ w ∈ e_tb, w.before ([e_rv B (x0), .int (iI (x1))] : List Value).toArray s = true := fun w h => atoms_spec (ws := (e_wu yX13_mapWith cX13_mapWith 4 (some .int))) Bd.pre w (List.mem_cons_of_mem _ h)
  have E : e_En p s m ([e_rv B (x0), .int (iI (x1))] : List Value).toArray meth c cX13_mapWith RX13 4 (some .int) := ⟨hx, hb, hml, hown, hts, hlk, hrt⟩
  have hS : va_S (e_A B) s.heap s.heap [] := va_S.rf
  have hl := e_entry (vs := [e_rv B (x0), .int (iI (x1))]) (n := 4) (Nat.le_of_ble_eq_true rfl) (e_cc (e_rv_cat _ _) (e_cc rfl e_cn))
  rw [lg_entry_eq]
  generalize (lg_sl [e_rv B (x0), .int (iI (x1))] ++ List.replicate (4 - (lg_sl [e_rv B (x0), .int (iI (x1))]).length) Slot.unset).toArray = ls at hl ⊢
  generalize ([e_rv B (x0), .int (iI (x1))] : List Value).toArray = args at hts E ⊢
  have hl : e_lo ls 4 [(0, e_rv B (x0)), (1, .int (iI (x1)))] := hl
  have hsh := (gd_some hsh).2
  refine lv_iconst (v := iI (-1)) hx hb dX13_mapWith_0 rfl ?_
  refine e_istore_n (lv' := [(2, .int (iI ((-1)))), (0, e_rv B (x0)), (1, .int (iI (x1)))]) hx hb dX13_mapWith_1 rfl hl (by decide) rfl (fun ls hl => ?_)
  refine lv_iconst (v := iI (0)) hx hb dX13_mapWith_2 rfl ?_
  refine e_istore_n (lv' := [(3, .int (iI (0))), (2, .int (iI ((-1)))), (0, e_rv B (x0)), (1, .int (iI (x1)))]) hx hb dX13_mapWith_3 rfl hl (by decide) rfl (fun ls hl => ?_)
  exact w13_mapWith_l4 E 1000000 hp hS (hl.sub [2, 3, 1, 0] rfl) hsh
theorem ok13_isLonger {S : HP} {x0 : Int} {x1 : Int} {r : Int × HP} (h : s13_isLonger S x0 x1 = some r) : 0 ≤ x0 ∧ x0.toNat < e_n S ∧ e_g S x0.toNat = 13 := (gd_some h).1
set_option maxRecDepth 100000 in
set_option maxHeartbeats 4000000 in
theorem w13_isLonger_b40 {p : Program} {l : Launch} {e : Env} {s : State} {m : MethodId} {args : Array Value} {below : List Frame} {meth : Method} {c : Code} {D : va_G} {cA : Nat → ClassId} {B : Nat} {res : Int × HP} {k4 : HP → Int → Int → Int → Int → Option (Int × HP)} (hk4 : ∀ {ls : Array Slot} {H : Heap} {locs : List Loc} {S : HP} {x0 : Int} {x1 : Int} {x2 : Int} {x3 : Int} (hp : e_Pic D cA B S s H) (hS : va_S (e_A B) s.heap H locs) (hl : e_lo ls 4 [(0, e_rv B (x0)), (1, .int (iI (x1))), (2, .int (iI (x2))), (3, .int (iI (x3)))]) (hsh : k4 S x0 x1 x2 x3 = some res), W p l e ({ frames := 2, cells := 0, slots := 0, locals := 44 } : Room) s m args below meth c H locs 0 0 (MQ below (e_Qi D cA B res.1 res.2) args s 0 0 (e_A B)) (F0 m 4 ls [])) (E : e_En p s m args meth c cX13_isLonger RX13 4 (some .boolean)) {ls : Array Slot} {H : Heap} {locs : List Loc} {S : HP} {x0 : Int} {x1 : Int} {x3 : Int} {y0 : Int} (hp : e_Pic D cA B S s H) (hS : va_S (e_A B) s.heap H locs) (hl : e_lo ls 4 [(0, e_rv B (x0)), (1, .int (iI (x1))), (3, .int (iI (x3)))]) (hsh : s13_isLonger_b40 k4 S x0 x1 x3 y0 = some res) : W p l e ({ frames := 2, cells := 0, slots := 0, locals := 44 } : Room) s m args below meth c H locs 0 0 (MQ below (e_Qi D cA B res.1 res.2) args s 0 0 (e_A B)) (F0 m 40 ls [.int (iI (y0))]) := by
  obtain ⟨hx, hb, hml, hown, hts, hlk, hrt⟩ := id E
  unfold s13_isLonger_b40 at hsh
  refine e_istore_n (lv' := [(2, .int (iI (y0))), (0, e_rv B (x0)), (1, .int (iI (x1))), (3, .int (iI (x3)))]) hx hb dX13_isLonger_40 rfl hl (by decide) rfl (fun ls hl => ?_)
  refine e_iinc (n := 1) (x := x3) (lv' := [(3, .int (iI ((x3 + 1)))), (2, .int (iI (y0))), (0, e_rv B (x0)), (1, .int (iI (x1)))]) hx hb dX13_isLonger_41 hl (k := 3) rfl (by decide) rfl (fun ls hl => ?_)
  refine lv_goto (tgt := 4) hx hb dX13_isLonger_44 (by decide) ?_
  exact hk4 hp hS (hl.sub [2, 3, 1, 0] rfl) hsh
set_option maxRecDepth 100000 in
set_option maxHeartbeats 4000000 in
theorem w13_isLonger_b35 {p : Program} {l : Launch} {e : Env} {s : State} {m : MethodId} {args : Array Value} {below : List Frame} {meth : Method} {c : Code} {D : va_G} {cA : Nat → ClassId} {B : Nat} {res : Int × HP} {k4 : HP → Int → Int → Int → Int → Option (Int × HP)} (hk4 : ∀ {ls : Array Slot} {H : Heap} {locs : List Loc} {S : HP} {x0 : Int} {x1 : Int} {x2 : Int} {x3 : Int} (hp : e_Pic D cA B S s H) (hS : va_S (e_A B) s.heap H locs) (hl : e_lo ls 4 [(0, e_rv B (x0)), (1, .int (iI (x1))), (2, .int (iI (x2))), (3, .int (iI (x3)))]) (hsh : k4 S x0 x1 x2 x3 = some res), W p l e ({ frames := 2, cells := 0, slots := 0, locals := 44 } : Room) s m args below meth c H locs 0 0 (MQ below (e_Qi D cA B res.1 res.2) args s 0 0 (e_A B)) (F0 m 4 ls [])) (E : e_En p s m args meth c cX13_isLonger RX13 4 (some .boolean)) {ls : Array Slot} {H : Heap} {locs : List Loc} {S : HP} {x0 : Int} {x1 : Int} {x3 : Int} (hp : e_Pic D cA B S s H) (hS : va_S (e_A B) s.heap H locs) (hl : e_lo ls 4 [(0, e_rv B (x0)), (1, .int (iI (x1))), (3, .int (iI (x3)))]) (hsh : s13_isLonger_b35 k4 S x0 x1 x3 = some res) : W p l e ({ frames := 2, cells := 0, slots := 0, locals := 44 } : Room) s m args below meth c H locs 0 0 (MQ below (e_Qi D cA B res.1 res.2) args s 0 0 (e_A B)) (F0 m 35 ls []) := by
  obtain ⟨hx, hb, hml, hown, hts, hlk, hrt⟩ := id E
  unfold s13_isLonger_b35 at hsh
  refine lv_iconst (v := iI (1)) hx hb dX13_isLonger_35 rfl ?_
  refine lv_goto (tgt := 40) hx hb dX13_isLonger_36 (by decide) ?_
  exact w13_isLonger_b40 (hk4 := hk4) E hp hS (hl.sub [0, 1, 2] rfl) hsh
set_option maxRecDepth 100000 in
set_option maxHeartbeats 4000000 in
theorem w13_isLonger_b39 {p : Program} {l : Launch} {e : Env} {s : State} {m : MethodId} {args : Array Value} {below : List Frame} {meth : Method} {c : Code} {D : va_G} {cA : Nat → ClassId} {B : Nat} {res : Int × HP} {k4 : HP → Int → Int → Int → Int → Option (Int × HP)} (hk4 : ∀ {ls : Array Slot} {H : Heap} {locs : List Loc} {S : HP} {x0 : Int} {x1 : Int} {x2 : Int} {x3 : Int} (hp : e_Pic D cA B S s H) (hS : va_S (e_A B) s.heap H locs) (hl : e_lo ls 4 [(0, e_rv B (x0)), (1, .int (iI (x1))), (2, .int (iI (x2))), (3, .int (iI (x3)))]) (hsh : k4 S x0 x1 x2 x3 = some res), W p l e ({ frames := 2, cells := 0, slots := 0, locals := 44 } : Room) s m args below meth c H locs 0 0 (MQ below (e_Qi D cA B res.1 res.2) args s 0 0 (e_A B)) (F0 m 4 ls [])) (E : e_En p s m args meth c cX13_isLonger RX13 4 (some .boolean)) {ls : Array Slot} {H : Heap} {locs : List Loc} {S : HP} {x0 : Int} {x1 : Int} {x3 : Int} (hp : e_Pic D cA B S s H) (hS : va_S (e_A B) s.heap H locs) (hl : e_lo ls 4 [(0, e_rv B (x0)), (1, .int (iI (x1))), (3, .int (iI (x3)))]) (hsh : s13_isLonger_b39 k4 S x0 x1 x3 = some res) : W p l e ({ frames := 2, cells := 0, slots := 0, locals := 44 } : Room) s m args below meth c H locs 0 0 (MQ below (e_Qi D cA B res.1 res.2) args s 0 0 (e_A B)) (F0 m 39 ls []) := by
  obtain ⟨hx, hb, hml, hown, hts, hlk, hrt⟩ := id E
  unfold s13_isLonger_b39 at hsh
  refine lv_iconst (v := iI (0)) hx hb dX13_isLonger_39 rfl ?_
  exact w13_isLonger_b40 (hk4 := hk4) E hp hS (hl.sub [0, 1, 2] rfl) hsh
set_option maxRecDepth 100000 in
set_option maxHeartbeats 4000000 in
theorem w13_isLonger_l4 {p : Program} {l : Launch} {e : Env} {s : State} {m : MethodId} {args : Array Value} {below : List Frame} {meth : Method} {c : Code} {D : va_G} {cA : Nat → ClassId} {B : Nat} {res : Int × HP} (E : e_En p s m args meth c cX13_isLonger RX13 4 (some .boolean)) : ∀ (f : Nat) {ls : Array Slot} {H : Heap} {locs : List Loc} {S : HP} {x0 : Int} {x1 : Int} {x2 : Int} {x3 : Int} (hp : e_Pic D cA B S s H) (hS : va_S (e_A B) s.heap H locs) (hl : e_lo ls 4 [(0, e_rv B (x0)), (1, .int (iI (x1))), (2, .int (iI (x2))), (3, .int (iI (x3)))]) (hsh : s13_isLonger_l4 f S x0 x1 x2 x3 = some res), W p l e ({ frames := 2, cells := 0, slots := 0, locals := 44 } : Room) s m args below meth c H locs 0 0 (MQ below (e_Qi D cA B res.1 res.2) args s 0 0 (e_A B)) (F0 m 4 ls []) := by
  obtain ⟨hx, hb, hml, hown, hts, hlk, hrt⟩ := id E
  intro f
  induction f with
  | zero => intro ls H locs S x0 x1 x2 x3 hp hS hl hsh; cases hsh
  | succ f ih =>
    intro ls H locs S x0 x1 x2 x3 hp hS hl hsh
    have hk4 : ∀ {ls : Array Slot} {H : Heap} {locs : List Loc} {S : HP} {x0 : Int} {x1 : Int} {x2 : Int} {x3 : Int} (hp : e_Pic D cA B S s H) (hS : va_S (e_A B) s.heap H locs) (hl : e_lo ls 4 [(0, e_rv B (x0)), (1, .int (iI (x1))), (2, .int (iI (x2))), (3, .int (iI (x3)))]) (hsh : (s13_isLonger_l4 f) S x0 x1 x2 x3 = some res), W p l e ({ frames := 2, cells := 0, slots := 0, locals := 44 } : Room) s m args below meth c H locs 0 0 (MQ below (e_Qi D cA B res.1 res.2) args s 0 0 (e_A B)) (F0 m 4 ls []) := ih
    generalize hkk : s13_isLonger_l4 f = k4 at hk4
    rw [s13_isLonger_l4] at hsh
    rw [hkk] at hsh
    try dsimp only at hsh
    refine lv_iload_n hx hb dX13_isLonger_4 rfl (hl.at 3 rfl) ?_
    refine e_aload_n (B := B) (x := x0) hx hb dX13_isLonger_5 rfl (hl.at 0 rfl) ?_
    obtain ⟨v6, h6, hsh⟩ := Option.bind_eq_some_iff.mp hsh
    refine e_getI (k := 113) hx hb hts in_X13 hown hp h6 rfl (by decide) (by decide) rfl (hts _ kf13_1006) rfl dX13_isLonger_6 ?_
    refine e_icmp_ge (tgt := 47) hx hb dX13_isLonger_9 (by decide) (fun c9 => ?_) (fun c9 => ?_)
    · rw [if_pos c9] at hsh
      refine lv_iload_n hx hb dX13_isLonger_47 rfl (hl.at 2 rfl) ?_
      obtain ⟨hz, hz1, hz2⟩ := zR_some hsh
      rw [← hz1, ← hz2]
      exact e_zret hx hb hrt hlk hp hS hz dX13_isLonger_48
    · rw [if_neg c9] at hsh
      refine lv_iload_n hx hb dX13_isLonger_12 rfl (hl.at 2 rfl) ?_
      refine e_if_ne (tgt := 35) hx hb dX13_isLonger_13 (by decide) (fun c13 => ?_) (fun c13 => ?_)
      · rw [if_neg c13] at hsh
        exact w13_isLonger_b35 (hk4 := hk4) E hp hS (hl.sub [0, 1, 3] rfl) hsh
      · rw [if_pos c13] at hsh
        refine e_aload_n (B := B) (x := x0) hx hb dX13_isLonger_16 rfl (hl.at 0 rfl) ?_
        obtain ⟨v17, h17, hsh⟩ := Option.bind_eq_some_iff.mp hsh
        refine e_getR (k := 115) hx hb hts in_X13 hown hp h17 rfl (by decide) (by decide) rfl (hts _ kf13_169) rfl dX13_isLonger_17 ?_
        refine lv_iload_n hx hb dX13_isLonger_20 rfl (hl.at 3 rfl) ?_
        obtain ⟨v21, h21, hsh⟩ := Option.bind_eq_some_iff.mp hsh
        refine e_iald hx hb hp h21 dX13_isLonger_21 ?_
        refine lv_iload_n hx hb dX13_isLonger_22 rfl (hl.at 1 rfl) ?_
        refine e_icmp_le (tgt := 39) hx hb dX13_isLonger_23 (by decide) (fun c23 => ?_) (fun c23 => ?_)
        · rw [if_pos c23] at hsh
          exact w13_isLonger_b39 (hk4 := hk4) E hp hS (hl.sub [0, 1, 3] rfl) hsh
        · rw [if_neg c23] at hsh
          refine e_aload_n (B := B) (x := x0) hx hb dX13_isLonger_26 rfl (hl.at 0 rfl) ?_
          refine lv_iload_n hx hb dX13_isLonger_27 rfl (hl.at 3 rfl) ?_
          refine lv_iload_n hx hb dX13_isLonger_28 rfl (hl.at 1 rfl) ?_
          obtain ⟨⟨v29, S29⟩, h29, hsh⟩ := Option.bind_eq_some_iff.mp hsh
          have hsh : _ = _ := hsh
          try dsimp only at hsh
          have ok29 := ok13_beginsMap h29
          refine e_callI (nL := 4) (mc := 0) (ms := 0) (T := TX13) (N := 126) (As := [.int (iI (x3)), .int (iI (x1))]) (rest := []) hx hb hml hown hts hp hS hl.size ok29.1 ok29.2.1 ok29.2.2 rfl (by decide) (c13_beginsMap l D cA B S S29 (x0) (x3) (x1) v29 h29) rfl rfl kd13_beginsMap (kl13_1009) ks13_beginsMap kv13_beginsMap ki13 kh13_beginsMap ⟨Nat.le_of_ble_eq_true rfl, Nat.le_of_ble_eq_true rfl⟩ rfl (by simp [e_rv_cat, e_int_cat]) ⟨Nat.le_refl _, Nat.le_refl _⟩ dX13_isLonger_29 rfl (fun H locs hp hS => ?_)
          refine e_if_eq (tgt := 39) hx hb dX13_isLonger_32 (by decide) (fun c32 => ?_) (fun c32 => ?_)
          · rw [if_pos c32] at hsh
            exact w13_isLonger_b39 (hk4 := hk4) E hp hS (hl.sub [0, 1, 3] rfl) hsh
          · rw [if_neg c32] at hsh
            exact w13_isLonger_b35 (hk4 := hk4) E hp hS (hl.sub [0, 1, 3] rfl) hsh
set_option maxRecDepth 100000 in
set_option maxHeartbeats 4000000 in
theorem c13_isLonger (l : Launch) (D : va_G) (cA : Nat → ClassId) (B : Nat) (S S' : HP) (x0 : Int) (x1 : Int) (r : Int) (hsh : s13_isLonger S x0 x1 = some (r, S')) : Met l yX13_isLonger (e_wu yX13_isLonger cX13_isLonger 4 (some .boolean)) ({ frames := 2, cells := 0, slots := 0, locals := 44 } : Room) (va_Pc [e_rv B (x0), .int (iI (x1))] (fun U => e_PU D cA B S U)) (e_Qi D cA B r S') 0 0 (e_A B) := by
  refine Met.ofW (cc := cX13_isLonger) (maxL := 4) (ret := (some .boolean)) (by decide +kernel) rfl ?_
  intro p e s m args below meth c s₁ Bd hml hv
  obtain ⟨rfl, hp⟩ := hv
  have hp : e_Pic D cA B S s s.heap := hp
  have hx := Bd.exec
  have hb := Bd.bytes
  have hrt := Bd.returns
  have hlk := Bd.notSynchronized
  have hown : s.vm.findClass RX13 = some m.cls := findClass_of_methodNamed Bd.named
  have hts : ∀ w ∈ e_tb, w.before ([e_rv B (x0), .int (iI (x1))] : List Value).toArray s = true := fun w h => atoms_spec (ws := (e_wu yX13_isLonger cX13_isLonger 4 (some .boolean))) Bd.pre w (List.mem_cons_of_mem _ h)
  have E : e_En p s m ([e_rv B (x0), .int (iI (x1))] : List Value).toArray meth c cX13_isLonger RX13 4 (some .boolean) := ⟨hx, hb, hml, hown, hts, hlk, hrt⟩
  have hS : va_S (e_A B) s.heap s.heap [] := va_S.rf
  have hl := e_entry (vs := [e_rv B (x0), .int (iI (x1))]) (n := 4) (Nat.le_of_ble_eq_true rfl) (e_cc (e_rv_cat _ _) (e_cc rfl e_cn))
  rw [lg_entry_eq]
  generalize (lg_sl [e_rv B (x0), .int (iI (x1))] ++ List.replicate (4 - (lg_sl [e_rv B (x0), .int (iI (x1))]).length) Slot.unset).toArray = ls at hl ⊢
  generalize ([e_rv B (x0), .int (iI (x1))] : List Value).toArray = args at hts E ⊢
  have hl : e_lo ls 4 [(0, e_rv B (x0)), (1, .int (iI (x1)))] := hl
  have hsh := (gd_some hsh).2
  refine lv_iconst (v := iI (0)) hx hb dX13_isLonger_0 rfl ?_
  refine e_istore_n (lv' := [(2, .int (iI (0))), (0, e_rv B (x0)), (1, .int (iI (x1)))]) hx hb dX13_isLonger_1 rfl hl (by decide) rfl (fun ls hl => ?_)
  refine lv_iconst (v := iI (0)) hx hb dX13_isLonger_2 rfl ?_
  refine e_istore_n (lv' := [(3, .int (iI (0))), (2, .int (iI (0))), (0, e_rv B (x0)), (1, .int (iI (x1)))]) hx hb dX13_isLonger_3 rfl hl (by decide) rfl (fun ls hl => ?_)
  exact w13_isLonger_l4 E 1000000 hp hS (hl.sub [2, 3, 1, 0] rfl) hsh
