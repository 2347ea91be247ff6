/-! longs, and locals that hold them -/
theorem iL_to (x : Int64) : iL x.toInt = x := Int64.ofInt_toInt x
def jSr (x y : Int) : Int := (((iL x).toUInt64 >>> ((iI y).toInt64.toUInt64 &&& Int64.toUInt64 63)).toInt64).toInt
def jSl (x y : Int) : Int := (iL x <<< ((iI y).toInt64 &&& 63)).toInt
def jI (x : Int) : Int := ((iL x).toInt32).toInt
def iJ (x : Int) : Int := ((iI x).toInt64).toInt
def jAn (x y : Int) : Int := (iL x &&& iL y).toInt
def jOr (x y : Int) : Int := (iL x ||| iL y).toInt
def iAn (x y : Int) : Int := (iI x &&& iI y).toInt
def iOr (x y : Int) : Int := (iI x ||| iI y).toInt
def iSl (x y : Int) : Int := (iI x <<< (iI y &&& 31)).toInt
def jCm (x y : Int) : Int := (lg_cmp (iL x) (iL y)).toInt
def iC (x : Int) : Int := (((iI x).toUInt32 % 65536).toInt32).toInt
def iNg (x : Int) : Int := (-(iI x)).toInt
def e_lj (K : List Nat) (ls : Array Slot) (nL : Nat) (l : List (Nat × Value)) : Prop := lv_has ls nL l ∧ ∀ q ∈ l, q.2.category = 1 ∨ q.1 ∈ K
theorem e_lj.at {K : List Nat} {ls : Array Slot} {nL : Nat} {l : List (Nat × Value)} (h : e_lj K ls nL l) (k : Nat) {i : Nat} {v : Value} (hk : l[k]? = some (i, v)) : ls[i]? = some (.val v) := lv_at h.1 k hk
theorem e_lj.sub {K : List Nat} {ls : Array Slot} {nL : Nat} {l l' : List (Nat × Value)} (h : e_lj K ls nL l) (ks : List Nat) (hl : lv_pick l ks = l') : e_lj K ls nL l' := by
  refine ⟨lv_sub h.1 ks hl, fun q hq => ?_⟩
  subst hl
  unfold lv_pick at hq
  obtain ⟨i, -, hi⟩ := List.mem_filterMap.mp hq
  exact h.2 q (List.mem_of_getElem? hi)
theorem e_lj.size {K : List Nat} {ls : Array Slot} {nL : Nat} {l : List (Nat × Value)} (h : e_lj K ls nL l) : ls.size = nL := h.1.1
theorem e_lj.filt {K : List Nat} {ls : Array Slot} {nL i : Nat} {l : List (Nat × Value)} (h : e_lj K ls nL l) (hK : ∀ k ∈ K, k + 1 ≠ i) : l.filter (fun q => !(q.1 == i) && !(q.1 + 1 == i && q.2.category == 2)) = l.filter (fun q => !(q.1 == i)) := List.filter_congr fun q hq => by
  rcases h.2 q hq with h1 | h1
  · simp [h1]
  · have h2 : (q.1 + 1 == i) = false := by simpa using hK _ h1
    simp [h2]
theorem e_lj.new {K : List Nat} {ls ls' : Array Slot} {nL i : Nat} {l l' : List (Nat × Value)} {v : Value} {f : Nat × Value → Bool} (h : e_lj K ls nL l) (hv : v.category = 1 ∨ i ∈ K) (hl : (i, v) :: l.filter f = l') (h' : lv_has ls' nL l') : e_lj K ls' nL l' := ⟨h', fun q hq => by
  rw [← hl] at hq
  rcases List.mem_cons.mp hq with rfl | hq
  · exact hv
  · exact h.2 q (List.mem_filter.mp hq).1⟩
def e_idj : Nat → List Value → List Nat → List (Nat × Value)
  | k, v :: vs, c :: cs => (k, v) :: e_idj (k + c) vs cs
  | _, _, _ => []
def e_cs : List Value → List Nat → Prop
  | [], [] => True
  | v :: vs, c :: cs => v.category = c ∧ e_cs vs cs
  | _, _ => False
theorem e_argsj : ∀ (k : Nat) (vs : List Value) (cs : List Nat), e_cs vs cs → lv_args k vs = e_idj k vs cs
  | _, [], [], _ => rfl
  | _, [], _ :: _, h => h.elim
  | _, _ :: _, [], h => h.elim
  | k, v :: vs, c :: cs, h => by
    show (k, v) :: lv_args (if v.category = 2 then k + 2 else k + 1) vs = (k, v) :: e_idj (k + c) vs cs
    rw [← e_argsj (k + c) vs cs h.2, ← h.1]
    rcases lv_cat v with h1 | h1 <;> rw [h1] <;> rfl
theorem e_slj : ∀ (vs : List Value) (cs : List Nat), e_cs vs cs → (lg_sl vs).length = cs.sum
  | [], [], _ => rfl
  | [], _ :: _, h => h.elim
  | _ :: _, [], h => h.elim
  | v :: vs, c :: cs, h => by
    have h2 := e_slj vs cs h.2
    unfold lg_sl at h2 ⊢
    rw [List.flatMap_cons, List.length_append, h2, ← h.1]
    rcases lv_cat v with h1 | h1 <;> rw [h1] <;> simp
theorem e_entryj {K : List Nat} {vs : List Value} {cs : List Nat} {n : Nat} (hc : e_cs vs cs) (h : cs.sum ≤ n) (hK : ∀ q ∈ e_idj 0 vs cs, q.2.category = 1 ∨ q.1 ∈ K) : e_lj K ((lg_sl vs ++ List.replicate (n - (lg_sl vs).length) Slot.unset).toArray) n (e_idj 0 vs cs) := by
  refine ⟨?_, hK⟩
  rw [← e_argsj 0 vs cs hc]
  exact lv_entry vs (by rw [e_slj vs cs hc]; exact h)
theorem e_long_cat (x : Int64) : (Value.long x).category = 2 := rfl
section EJ
variable {p : Program} {l : Launch} {e : Env} {R : Room} {s : State} {m : MethodId} {args : Array Value} {below : List Frame} {meth : Method} {c : Code} {H : Heap} {locs : List Loc} {cells slots : Nat} {Q : State → Prop}
variable {cc : ByteArray} {pc : Nat} {ls : Array Slot} {rest : List Value} {D : va_G} {cA : Nat → ClassId} {B : Nat} {S S' : HP}
theorem e_lushr (hx : p.tables.exec = Jvm.exec) (hb : c.code = cc) {x y : Int} (hdg : decode cc pc = .ok (.lushr, 1)) (kk : W p l e R s m args below meth c H locs cells slots Q (F0 m (pc + 1) ls (.long (iL (jSr x y)) :: rest))) : W p l e R s m args below meth c H locs cells slots Q (F0 m pc ls (.int (iI y) :: .long (iL x) :: rest)) :=
  lv_lushr (v := iL (jSr x y)) hx hb hdg (iL_to _).symm kk
theorem e_lshl (hx : p.tables.exec = Jvm.exec) (hb : c.code = cc) {x y : Int} (hdg : decode cc pc = .ok (.lshl, 1)) (kk : W p l e R s m args below meth c H locs cells slots Q (F0 m (pc + 1) ls (.long (iL (jSl x y)) :: rest))) : W p l e R s m args below meth c H locs cells slots Q (F0 m pc ls (.int (iI y) :: .long (iL x) :: rest)) :=
  lv_lshl (v := iL (jSl x y)) hx hb hdg (iL_to _).symm kk
theorem e_l2i (hx : p.tables.exec = Jvm.exec) (hb : c.code = cc) {x : Int} (hdg : decode cc pc = .ok (.l2i, 1)) (kk : W p l e R s m args below meth c H locs cells slots Q (F0 m (pc + 1) ls (.int (iI (jI x)) :: rest))) : W p l e R s m args below meth c H locs cells slots Q (F0 m pc ls (.long (iL x) :: rest)) :=
  lv_l2i (v := iI (jI x)) hx hb hdg (iI_to _).symm kk
theorem e_i2l (hx : p.tables.exec = Jvm.exec) (hb : c.code = cc) {x : Int} (hdg : decode cc pc = .ok (.i2l, 1)) (kk : W p l e R s m args below meth c H locs cells slots Q (F0 m (pc + 1) ls (.long (iL (iJ x)) :: rest))) : W p l e R s m args below meth c H locs cells slots Q (F0 m pc ls (.int (iI x) :: rest)) :=
  lv_i2l (v := iL (iJ x)) hx hb hdg (iL_to _).symm kk
theorem e_i2c (hx : p.tables.exec = Jvm.exec) (hb : c.code = cc) {x : Int} (hdg : decode cc pc = .ok (.i2c, 1)) (kk : W p l e R s m args below meth c H locs cells slots Q (F0 m (pc + 1) ls (.int (iI (iC x)) :: rest))) : W p l e R s m args below meth c H locs cells slots Q (F0 m pc ls (.int (iI x) :: rest)) :=
  lv_i2c (v := iI (iC x)) hx hb hdg (iI_to _).symm kk
theorem e_land (hx : p.tables.exec = Jvm.exec) (hb : c.code = cc) {x y : Int} (hdg : decode cc pc = .ok (.land, 1)) (kk : W p l e R s m args below meth c H locs cells slots Q (F0 m (pc + 1) ls (.long (iL (jAn x y)) :: rest))) : W p l e R s m args below meth c H locs cells slots Q (F0 m pc ls (.long (iL y) :: .long (iL x) :: rest)) :=
  lv_land hx hb hdg (by unfold jAn at kk; rw [iL_to] at kk; exact kk)
theorem e_lor (hx : p.tables.exec = Jvm.exec) (hb : c.code = cc) {x y : Int} (hdg : decode cc pc = .ok (.lor, 1)) (kk : W p l e R s m args below meth c H locs cells slots Q (F0 m (pc + 1) ls (.long (iL (jOr x y)) :: rest))) : W p l e R s m args below meth c H locs cells slots Q (F0 m pc ls (.long (iL y) :: .long (iL x) :: rest)) :=
  lv_lor hx hb hdg (by unfold jOr at kk; rw [iL_to] at kk; exact kk)
theorem e_iand (hx : p.tables.exec = Jvm.exec) (hb : c.code = cc) {x y : Int} (hdg : decode cc pc = .ok (.iand, 1)) (kk : W p l e R s m args below meth c H locs cells slots Q (F0 m (pc + 1) ls (.int (iI (iAn x y)) :: rest))) : W p l e R s m args below meth c H locs cells slots Q (F0 m pc ls (.int (iI y) :: .int (iI x) :: rest)) :=
  lv_iand hx hb hdg (by unfold iAn at kk; rw [iI_to] at kk; exact kk)
theorem e_ior (hx : p.tables.exec = Jvm.exec) (hb : c.code = cc) {x y : Int} (hdg : decode cc pc = .ok (.ior, 1)) (kk : W p l e R s m args below meth c H locs cells slots Q (F0 m (pc + 1) ls (.int (iI (iOr x y)) :: rest))) : W p l e R s m args below meth c H locs cells slots Q (F0 m pc ls (.int (iI y) :: .int (iI x) :: rest)) :=
  lv_ior hx hb hdg (by unfold iOr at kk; rw [iI_to] at kk; exact kk)
theorem e_ishl (hx : p.tables.exec = Jvm.exec) (hb : c.code = cc) {x y : Int} (hdg : decode cc pc = .ok (.ishl, 1)) (kk : W p l e R s m args below meth c H locs cells slots Q (F0 m (pc + 1) ls (.int (iI (iSl x y)) :: rest))) : W p l e R s m args below meth c H locs cells slots Q (F0 m pc ls (.int (iI y) :: .int (iI x) :: rest)) :=
  lv_ishl hx hb hdg (by unfold iSl at kk; rw [iI_to] at kk; exact kk)
theorem e_ineg (hx : p.tables.exec = Jvm.exec) (hb : c.code = cc) {x : Int} (hdg : decode cc pc = .ok (.ineg, 1)) (kk : W p l e R s m args below meth c H locs cells slots Q (F0 m (pc + 1) ls (.int (iI (iNg x)) :: rest))) : W p l e R s m args below meth c H locs cells slots Q (F0 m pc ls (.int (iI x) :: rest)) :=
  lv_ineg hx hb hdg (by unfold iNg at kk; rw [iI_to] at kk; exact kk)
theorem e_lcmp (hx : p.tables.exec = Jvm.exec) (hb : c.code = cc) {x y : Int} (hdg : decode cc pc = .ok (.lcmp, 1)) (kk : W p l e R s m args below meth c H locs cells slots Q (F0 m (pc + 1) ls (.int (iI (jCm x y)) :: rest))) : W p l e R s m args below meth c H locs cells slots Q (F0 m pc ls (.long (iL y) :: .long (iL x) :: rest)) :=
  W.lcmp hx hb hdg (by unfold jCm at kk; rw [iI_to] at kk; exact kk)
theorem e_istoreJ_n (hx : p.tables.exec = Jvm.exec) (hb : c.code = cc) {k : Fin 4} {K : List Nat} {i nL : Nat} {x : Int32} {lv lv' : List (Nat × Value)} (hdg : decode cc pc = .ok (.istore_n k, 1)) (hi : (k : Nat) = i) (h : e_lj K ls nL lv) (hK : ∀ k ∈ K, k + 1 ≠ i) (hn : i < nL) (hl : (i, Value.int x) :: lv.filter (fun q => !(q.1 == i)) = lv')
    (kk : ∀ ls' : Array Slot, e_lj K ls' nL lv' → W p l e R s m args below meth c H locs cells slots Q (F0 m (pc + 1) ls' rest)) : W p l e R s m args below meth c H locs cells slots Q (F0 m pc ls (.int x :: rest)) :=
  lv_istore_n (lv' := lv') hx hb hdg hi h.1 hn (by rw [h.filt hK]; exact hl) fun ls' h' => kk ls' (h.new (Or.inl rfl) hl h')
theorem e_istoreJ (hx : p.tables.exec = Jvm.exec) (hb : c.code = cc)  {K : List Nat} {i nL : Nat} {x : Int32} {lv lv' : List (Nat × Value)} (hdg : decode cc pc = .ok (.istore i, 2)) (h : e_lj K ls nL lv) (hK : ∀ k ∈ K, k + 1 ≠ i) (hn : i < nL) (hl : (i, Value.int x) :: lv.filter (fun q => !(q.1 == i)) = lv')
    (kk : ∀ ls' : Array Slot, e_lj K ls' nL lv' → W p l e R s m args below meth c H locs cells slots Q (F0 m (pc + 2) ls' rest)) : W p l e R s m args below meth c H locs cells slots Q (F0 m pc ls (.int x :: rest)) :=
  lv_istore (lv' := lv') hx hb hdg h.1 hn (by rw [h.filt hK]; exact hl) fun ls' h' => kk ls' (h.new (Or.inl rfl) hl h')
theorem e_iincJ (hx : p.tables.exec = Jvm.exec) (hb : c.code = cc) {K : List Nat} {i nL k : Nat} {n : Int} {x : Int} {lv lv' : List (Nat × Value)} (hdg : decode cc pc = .ok (.iinc i n, 3)) (h : e_lj K ls nL lv) (hK : ∀ k ∈ K, k + 1 ≠ i) (hk : lv[k]? = some (i, .int (iI x))) (hn : i < nL) (hl : (i, Value.int (iI (x + n))) :: lv.filter (fun q => !(q.1 == i)) = lv')
    (kk : ∀ ls' : Array Slot, e_lj K ls' nL lv' → W p l e R s m args below meth c H locs cells slots Q (F0 m (pc + 3) ls' rest)) : W p l e R s m args below meth c H locs cells slots Q (F0 m pc ls rest) :=
  lv_iinc (v := iI (x + n)) (lv' := lv') hx hb hdg h.1 hk (iI_add x n) hn (by rw [h.filt hK]; exact hl) fun ls' h' => kk ls' (h.new (Or.inl rfl) hl h')
theorem e_lstoreJ_n (hx : p.tables.exec = Jvm.exec) (hb : c.code = cc) {k : Fin 4} {K : List Nat} {i nL : Nat} {x : Int64} {lv lv' : List (Nat × Value)} (hdg : decode cc pc = .ok (.lstore_n k, 1)) (hi : (k : Nat) = i) (h : e_lj K ls nL lv) (hK : ∀ k ∈ K, k + 1 ≠ i) (hi2 : i ∈ K) (hn : i + 1 < nL) (hl : (i, Value.long x) :: lv.filter (fun q => !(q.1 == i) && !(q.1 == i + 1)) = lv')
    (kk : ∀ ls' : Array Slot, e_lj K ls' nL lv' → W p l e R s m args below meth c H locs cells slots Q (F0 m (pc + 1) ls' rest)) : W p l e R s m args below meth c H locs cells slots Q (F0 m pc ls (.long x :: rest)) := by
  have hf : lv.filter (fun q => !(q.1 == i) && (!(q.1 == i + 1) && !(q.1 + 1 == i && q.2.category == 2))) = lv.filter (fun q => !(q.1 == i) && !(q.1 == i + 1)) := List.filter_congr fun q hq => by
    rcases h.2 q hq with h1 | h1
    · simp [h1]
    · have h2 : (q.1 + 1 == i) = false := by simpa using hK _ h1
      simp [h2]
  exact lv_lstore_n (lv' := lv') hx hb hdg hi h.1 hn (by rw [hf]; exact hl) fun ls' h' => kk ls' (h.new (Or.inr hi2) hl h')
theorem e_lstoreJ (hx : p.tables.exec = Jvm.exec) (hb : c.code = cc)  {K : List Nat} {i nL : Nat} {x : Int64} {lv lv' : List (Nat × Value)} (hdg : decode cc pc = .ok (.lstore i, 2)) (h : e_lj K ls nL lv) (hK : ∀ k ∈ K, k + 1 ≠ i) (hi2 : i ∈ K) (hn : i + 1 < nL) (hl : (i, Value.long x) :: lv.filter (fun q => !(q.1 == i) && !(q.1 == i + 1)) = lv')
    (kk : ∀ ls' : Array Slot, e_lj K ls' nL lv' → W p l e R s m args below meth c H locs cells slots Q (F0 m (pc + 2) ls' rest)) : W p l e R s m args below meth c H locs cells slots Q (F0 m pc ls (.long x :: rest)) := by
  have hf : lv.filter (fun q => !(q.1 == i) && (!(q.1 == i + 1) && !(q.1 + 1 == i && q.2.category == 2))) = lv.filter (fun q => !(q.1 == i) && !(q.1 == i + 1)) := List.filter_congr fun q hq => by
    rcases h.2 q hq with h1 | h1
    · simp [h1]
    · have h2 : (q.1 + 1 == i) = false := by simpa using hK _ h1
      simp [h2]
  exact lv_lstore (lv' := lv') hx hb hdg h.1 hn (by rw [hf]; exact hl) fun ls' h' => kk ls' (h.new (Or.inr hi2) hl h')
theorem e_lald (hx : p.tables.exec = Jvm.exec) (hb : c.code = cc) (hp : e_Pic D cA B S s H) {a i x : Int} (hg : gA 102 S a i = some x) (hdg : decode cc pc = .ok (.laload, 1))
    (kk : W p l e R s m args below meth c H locs cells slots Q (F0 m (pc + 1) ls (.long (iL x) :: rest))) : W p l e R s m args below meth c H locs cells slots Q (F0 m pc ls (.int (iI i) :: e_rv B a :: rest)) := by
  obtain ⟨h0, h1, h2, h3, h4, h5⟩ := gA_some hg
  rw [e_rv_ref h0]
  refine va_lald (t0 := 2) (f := fun j => iL (e_v S a.toNat j)) hx hb hp.1 hp.2.1 a.toNat (e_arr h1 h2 (by decide)) rfl (e_vp_in h3 h4) hdg ?_
  show W p l e R s m args below meth c H locs cells slots Q (F0 m (pc + 1) ls (.long (iL (e_v S a.toNat (iW i).toNat)) :: rest))
  rw [h5]; exact kk
theorem e_last (hx : p.tables.exec = Jvm.exec) (hb : c.code = cc) (hp : e_Pic D cA B S s H) (hS : va_S (e_A B) s.heap H locs) {a i x : Int} (hg : pA 102 S a i x = some S') (hdg : decode cc pc = .ok (.lastore, 1))
    (kk : ∀ (H1 : Heap) (locs1 : List Loc), e_Pic D cA B S' s H1 → va_S (e_A B) s.heap H1 locs1 → W p l e R s m args below meth c H1 locs1 cells slots Q (F0 m (pc + 1) ls rest)) : W p l e R s m args below meth c H locs cells slots Q (F0 m pc ls (.long (iL x) :: .int (iI i) :: e_rv B a :: rest)) := by
  obtain ⟨h0, h1, h2, h3, h4, h5⟩ := pA_some hg
  have h5 : e_set S a.toNat (iW i).toNat x = S' := h5
  rw [e_rv_ref h0]
  have hat := e_arr (B := B) (cA := cA) h1 h2 (by decide : 100 ≤ 102)
  refine W.last hx hb (hp.2.1 a.toNat _ hat) ((hp.1.2 2 _ rfl).1 (e_l S a.toNat) (fun j => .long (iL (e_v S a.toNat j)))) (fun q => by cases q) (by show ¬ (iI i < 0 ∨ (arrV _ _ _).slots.size ≤ _); rw [arrV_size]; exact e_vp_in h3 h4) rfl rfl hdg fun H1 e1 z oq => ?_
  have hP : va_P D vwCl ((e_ws B cA S).set a.toNat (B + a.toNat, .inl (cA 102, e_l S a.toNat, .inr (.inl (vp_updL (fun j => iL (e_v S a.toNat j)) (iI i).toNatClampNeg (iL x)))))) H1 := by
    refine hp.2.1.set e_DA hat ?_ oq
    show H1[B + a.toNat]? = some (vp_cell _ _)
    rw [e1, vp_cell_l]
    exact congrArg some (by rw [show e_ae B 102 (e_v S a.toNat) = .inr (.inl (fun j => iL (e_v S a.toNat j))) from rfl]; rw [vp_cell_l, arrV_store]; congr 2; funext q; by_cases hq : q = (iI i).toNatClampNeg <;> simp [updV, vp_updL, hq])
  have hz : (.inl (cA 102, e_l S a.toNat, .inr (.inl (vp_updL (fun j => iL (e_v S a.toNat j)) (iI i).toNatClampNeg (iL x)))) : va_E) = e_ce B cA (e_set S a.toNat (iW i).toNat x) a.toNat := by
    rw [e_ce_arr (show e_g (e_set S a.toNat (iW i).toNat x) a.toNat = 102 from h2) (by decide)]
    show (.inl (cA 102, e_l S a.toNat, .inr (.inl _)) : va_E) = .inl (cA 102, e_l S a.toNat, .inr (.inl (fun j => iL (up2 (e_v S) a.toNat (iW i).toNat x a.toNat j))))
    refine congrArg (fun f => (.inl (cA 102, e_l S a.toNat, .inr (.inl f)) : va_E)) (funext fun q => ?_)
    rw [up2_eq, iI_clamp]
    by_cases hq : q = (iW i).toNat <;> simp [vp_updL, hq]
  rw [e_ws_put h1 hz, h5] at hP
  have hn' : e_n S' = e_n S := by rw [← h5]; rfl
  exact kk H1 _ ⟨hp.1, hP, by rw [z, hn']; exact hp.2.2.1, hp.2.2.2⟩ (hS.put z oq (Nat.le_add_right B a.toNat))
theorem e_char (y : Int32) (h : 0 ≤ y.toInt ∧ y.toInt ≤ 65535) : y.toUInt32.toUInt16.toUInt32.toInt32 = y := by
  have hn : y.toBitVec.toNat < 65536 := by
    have h2 : y.toInt = y.toBitVec.toInt := rfl
    rw [h2, BitVec.toInt_eq_toNat_cond] at h
    have := y.toBitVec.isLt
    split at h <;> omega
  apply Int32.toBitVec_inj.1
  apply BitVec.eq_of_toNat_eq
  show ((y.toBitVec.setWidth 16).setWidth 32).toNat = y.toBitVec.toNat
  rw [BitVec.toNat_setWidth, BitVec.toNat_setWidth]
  omega
theorem e_cret (hx : p.tables.exec = Jvm.exec) (hb : c.code = cc) (hr : meth.sig.returnType = some .char) (hlocks : meth.locks = false) (hp : e_Pic D cA B S s H) (hS : va_S (e_A B) s.heap H locs) {x : Int} (hz : 0 ≤ iW x ∧ iW x ≤ 65535) (hdg : decode cc pc = .ok (.ireturn, 1)) : W p l e R s m args below meth c H locs cells slots (MQ below (e_Qi D cA B x S) args s cells slots (e_A B)) (F0 m pc ls [.int (iI x)]) := by
  refine W.zret (ty := .char) hx hb hr ?_ (fun t ht hW => ⟨⟨iI x, (), rfl, rfl, e_PU_of hp ht hW⟩, hS.F ht⟩) hS.2.2 hdg hlocks
  first
    | exact congrArg Value.int (e_char (iI x) hz)
    | exact congrArg (fun v => some (Value.int v)) (e_char (iI x) hz)
    | exact congrArg (fun v => (Except.ok (Value.int v))) (e_char (iI x) hz)
end EJ
