/-! numbers as ints: an Int stands for the Int32 (Int64) that it comes to -/
def iI (x : Int) : Int32 := Int32.ofInt x
def iL (x : Int) : Int64 := Int64.ofInt x
def iW (x : Int) : Int := (iI x).toInt
theorem iI_add (x y : Int) : iI x + iI y = iI (x + y) := (Int32.ofInt_add x y).symm
theorem iI_sub (x y : Int) : iI x - iI y = iI (x - y) := (Int32.ofInt_sub x y).symm
theorem iI_mul (x y : Int) : iI x * iI y = iI (x * y) := (Int32.ofInt_mul x y).symm
theorem iI_W (x : Int) : iI (iW x) = iI x := Int32.ofInt_toInt _
theorem iI_to (x : Int32) : iI x.toInt = x := Int32.ofInt_toInt _
theorem iW_of {x : Int} (h1 : -2147483648 ≤ x) (h2 : x < 2147483648) : iW x = x := Int32.toInt_ofInt_of_le h1 h2
theorem iI_lt (x y : Int) : iI x < iI y ↔ iW x < iW y := Int32.lt_iff_toInt_lt
theorem iI_le (x y : Int) : iI x ≤ iI y ↔ iW x ≤ iW y := Int32.le_iff_toInt_le
theorem iI_eq (x y : Int) : iI x = iI y ↔ iW x = iW y := Int32.toInt_inj.symm
theorem iI_0 : iI 0 = 0 := rfl
theorem iW_0 : iW 0 = 0 := rfl
theorem iI_clamp (x : Int) : (iI x).toNatClampNeg = (iW x).toNat := rfl
/-! the heap, by numbers: how many cells, how many slots so far, each cell's kind, its length, what it holds -/
abbrev HP : Type := Nat × Nat × (Nat → Nat) × (Nat → Nat) × (Nat → Nat → Int)
def e_n (S : HP) : Nat := S.1
def e_s (S : HP) : Nat := S.2.1
def e_g (S : HP) : Nat → Nat := S.2.2.1
def e_l (S : HP) : Nat → Nat := S.2.2.2.1
def e_v (S : HP) : Nat → Nat → Int := S.2.2.2.2
def up2 (v : Nat → Nat → Int) (a k : Nat) (x : Int) : Nat → Nat → Int := fun b j => if b = a ∧ j = k then x else v b j
def e_set (S : HP) (a k : Nat) (x : Int) : HP := (S.1, S.2.1, S.2.2.1, S.2.2.2.1, up2 S.2.2.2.2 a k x)
theorem up2_ne {v : Nat → Nat → Int} {a k i : Nat} {x : Int} (h : i ≠ a) : up2 v a k x i = v i := funext fun j => by simp [up2, h]
theorem up2_eq {v : Nat → Nat → Int} {a k : Nat} {x : Int} : up2 v a k x a = fun j => if j = k then x else v a j := funext fun j => by simp [up2]
/-- the fields of a kind of objects: 0 an int and the like, 1 a long, 2 a reference -/
def e_fk (c : Nat) : List Nat := match c with
  | 0 => [2, 0, 0, 0, 0, 0, 0, 0, 0, 0, 0, 0, 0, 0, 0, 0, 0]
  | 1 => [2, 2, 2, 2, 0, 0, 0, 0, 0, 0, 0]
  | 2 => [2, 2, 0, 2, 2, 0, 0, 0, 0, 0, 0, 0]
  | 3 => [2, 2, 2, 2, 0, 2, 2, 0, 0, 0, 0, 0]
  | 4 => [2, 2, 2, 2, 2, 0, 0, 0, 0, 0, 0, 0, 2, 2, 0, 2, 0]
  | 5 => [2, 2, 2, 2, 2, 2, 2, 2, 2, 2, 2, 2, 0, 0, 0, 0, 0, 0, 0, 0]
  | 6 => [0, 0, 0, 0, 2, 2, 0, 0, 2, 0, 0, 0, 2, 2, 2, 0]
  | 7 => [2, 2, 2, 2, 2, 2, 2, 2, 0, 0]
  | 8 => [2, 2, 2, 2, 0, 0]
  | 9 => [2, 2, 0, 0]
  | 10 => [2, 0, 0]
  | 11 => [2, 2, 2, 0, 2, 0]
  | 12 => [2, 2, 2, 2, 0, 2, 0]
  | 13 => [0, 2, 0, 2, 2, 0, 0, 0, 0, 0, 0, 2, 2, 2, 2, 2, 0, 2, 2, 0, 0, 2, 2, 0, 2, 2, 0, 0, 2, 2, 2, 2, 0, 0, 0, 0, 0, 0, 0, 0, 0, 2, 2, 2, 0, 0, 0, 0, 0, 0, 0, 0, 2, 0, 2, 0, 0, 2, 0, 0, 0, 0, 0, 0, 0, 0, 0, 0, 0, 0, 0, 0, 0, 0, 0, 2, 0, 0, 0, 0, 0, 0, 2, 2, 0, 2, 0, 0, 2, 0, 0, 2, 2, 2, 2, 2, 2, 2, 2, 2, 0, 0, 0, 2, 0, 0, 2, 0, 0, 0, 2, 2, 2, 0, 2, 2, 2, 2, 2, 0, 2, 2, 2, 0, 0, 0]
  | _ => []
def e_rv (B : Nat) (x : Int) : Value := if x < 0 then .null else .ref (B + x.toNat)
def e_fv (B kd : Nat) (x : Int) : Value := if kd = 0 then .int (iI x) else if kd = 1 then .long (iL x) else e_rv B x
def e_fl (B c : Nat) (f : Nat → Int) : List Value := (List.range (e_fk c).length).map fun k => e_fv B ((e_fk c).getD k 0) (f k)
def e_ae (B t : Nat) (f : Nat → Int) : (Nat → Int32) ⊕ (Nat → Int64) ⊕ (Nat → UInt32) ⊕ (Nat → UInt64) ⊕ (Nat → Option Nat) :=
  if t = 102 then .inr (.inl fun j => iL (f j)) else if t < 104 then .inl fun j => iI (f j) else .inr (.inr (.inr (.inr fun j => if f j < 0 then none else some (B + (f j).toNat))))
def e_ce (B : Nat) (cA : Nat → ClassId) (S : HP) (i : Nat) : va_E :=
  if e_g S i < 100 then .inr (e_g S i, e_fl B (e_g S i) (e_v S i)) else .inl (cA (e_g S i), e_l S i, e_ae B (e_g S i) (e_v S i))
def e_ws (B : Nat) (cA : Nat → ClassId) (S : HP) : va_W := (List.range (e_n S)).map fun i => (B + i, e_ce B cA S i)
def e_tys (cA : Nat → ClassId) : List (ClassId × FieldType) := [(cA 100, .char), (cA 101, .int), (cA 102, .long), (cA 103, .boolean), (cA 104, .object "ModalPad$Strip"), (cA 105, .object "ModalPad$Text")]
theorem e_at {B : Nat} {cA : Nat → ClassId} {S : HP} {i : Nat} (h : i < e_n S) : (e_ws B cA S)[i]? = some (B + i, e_ce B cA S i) := by
  simp [e_ws, h]
theorem e_ce_obj {B : Nat} {cA : Nat → ClassId} {S : HP} {i c : Nat} (h : e_g S i = c) (hc : c < 100) : e_ce B cA S i = .inr (c, e_fl B c (e_v S i)) := by
  subst h; simp [e_ce, hc]
theorem e_ce_arr {B : Nat} {cA : Nat → ClassId} {S : HP} {i t : Nat} (h : e_g S i = t) (ht : 100 ≤ t) : e_ce B cA S i = .inl (cA t, e_l S i, e_ae B t (e_v S i)) := by
  subst h; simp [e_ce, Nat.not_lt.mpr ht]
theorem e_fl_at {B c k kd : Nat} {f : Nat → Int} (h : (e_fk c)[k]? = some kd) : (e_fl B c f)[k]? = some (e_fv B kd (f k)) := by
  have hk : k < (e_fk c).length := (List.getElem?_eq_some_iff.mp h).1
  simp [e_fl, hk]
  rw [List.getElem?_eq_getElem hk] at h
  exact congrArg (fun z => e_fv B z (f k)) (Option.some.inj h)
theorem e_fl_len {B c : Nat} {f : Nat → Int} : (e_fl B c f).length = (e_fk c).length := by simp [e_fl]
theorem e_fl_set {B c k kd : Nat} {f : Nat → Int} {x : Int} (h : (e_fk c)[k]? = some kd) : (e_fl B c f).set k (e_fv B kd x) = e_fl B c (fun j => if j = k then x else f j) := by
  have hk : k < (e_fk c).length := (List.getElem?_eq_some_iff.mp h).1
  have hd : (e_fk c).getD k 0 = kd := by rw [List.getD_eq_getElem?_getD, h]; rfl
  apply List.ext_getElem?
  intro i
  by_cases hi : i = k
  · subst hi
    rw [List.getElem?_set_self (by rw [e_fl_len]; exact hk), e_fl_at h, if_pos rfl]
  · rw [List.getElem?_set_ne (Ne.symm hi)]
    simp only [e_fl, List.getElem?_map]
    cases hr : (List.range (e_fk c).length)[i]? with
    | none => rfl
    | some j =>
      have hj : i = j := by
        have := List.getElem?_eq_some_iff.mp hr
        obtain ⟨h1, h2⟩ := this
        simpa using h2
      subst hj
      simp [hi]
theorem e_set_ce {B : Nat} {cA : Nat → ClassId} {S : HP} {a k i : Nat} {x : Int} (h : i ≠ a) : e_ce B cA (e_set S a k x) i = e_ce B cA S i := by
  have h2 : e_v (e_set S a k x) i = e_v S i := up2_ne h
  show (if e_g S i < 100 then (.inr (e_g S i, e_fl B (e_g S i) (e_v (e_set S a k x) i)) : va_E) else .inl (cA (e_g S i), e_l S i, e_ae B (e_g S i) (e_v (e_set S a k x) i))) = e_ce B cA S i
  rw [h2]; rfl
theorem e_ws_put {B : Nat} {cA : Nat → ClassId} {S : HP} {a k : Nat} {x : Int} {z : va_E} (ha : a < e_n S) (hz : z = e_ce B cA (e_set S a k x) a) : (e_ws B cA S).set a (B + a, z) = e_ws B cA (e_set S a k x) := by
  subst hz
  apply List.ext_getElem?
  intro i
  by_cases hi : i = a
  · subst hi
    rw [List.getElem?_set_self (by simp [e_ws]; exact ha), e_at (show i < e_n (e_set S i k x) from ha)]
  · rw [List.getElem?_set_ne (Ne.symm hi)]
    by_cases hl : i < e_n S
    · rw [e_at hl, e_at (show i < e_n (e_set S a k x) from hl), e_set_ce hi]
    · have h1 : (e_ws B cA S)[i]? = none := by simp [e_ws]; omega
      have h2 : (e_ws B cA (e_set S a k x))[i]? = none := by
        have : e_n (e_set S a k x) = e_n S := rfl
        simp [e_ws, this]; omega
      rw [h1, h2]
theorem e_D {B : Nat} {cA : Nat → ClassId} {S : HP} : va_D (fun q => B ≤ q) (e_ws B cA S) := by
  refine ⟨fun i j p q hp hq hpq => ?_, fun k q hq => ?_⟩
  · simp only [e_ws, List.getElem?_map, Option.map_eq_some_iff] at hp hq
    obtain ⟨u, hu, rfl⟩ := hp
    obtain ⟨w, hw, rfl⟩ := hq
    have e1 : i = u := by obtain ⟨h1, h2⟩ := List.getElem?_eq_some_iff.mp hu; simpa using h2
    have e2 : j = w := by obtain ⟨h1, h2⟩ := List.getElem?_eq_some_iff.mp hw; simpa using h2
    simp only at hpq
    omega
  · simp only [e_ws, List.getElem?_map, Option.map_eq_some_iff] at hq
    obtain ⟨u, hu, rfl⟩ := hq
    exact Nat.le_add_right _ _
/-! the heap's rows -/
theorem e_rv_cat (B : Nat) (x : Int) : (e_rv B x).category = 1 := by unfold e_rv; split <;> rfl
theorem e_ao {n : String} {a a' : Array Value} {s U : State} (hal : s.vm.Alike U.vm) (h : (Cond.arrayOver (.object n)).before a s = true) : (Cond.arrayOver (.object n)).before a' U = true := Cond.arrayOver_alike hal h
def e_isN : Cond → Bool
  | .methodLinkNest _ _ _ _ => true
  | .arrayOver (.object _) => true
  | _ => false
/-- the words of calls between nest mates -/
def e_nt : List Cond := lw_tbl.filter e_isN
theorem e_nw {s U : State} {w : Cond} (hW : s.WarmedH U.vm) (hw : w ∈ e_nt) (h : va_Nw w s) : va_Nw w U := by
  have h1 := (List.mem_filter.mp hw).2
  cases w <;> first | exact va_Nw.warmM hW h | (simp [e_isN] at h1; done) | (rename_i t; cases t <;> first | (simp [e_isN] at h1; done) | exact e_ao hW.alike h)
theorem e_nwS {u U : State} {w : Cond} (hv : u.vm = U.vm) (hw : w ∈ e_nt) (h : va_Nw w u) : va_Nw w U := by
  have h1 := (List.mem_filter.mp hw).2
  cases w <;> first | exact va_Nw.same rfl hv h | (simp [e_isN] at h1; done) | (rename_i t; cases t <;> first | (simp [e_isN] at h1; done) | exact e_ao (by rw [hv]; exact Vm.Alike.refl _) h)
theorem e_memN {w : Cond} {i : Nat} (h : lw_tbl[i]? = some w) (hg : e_isN w = true) : w ∈ e_nt := List.mem_filter.mpr ⟨List.mem_of_getElem? h, hg⟩
def e_Pic (D : va_G) (cA : Nat → ClassId) (B : Nat) (S : HP) (s : State) (H : Heap) : Prop := va_K D vwCl (e_tys cA) s ∧ va_P D vwCl (e_ws B cA S) H ∧ H.size = B + e_n S ∧ ∀ w ∈ e_nt, va_Nw w s
def e_PU (D : va_G) (cA : Nat → ClassId) (B : Nat) (S : HP) (U : State) : Prop := e_Pic D cA B S U U.heap
def e_A (B : Nat) : Nat → Prop := fun q => B ≤ q
theorem e_DA {B : Nat} {cA : Nat → ClassId} {S : HP} : va_D (e_A B) (e_ws B cA S) := e_D
def gF (ci k : Nat) (S : HP) (a : Int) : Option Int := if 0 ≤ a ∧ a.toNat < e_n S ∧ e_g S a.toNat = ci then some (e_v S a.toNat k) else none
def pF (ci k : Nat) (S : HP) (a x : Int) : Option HP := if 0 ≤ a ∧ a.toNat < e_n S ∧ e_g S a.toNat = ci then some (e_set S a.toNat k x) else none
def pZ (ci k : Nat) (S : HP) (a x : Int) : Option HP := if (iW x = 0 ∨ iW x = 1) ∧ 0 ≤ a ∧ a.toNat < e_n S ∧ e_g S a.toNat = ci then some (e_set S a.toNat k x) else none
def gA (t : Nat) (S : HP) (a i : Int) : Option Int := if 0 ≤ a ∧ a.toNat < e_n S ∧ e_g S a.toNat = t ∧ 0 ≤ iW i ∧ (iW i).toNat < e_l S a.toNat then some (e_v S a.toNat (iW i).toNat) else none
def e_nr (t : Nat) (x : Int) : Int := if t = 100 then (vp_nar .char (iI x)).toInt else if t = 103 then (vp_nar .boolean (iI x)).toInt else x
def pA (t : Nat) (S : HP) (a i x : Int) : Option HP := if 0 ≤ a ∧ a.toNat < e_n S ∧ e_g S a.toNat = t ∧ 0 ≤ iW i ∧ (iW i).toNat < e_l S a.toNat then some (e_set S a.toNat (iW i).toNat (e_nr t x)) else none
theorem gF_some {ci k : Nat} {S : HP} {a x : Int} (h : gF ci k S a = some x) : 0 ≤ a ∧ a.toNat < e_n S ∧ e_g S a.toNat = ci ∧ e_v S a.toNat k = x := by
  unfold gF at h; split at h
  · rename_i hc; exact ⟨hc.1, hc.2.1, hc.2.2, Option.some.inj h⟩
  · cases h
theorem pF_some {ci k : Nat} {S S' : HP} {a x : Int} (h : pF ci k S a x = some S') : 0 ≤ a ∧ a.toNat < e_n S ∧ e_g S a.toNat = ci ∧ e_set S a.toNat k x = S' := by
  unfold pF at h; split at h
  · rename_i hc; exact ⟨hc.1, hc.2.1, hc.2.2, Option.some.inj h⟩
  · cases h
theorem pZ_some {ci k : Nat} {S S' : HP} {a x : Int} (h : pZ ci k S a x = some S') : (iW x = 0 ∨ iW x = 1) ∧ 0 ≤ a ∧ a.toNat < e_n S ∧ e_g S a.toNat = ci ∧ e_set S a.toNat k x = S' := by
  unfold pZ at h; split at h
  · rename_i hc; exact ⟨hc.1, hc.2.1, hc.2.2.1, hc.2.2.2, Option.some.inj h⟩
  · cases h
theorem gA_some {t : Nat} {S : HP} {a i x : Int} (h : gA t S a i = some x) : 0 ≤ a ∧ a.toNat < e_n S ∧ e_g S a.toNat = t ∧ 0 ≤ iW i ∧ (iW i).toNat < e_l S a.toNat ∧ e_v S a.toNat (iW i).toNat = x := by
  unfold gA at h; split at h
  · rename_i hc; exact ⟨hc.1, hc.2.1, hc.2.2.1, hc.2.2.2.1, hc.2.2.2.2, Option.some.inj h⟩
  · cases h
theorem pA_some {t : Nat} {S S' : HP} {a i x : Int} (h : pA t S a i x = some S') : 0 ≤ a ∧ a.toNat < e_n S ∧ e_g S a.toNat = t ∧ 0 ≤ iW i ∧ (iW i).toNat < e_l S a.toNat ∧ e_set S a.toNat (iW i).toNat (e_nr t x) = S' := by
  unfold pA at h; split at h
  · rename_i hc; exact ⟨hc.1, hc.2.1, hc.2.2.1, hc.2.2.2.1, hc.2.2.2.2, Option.some.inj h⟩
  · cases h
theorem e_rv_ref {B : Nat} {a : Int} (h : 0 ≤ a) : e_rv B a = .ref (B + a.toNat) := by unfold e_rv; rw [if_neg (by omega)]
theorem e_vp_in {i : Int} {n : Nat} (h0 : 0 ≤ iW i) (h1 : (iW i).toNat < n) : vp_in (iI i) n := by
  intro h
  rcases h with h | h
  · have := Int32.lt_iff_toInt_lt.mp h
    rw [Int32.toInt_zero] at this
    have h2 : (iI i).toInt = iW i := rfl
    omega
  · have h2 : (iI i).toNatClampNeg = (iW i).toNat := rfl
    omega
def e_lo (ls : Array Slot) (nL : Nat) (l : List (Nat × Value)) : Prop := lv_has ls nL l ∧ ∀ q ∈ l, q.2.category = 1
theorem e_lo.at {ls : Array Slot} {nL : Nat} {l : List (Nat × Value)} (h : e_lo ls nL l) (k : Nat) {i : Nat} {v : Value} (hk : l[k]? = some (i, v)) : ls[i]? = some (.val v) := lv_at h.1 k hk
theorem e_lo.sub {ls : Array Slot} {nL : Nat} {l l' : List (Nat × Value)} (h : e_lo ls nL l) (ks : List Nat) (hl : lv_pick l ks = l') : e_lo ls nL l' := by
  refine ⟨lv_sub h.1 ks hl, fun q hq => ?_⟩
  subst hl
  unfold lv_pick at hq
  obtain ⟨i, -, hi⟩ := List.mem_filterMap.mp hq
  exact h.2 q (List.mem_of_getElem? hi)
theorem e_lo.size {ls : Array Slot} {nL : Nat} {l : List (Nat × Value)} (h : e_lo ls nL l) : ls.size = nL := h.1.1
section EW
variable {p : Program} {l : Launch} {e : Env} {R : Room} {s : State} {m : MethodId} {args : Array Value} {below : List Frame} {meth : Method} {c : Code} {H : Heap} {locs : List Loc} {cells slots : Nat} {Q : State → Prop}
variable {cc : ByteArray} {pc : Nat} {ls : Array Slot} {rest : List Value} {D : va_G} {cA : Nat → ClassId} {B : Nat} {S S' : HP}
theorem e_iadd (hx : p.tables.exec = Jvm.exec) (hb : c.code = cc) {x y : Int} (hdg : decode cc pc = .ok (.iadd, 1)) (kk : W p l e R s m args below meth c H locs cells slots Q (F0 m (pc + 1) ls (.int (iI (x + y)) :: rest))) : W p l e R s m args below meth c H locs cells slots Q (F0 m pc ls (.int (iI y) :: .int (iI x) :: rest)) :=
  lv_iadd hx hb hdg (by rw [iI_add]; exact kk)
theorem e_isub (hx : p.tables.exec = Jvm.exec) (hb : c.code = cc) {x y : Int} (hdg : decode cc pc = .ok (.isub, 1)) (kk : W p l e R s m args below meth c H locs cells slots Q (F0 m (pc + 1) ls (.int (iI (x - y)) :: rest))) : W p l e R s m args below meth c H locs cells slots Q (F0 m pc ls (.int (iI y) :: .int (iI x) :: rest)) :=
  lv_isub hx hb hdg (by rw [iI_sub]; exact kk)
theorem e_imul (hx : p.tables.exec = Jvm.exec) (hb : c.code = cc) {x y : Int} (hdg : decode cc pc = .ok (.imul, 1)) (kk : W p l e R s m args below meth c H locs cells slots Q (F0 m (pc + 1) ls (.int (iI (x * y)) :: rest))) : W p l e R s m args below meth c H locs cells slots Q (F0 m pc ls (.int (iI y) :: .int (iI x) :: rest)) :=
  lv_imul hx hb hdg (by rw [iI_mul]; exact kk)
theorem e_aload_n (hx : p.tables.exec = Jvm.exec) (hb : c.code = cc) {k : Fin 4} {i : Nat} {x : Int} (hdg : decode cc pc = .ok (.aload_n k, 1)) (hi : (k : Nat) = i) (hl : ls[i]? = some (.val (e_rv B x))) (kk : W p l e R s m args below meth c H locs cells slots Q (F0 m (pc + 1) ls (e_rv B x :: rest))) : W p l e R s m args below meth c H locs cells slots Q (F0 m pc ls rest) := by
  unfold e_rv at hl kk
  split at hl
  · rename_i h; rw [if_pos h] at kk; exact lv_aload_nN hx hb hdg hi hl kk
  · rename_i h; rw [if_neg h] at kk; exact lv_aload_n hx hb hdg hi hl kk
theorem e_istore_n (hx : p.tables.exec = Jvm.exec) (hb : c.code = cc) {k : Fin 4} {i nL : Nat} {x : Int32} {lv lv' : List (Nat × Value)} (hdg : decode cc pc = .ok (.istore_n k, 1)) (hi : (k : Nat) = i) (h : e_lo ls nL lv) (hn : i < nL) (hl : (i, Value.int x) :: lv.filter (fun q => !(q.1 == i)) = lv')
    (kk : ∀ ls' : Array Slot, e_lo ls' nL lv' → W p l e R s m args below meth c H locs cells slots Q (F0 m (pc + 1) ls' rest)) : W p l e R s m args below meth c H locs cells slots Q (F0 m pc ls (.int x :: rest)) := by
  have hf : lv.filter (fun q => !(q.1 == i) && !(q.1 + 1 == i && q.2.category == 2)) = lv.filter (fun q => !(q.1 == i)) := List.filter_congr fun q hq => by simp [h.2 q hq]
  refine lv_istore_n (lv' := lv') hx hb hdg hi h.1 hn (by rw [hf]; exact hl) fun ls' h' => kk ls' ⟨h', fun q hq => ?_⟩
  rw [← hl] at hq
  rcases List.mem_cons.mp hq with rfl | hq
  · rfl
  · exact h.2 q (List.mem_filter.mp hq).1
theorem e_istore (hx : p.tables.exec = Jvm.exec) (hb : c.code = cc) {i nL : Nat} {x : Int32} {lv lv' : List (Nat × Value)} (hdg : decode cc pc = .ok (.istore i, 2)) (h : e_lo ls nL lv) (hn : i < nL) (hl : (i, Value.int x) :: lv.filter (fun q => !(q.1 == i)) = lv')
    (kk : ∀ ls' : Array Slot, e_lo ls' nL lv' → W p l e R s m args below meth c H locs cells slots Q (F0 m (pc + 2) ls' rest)) : W p l e R s m args below meth c H locs cells slots Q (F0 m pc ls (.int x :: rest)) := by
  have hf : lv.filter (fun q => !(q.1 == i) && !(q.1 + 1 == i && q.2.category == 2)) = lv.filter (fun q => !(q.1 == i)) := List.filter_congr fun q hq => by simp [h.2 q hq]
  refine lv_istore (lv' := lv') hx hb hdg h.1 hn (by rw [hf]; exact hl) fun ls' h' => kk ls' ⟨h', fun q hq => ?_⟩
  rw [← hl] at hq
  rcases List.mem_cons.mp hq with rfl | hq
  · rfl
  · exact h.2 q (List.mem_filter.mp hq).1
theorem e_iinc (hx : p.tables.exec = Jvm.exec) (hb : c.code = cc) {i nL k : Nat} {n : Int} {x : Int} {lv lv' : List (Nat × Value)} (hdg : decode cc pc = .ok (.iinc i n, 3)) (h : e_lo ls nL lv) (hk : lv[k]? = some (i, .int (iI x))) (hn : i < nL) (hl : (i, Value.int (iI (x + n))) :: lv.filter (fun q => !(q.1 == i)) = lv')
    (kk : ∀ ls' : Array Slot, e_lo ls' nL lv' → W p l e R s m args below meth c H locs cells slots Q (F0 m (pc + 3) ls' rest)) : W p l e R s m args below meth c H locs cells slots Q (F0 m pc ls rest) := by
  have hf : lv.filter (fun q => !(q.1 == i) && !(q.1 + 1 == i && q.2.category == 2)) = lv.filter (fun q => !(q.1 == i)) := List.filter_congr fun q hq => by simp [h.2 q hq]
  refine lv_iinc (v := iI (x + n)) (lv' := lv') hx hb hdg h.1 hk (iI_add x n) hn (by rw [hf]; exact hl) fun ls' h' => kk ls' ⟨h', fun q hq => ?_⟩
  rw [← hl] at hq
  rcases List.mem_cons.mp hq with rfl | hq
  · rfl
  · exact h.2 q (List.mem_filter.mp hq).1
end EW
section EX
variable {p : Program} {l : Launch} {e : Env} {R : Room} {s : State} {m : MethodId} {args : Array Value} {below : List Frame} {meth : Method} {c : Code} {H : Heap} {locs : List Loc} {cells slots : Nat} {Q : State → Prop}
variable {cc : ByteArray} {pc : Nat} {ls : Array Slot} {rest : List Value} {D : va_G} {cA : Nat → ClassId} {B : Nat} {S S' : HP}
theorem e_obj {ci : Nat} {a : Int} (h0 : 0 ≤ a) (h1 : a.toNat < e_n S) (h2 : e_g S a.toNat = ci) (hc : ci < 100) : (e_ws B cA S)[a.toNat]? = some (B + a.toNat, .inr (ci, e_fl B ci (e_v S a.toNat))) := by
  rw [e_at h1, e_ce_obj h2 hc]
theorem e_arr {t : Nat} {a : Int} (h1 : a.toNat < e_n S) (h2 : e_g S a.toNat = t) (hc : 100 ≤ t) : (e_ws B cA S)[a.toNat]? = some (B + a.toNat, .inl (cA t, e_l S a.toNat, e_ae B t (e_v S a.toNat))) := by
  rw [e_at h1, e_ce_arr h2 hc]
theorem e_getV (hx : p.tables.exec = Jvm.exec) (hb : c.code = cc) {own C : String} {T : u_T} {N index ci k kd : Nat} {Ts : List Cond} (hts : ∀ w ∈ Ts, w.before args s = true) (hin : ∀ w ∈ u_ws C T N, w ∈ Ts) (hown : s.vm.findClass own = some m.cls)
    (hp : e_Pic D cA B S s H) {a x : Int} (hg : gF ci k S a = some x) (hc : vwCl[ci]? = some (C, T, N)) (h100 : ci < 100) (hk : k < N) (hkd : (e_fk ci)[k]? = some kd) (hlink : (Cond.fieldLink own index C (T k).2.1 (T k).2.2.1).before args s = true) (hCT : (T k).1 = C) (hdg : decode cc pc = .ok (.getfield index, 3))
    (kk : W p l e R s m args below meth c H locs cells slots Q (F0 m (pc + 3) ls (e_fv B kd x :: rest))) : W p l e R s m args below meth c H locs cells slots Q (F0 m pc ls (e_rv B a :: rest)) := by
  obtain ⟨h0, h1, h2, h3⟩ := gF_some hg
  rw [e_rv_ref h0]
  exact va_get (ref := C) hx hb hts hin hown hp.1 hp.2.1 a.toNat (e_obj h0 h1 h2 h100) hc k hk hlink (fun x h => by rw [hCT] at h; exact h) (v := e_fv B kd x) (by rw [e_fl_at hkd, h3]) hdg kk
theorem e_putV (hx : p.tables.exec = Jvm.exec) (hb : c.code = cc) {own C : String} {T : u_T} {N index ci k kd : Nat} {Ts : List Cond} (hts : ∀ w ∈ Ts, w.before args s = true) (hin : ∀ w ∈ u_ws C T N, w ∈ Ts) (ty0 : Nat → FieldType) (hty : ∀ k, k < N → parseFieldDescriptor (T k).2.2.1 = some (ty0 k)) (hnm : ∀ a, a < N → ∀ b, b < N → a ≠ b → (T a).2.1 ≠ (T b).2.1) (hown : s.vm.findClass own = some m.cls)
    (hp : e_Pic D cA B S s H) (hS : va_S (e_A B) s.heap H locs) {a x : Int} (h0 : 0 ≤ a) (h1 : a.toNat < e_n S) (h2 : e_g S a.toNat = ci) (h3 : e_set S a.toNat k x = S') (hc : vwCl[ci]? = some (C, T, N)) (h100 : ci < 100) (hk : k < N) (hkd : (e_fk ci)[k]? = some kd) (hlink : (Cond.fieldLink own index C (T k).2.1 (T k).2.2.1).before args s = true) (hCT : (T k).1 = C) (hfin : (T k).2.2.2 = false) {ty : FieldType} (hd : parseFieldDescriptor (T k).2.2.1 = some ty) (hn : narrow ty (e_fv B kd x) = e_fv B kd x) (hfit : fits ty (e_fv B kd x) = true) (hdg : decode cc pc = .ok (.putfield index, 3))
    (kk : ∀ (H1 : Heap) (locs1 : List Loc), e_Pic D cA B S' s H1 → va_S (e_A B) s.heap H1 locs1 → W p l e R s m args below meth c H1 locs1 cells slots Q (F0 m (pc + 3) ls rest)) : W p l e R s m args below meth c H locs cells slots Q (F0 m pc ls (e_fv B kd x :: e_rv B a :: rest)) := by
  rw [e_rv_ref h0]
  have hz : (.inr (ci, (e_fl B ci (e_v S a.toNat)).set k (e_fv B kd x)) : va_E) = e_ce B cA (e_set S a.toNat k x) a.toNat := by
    rw [e_ce_obj (show e_g (e_set S a.toNat k x) a.toNat = ci from h2) h100, e_fl_set hkd]
    exact congrArg (fun f => (.inr (ci, e_fl B ci f) : va_E)) up2_eq.symm
  obtain ⟨r, g1, cell, q1, q2, q3, q4⟩ := hp.2.1 a.toNat _ (e_obj h0 h1 h2 h100)
  have hr : r = (C, T, N) := Option.some.inj (g1.symm.trans hc)
  subst hr
  have hKc := hp.1.1 ci _ hc
  obtain ⟨hSl, hfc, kC, hkC, hkind⟩ := id hKc
  obtain ⟨cf, kf, fi, f, hi, hsl⟩ := hSl k hk
  have hlay := hts _ (hin _ (u_in_lay hk))
  unfold u_lay at hlay
  rw [if_neg (by rw [hfin]; decide)] at hlay
  have hst := (u_facts hfc hkC (u_lays hts hin hk) hi).1
  refine W.putK hx hb (f := f) ⟨hown, hlink, ⟨_, _, _, by rw [← hCT]; exact hi⟩, hst⟩ (by rw [q2]; exact u_store hfc hkC hkind hlay hi hd hn hfit) q1 q3 (by rw [hsl]; exact k2_hasslot (q4 k hk)) rfl rfl hdg fun H' e1 e2 e3 => ?_
  rw [hsl] at e1 ⊢
  have hP : va_P D vwCl ((e_ws B cA S).set a.toNat (B + a.toNat, .inr (ci, (e_fl B ci (e_v S a.toNat)).set k (e_fv B kd x)))) H' :=
    hp.2.1.set e_DA (e_obj h0 h1 h2 h100) ⟨_, hc, t_OB.to (V := updV (vp_V (e_fl B ci (e_v S a.toNat))) k (e_fv B kd x)) ⟨_, e1, q2, q3, t_set q4 (va_apart (own := own) hts hin ty0 hty hnm hp.1 hc) hk _⟩ (fun j _ => vp_updV_set (by rw [e_fl_len]; exact (List.getElem?_eq_some_iff.mp hkd).1) _ j)⟩ e3
  rw [e_ws_put h1 hz, h3] at hP
  have hn' : e_n S' = e_n S := by rw [← h3]; rfl
  exact kk H' _ ⟨hp.1, hP, by rw [e2, hn']; exact hp.2.2.1, hp.2.2.2⟩ (hS.put e2 e3 (Nat.le_add_right B a.toNat))
theorem e_ty_at {t i : Nat} {ty : FieldType} {D : va_G} {cl : List vw_C} (hK : va_K D cl (e_tys cA) s) (h : (e_tys cA)[i]? = some (cA t, ty)) : ArrOfT s (cA t) ty := (hK.2 i _ h).1
theorem e_iald (hx : p.tables.exec = Jvm.exec) (hb : c.code = cc) (hp : e_Pic D cA B S s H) {a i x : Int} (hg : gA 101 S a i = some x) (hdg : decode cc pc = .ok (.iaload, 1))
    (kk : W p l e R s m args below meth c H locs cells slots Q (F0 m (pc + 1) ls (.int (iI x) :: rest))) : W p l e R s m args below meth c H locs cells slots Q (F0 m pc ls (.int (iI i) :: e_rv B a :: rest)) := by
  obtain ⟨h0, h1, h2, h3, h4, h5⟩ := gA_some hg
  rw [e_rv_ref h0]
  refine va_iald (t0 := 1) (f := fun j => iI (e_v S a.toNat j)) hx hb hp.1 hp.2.1 a.toNat (e_arr h1 h2 (by decide)) rfl (e_vp_in h3 h4) hdg ?_
  show W p l e R s m args below meth c H locs cells slots Q (F0 m (pc + 1) ls (.int (iI (e_v S a.toNat (iW i).toNat)) :: rest))
  rw [h5]; exact kk
theorem e_cald (hx : p.tables.exec = Jvm.exec) (hb : c.code = cc) (hp : e_Pic D cA B S s H) {a i x : Int} (hg : gA 100 S a i = some x) (hdg : decode cc pc = .ok (.caload, 1))
    (kk : W p l e R s m args below meth c H locs cells slots Q (F0 m (pc + 1) ls (.int (iI x) :: rest))) : W p l e R s m args below meth c H locs cells slots Q (F0 m pc ls (.int (iI i) :: e_rv B a :: rest)) := by
  obtain ⟨h0, h1, h2, h3, h4, h5⟩ := gA_some hg
  rw [e_rv_ref h0]
  refine va_cald (t0 := 0) (f := fun j => iI (e_v S a.toNat j)) hx hb hp.1 hp.2.1 a.toNat (e_arr h1 h2 (by decide)) rfl (e_vp_in h3 h4) hdg ?_
  show W p l e R s m args below meth c H locs cells slots Q (F0 m (pc + 1) ls (.int (iI (e_v S a.toNat (iW i).toNat)) :: rest))
  rw [h5]; exact kk
theorem e_iast (hx : p.tables.exec = Jvm.exec) (hb : c.code = cc) (hp : e_Pic D cA B S s H) (hS : va_S (e_A B) s.heap H locs) {a i x : Int} (hg : pA 101 S a i x = some S') (hdg : decode cc pc = .ok (.iastore, 1))
    (kk : ∀ (H1 : Heap) (locs1 : List Loc), e_Pic D cA B S' s H1 → va_S (e_A B) s.heap H1 locs1 → W p l e R s m args below meth c H1 locs1 cells slots Q (F0 m (pc + 1) ls rest)) : W p l e R s m args below meth c H locs cells slots Q (F0 m pc ls (.int (iI x) :: .int (iI i) :: e_rv B a :: rest)) := by
  obtain ⟨h0, h1, h2, h3, h4, h5⟩ := pA_some hg
  have h5 : e_set S a.toNat (iW i).toNat x = S' := h5
  rw [e_rv_ref h0]
  have hat := e_arr (B := B) (cA := cA) h1 h2 (by decide : 100 ≤ 101)
  refine W.iast hx hb (hp.2.1 a.toNat _ hat) ((hp.1.2 1 _ rfl).1 (e_l S a.toNat) (fun j => .int (iI (e_v S a.toNat j)))) (fun q => by cases q) (by show ¬ (iI i < 0 ∨ (arrV _ _ _).slots.size ≤ _); rw [arrV_size]; exact e_vp_in h3 h4) rfl rfl hdg fun H1 e1 z oq => ?_
  have hP : va_P D vwCl ((e_ws B cA S).set a.toNat (B + a.toNat, .inl (cA 101, e_l S a.toNat, .inl (upd (fun j => iI (e_v S a.toNat j)) (iI i).toNatClampNeg (iI x))))) H1 := by
    refine hp.2.1.set e_DA hat ?_ oq
    show H1[B + a.toNat]? = some (vp_cell _ _)
    rw [e1, vp_cell_i]
    exact congrArg some (by rw [show e_ae B 101 (e_v S a.toNat) = .inl (fun j => iI (e_v S a.toNat j)) from rfl]; rw [vp_cell_i, arrV_store]; congr 2; funext q; by_cases hq : q = (iI i).toNatClampNeg <;> simp [updV, upd, hq])
  have hz : (.inl (cA 101, e_l S a.toNat, .inl (upd (fun j => iI (e_v S a.toNat j)) (iI i).toNatClampNeg (iI x))) : va_E) = e_ce B cA (e_set S a.toNat (iW i).toNat x) a.toNat := by
    rw [e_ce_arr (show e_g (e_set S a.toNat (iW i).toNat x) a.toNat = 101 from h2) (by decide)]
    show (.inl (cA 101, e_l S a.toNat, .inl _) : va_E) = .inl (cA 101, e_l S a.toNat, .inl (fun j => iI (up2 (e_v S) a.toNat (iW i).toNat x a.toNat j)))
    refine congrArg (fun f => (.inl (cA 101, e_l S a.toNat, .inl f) : va_E)) (funext fun q => ?_)
    rw [up2_eq, iI_clamp]
    by_cases hq : q = (iW i).toNat <;> simp [upd, hq]
  rw [e_ws_put h1 hz, h5] at hP
  have hn' : e_n S' = e_n S := by rw [← h5]; rfl
  exact kk H1 _ ⟨hp.1, hP, by rw [z, hn']; exact hp.2.2.1, hp.2.2.2⟩ (hS.put z oq (Nat.le_add_right B a.toNat))
end EX
section EY
variable {p : Program} {l : Launch} {e : Env} {R : Room} {s : State} {m : MethodId} {args : Array Value} {below : List Frame} {meth : Method} {c : Code} {H : Heap} {locs : List Loc} {cells slots : Nat} {Q : State → Prop}
variable {cc : ByteArray} {pc : Nat} {ls : Array Slot} {rest : List Value} {D : va_G} {cA : Nat → ClassId} {B : Nat} {S S' : HP}

theorem e_icmp_lt (hx : p.tables.exec = Jvm.exec) (hb : c.code = cc) {x y : Int} {off : Int} {tgt : Nat} (hdg : decode cc pc = .ok (.if_icmp .lt off, 3)) (ht : (pc : Int) + off = (tgt : Int)) (kt : iW x < iW y → W p l e R s m args below meth c H locs cells slots Q (F0 m tgt ls rest)) (kf : ¬ (iW x < iW y) → W p l e R s m args below meth c H locs cells slots Q (F0 m (pc + 3) ls rest)) : W p l e R s m args below meth c H locs cells slots Q (F0 m pc ls (.int (iI y) :: .int (iI x) :: rest)) :=
  lv_icmp_lt hx hb hdg ht (fun h => kt ((iI_lt x y).mp h)) (fun h => kf (fun q => h ((iI_lt x y).mpr q)))
theorem e_if_lt (hx : p.tables.exec = Jvm.exec) (hb : c.code = cc) {x : Int} {off : Int} {tgt : Nat} (hdg : decode cc pc = .ok (.ifCond .lt off, 3)) (ht : (pc : Int) + off = (tgt : Int)) (kt : iW x < 0 → W p l e R s m args below meth c H locs cells slots Q (F0 m tgt ls rest)) (kf : ¬ (iW x < 0) → W p l e R s m args below meth c H locs cells slots Q (F0 m (pc + 3) ls rest)) : W p l e R s m args below meth c H locs cells slots Q (F0 m pc ls (.int (iI x) :: rest)) :=
  lv_if_lt hx hb hdg ht (fun h => kt (by have := (iI_lt x 0).mp h; rwa [iW_0] at this)) (fun h => kf (fun q => h ((iI_lt x 0).mpr (by rw [iW_0]; exact q))))
theorem e_icmp_ge (hx : p.tables.exec = Jvm.exec) (hb : c.code = cc) {x y : Int} {off : Int} {tgt : Nat} (hdg : decode cc pc = .ok (.if_icmp .ge off, 3)) (ht : (pc : Int) + off = (tgt : Int)) (kt : iW y ≤ iW x → W p l e R s m args below meth c H locs cells slots Q (F0 m tgt ls rest)) (kf : ¬ (iW y ≤ iW x) → W p l e R s m args below meth c H locs cells slots Q (F0 m (pc + 3) ls rest)) : W p l e R s m args below meth c H locs cells slots Q (F0 m pc ls (.int (iI y) :: .int (iI x) :: rest)) :=
  lv_icmp_ge hx hb hdg ht (fun h => kt ((iI_le y x).mp h)) (fun h => kf (fun q => h ((iI_le y x).mpr q)))
theorem e_if_ge (hx : p.tables.exec = Jvm.exec) (hb : c.code = cc) {x : Int} {off : Int} {tgt : Nat} (hdg : decode cc pc = .ok (.ifCond .ge off, 3)) (ht : (pc : Int) + off = (tgt : Int)) (kt : 0 ≤ iW x → W p l e R s m args below meth c H locs cells slots Q (F0 m tgt ls rest)) (kf : ¬ (0 ≤ iW x) → W p l e R s m args below meth c H locs cells slots Q (F0 m (pc + 3) ls rest)) : W p l e R s m args below meth c H locs cells slots Q (F0 m pc ls (.int (iI x) :: rest)) :=
  lv_if_ge hx hb hdg ht (fun h => kt (by have := (iI_le 0 x).mp h; rwa [iW_0] at this)) (fun h => kf (fun q => h ((iI_le 0 x).mpr (by rw [iW_0]; exact q))))
theorem e_icmp_gt (hx : p.tables.exec = Jvm.exec) (hb : c.code = cc) {x y : Int} {off : Int} {tgt : Nat} (hdg : decode cc pc = .ok (.if_icmp .gt off, 3)) (ht : (pc : Int) + off = (tgt : Int)) (kt : iW y < iW x → W p l e R s m args below meth c H locs cells slots Q (F0 m tgt ls rest)) (kf : ¬ (iW y < iW x) → W p l e R s m args below meth c H locs cells slots Q (F0 m (pc + 3) ls rest)) : W p l e R s m args below meth c H locs cells slots Q (F0 m pc ls (.int (iI y) :: .int (iI x) :: rest)) :=
  lv_icmp_gt hx hb hdg ht (fun h => kt ((iI_lt y x).mp h)) (fun h => kf (fun q => h ((iI_lt y x).mpr q)))
theorem e_if_gt (hx : p.tables.exec = Jvm.exec) (hb : c.code = cc) {x : Int} {off : Int} {tgt : Nat} (hdg : decode cc pc = .ok (.ifCond .gt off, 3)) (ht : (pc : Int) + off = (tgt : Int)) (kt : 0 < iW x → W p l e R s m args below meth c H locs cells slots Q (F0 m tgt ls rest)) (kf : ¬ (0 < iW x) → W p l e R s m args below meth c H locs cells slots Q (F0 m (pc + 3) ls rest)) : W p l e R s m args below meth c H locs cells slots Q (F0 m pc ls (.int (iI x) :: rest)) :=
  lv_if_gt hx hb hdg ht (fun h => kt (by have := (iI_lt 0 x).mp h; rwa [iW_0] at this)) (fun h => kf (fun q => h ((iI_lt 0 x).mpr (by rw [iW_0]; exact q))))
theorem e_icmp_le (hx : p.tables.exec = Jvm.exec) (hb : c.code = cc) {x y : Int} {off : Int} {tgt : Nat} (hdg : decode cc pc = .ok (.if_icmp .le off, 3)) (ht : (pc : Int) + off = (tgt : Int)) (kt : iW x ≤ iW y → W p l e R s m args below meth c H locs cells slots Q (F0 m tgt ls rest)) (kf : ¬ (iW x ≤ iW y) → W p l e R s m args below meth c H locs cells slots Q (F0 m (pc + 3) ls rest)) : W p l e R s m args below meth c H locs cells slots Q (F0 m pc ls (.int (iI y) :: .int (iI x) :: rest)) :=
  lv_icmp_le hx hb hdg ht (fun h => kt ((iI_le x y).mp h)) (fun h => kf (fun q => h ((iI_le x y).mpr q)))
theorem e_if_le (hx : p.tables.exec = Jvm.exec) (hb : c.code = cc) {x : Int} {off : Int} {tgt : Nat} (hdg : decode cc pc = .ok (.ifCond .le off, 3)) (ht : (pc : Int) + off = (tgt : Int)) (kt : iW x ≤ 0 → W p l e R s m args below meth c H locs cells slots Q (F0 m tgt ls rest)) (kf : ¬ (iW x ≤ 0) → W p l e R s m args below meth c H locs cells slots Q (F0 m (pc + 3) ls rest)) : W p l e R s m args below meth c H locs cells slots Q (F0 m pc ls (.int (iI x) :: rest)) :=
  lv_if_le hx hb hdg ht (fun h => kt (by have := (iI_le x 0).mp h; rwa [iW_0] at this)) (fun h => kf (fun q => h ((iI_le x 0).mpr (by rw [iW_0]; exact q))))
theorem e_icmp_eq (hx : p.tables.exec = Jvm.exec) (hb : c.code = cc) {x y : Int} {off : Int} {tgt : Nat} (hdg : decode cc pc = .ok (.if_icmp .eq off, 3)) (ht : (pc : Int) + off = (tgt : Int)) (kt : iW x = iW y → W p l e R s m args below meth c H locs cells slots Q (F0 m tgt ls rest)) (kf : ¬ (iW x = iW y) → W p l e R s m args below meth c H locs cells slots Q (F0 m (pc + 3) ls rest)) : W p l e R s m args below meth c H locs cells slots Q (F0 m pc ls (.int (iI y) :: .int (iI x) :: rest)) :=
  lv_icmp_eq hx hb hdg ht (fun h => kt ((iI_eq x y).mp h)) (fun h => kf (fun q => h ((iI_eq x y).mpr q)))
theorem e_if_eq (hx : p.tables.exec = Jvm.exec) (hb : c.code = cc) {x : Int} {off : Int} {tgt : Nat} (hdg : decode cc pc = .ok (.ifCond .eq off, 3)) (ht : (pc : Int) + off = (tgt : Int)) (kt : iW x = 0 → W p l e R s m args below meth c H locs cells slots Q (F0 m tgt ls rest)) (kf : ¬ (iW x = 0) → W p l e R s m args below meth c H locs cells slots Q (F0 m (pc + 3) ls rest)) : W p l e R s m args below meth c H locs cells slots Q (F0 m pc ls (.int (iI x) :: rest)) :=
  lv_if_eq hx hb hdg ht (fun h => kt (by have := (iI_eq x 0).mp h; rwa [iW_0] at this)) (fun h => kf (fun q => h ((iI_eq x 0).mpr (by rw [iW_0]; exact q))))
theorem e_icmp_ne (hx : p.tables.exec = Jvm.exec) (hb : c.code = cc) {x y : Int} {off : Int} {tgt : Nat} (hdg : decode cc pc = .ok (.if_icmp .ne off, 3)) (ht : (pc : Int) + off = (tgt : Int)) (kt : ¬ (iW x = iW y) → W p l e R s m args below meth c H locs cells slots Q (F0 m tgt ls rest)) (kf : iW x = iW y → W p l e R s m args below meth c H locs cells slots Q (F0 m (pc + 3) ls rest)) : W p l e R s m args below meth c H locs cells slots Q (F0 m pc ls (.int (iI y) :: .int (iI x) :: rest)) :=
  lv_icmp_ne hx hb hdg ht (fun h => kt (fun q => h ((iI_eq x y).mpr q))) (fun h => kf ((iI_eq x y).mp h))
theorem e_if_ne (hx : p.tables.exec = Jvm.exec) (hb : c.code = cc) {x : Int} {off : Int} {tgt : Nat} (hdg : decode cc pc = .ok (.ifCond .ne off, 3)) (ht : (pc : Int) + off = (tgt : Int)) (kt : ¬ (iW x = 0) → W p l e R s m args below meth c H locs cells slots Q (F0 m tgt ls rest)) (kf : iW x = 0 → W p l e R s m args below meth c H locs cells slots Q (F0 m (pc + 3) ls rest)) : W p l e R s m args below meth c H locs cells slots Q (F0 m pc ls (.int (iI x) :: rest)) :=
  lv_if_ne hx hb hdg ht (fun h => kt (fun q => h ((iI_eq x 0).mpr (by rw [iW_0]; exact q)))) (fun h => kf (by have := (iI_eq x 0).mp h; rwa [iW_0] at this))
theorem e_getI (hx : p.tables.exec = Jvm.exec) (hb : c.code = cc) {own C : String} {T : u_T} {N index ci k : Nat} {Ts : List Cond} (hts : ∀ w ∈ Ts, w.before args s = true) (hin : ∀ w ∈ u_ws C T N, w ∈ Ts) (hown : s.vm.findClass own = some m.cls)
    (hp : e_Pic D cA B S s H) {a x : Int} (hg : gF ci k S a = some x) (hc : vwCl[ci]? = some (C, T, N)) (h100 : ci < 100) (hk : k < N) (hkd : (e_fk ci)[k]? = some 0) (hlink : (Cond.fieldLink own index C (T k).2.1 (T k).2.2.1).before args s = true) (hCT : (T k).1 = C) (hdg : decode cc pc = .ok (.getfield index, 3))
    (kk : W p l e R s m args below meth c H locs cells slots Q (F0 m (pc + 3) ls (.int (iI x) :: rest))) : W p l e R s m args below meth c H locs cells slots Q (F0 m pc ls (e_rv B a :: rest)) := e_getV (kd := 0) hx hb hts hin hown hp hg hc h100 hk hkd hlink hCT hdg kk
theorem e_getR (hx : p.tables.exec = Jvm.exec) (hb : c.code = cc) {own C : String} {T : u_T} {N index ci k : Nat} {Ts : List Cond} (hts : ∀ w ∈ Ts, w.before args s = true) (hin : ∀ w ∈ u_ws C T N, w ∈ Ts) (hown : s.vm.findClass own = some m.cls)
    (hp : e_Pic D cA B S s H) {a x : Int} (hg : gF ci k S a = some x) (hc : vwCl[ci]? = some (C, T, N)) (h100 : ci < 100) (hk : k < N) (hkd : (e_fk ci)[k]? = some 2) (hlink : (Cond.fieldLink own index C (T k).2.1 (T k).2.2.1).before args s = true) (hCT : (T k).1 = C) (hdg : decode cc pc = .ok (.getfield index, 3))
    (kk : W p l e R s m args below meth c H locs cells slots Q (F0 m (pc + 3) ls (e_rv B x :: rest))) : W p l e R s m args below meth c H locs cells slots Q (F0 m pc ls (e_rv B a :: rest)) := e_getV (kd := 2) hx hb hts hin hown hp hg hc h100 hk hkd hlink hCT hdg kk
theorem e_putI (hx : p.tables.exec = Jvm.exec) (hb : c.code = cc) {own C : String} {T : u_T} {N index ci k : Nat} {Ts : List Cond} (hts : ∀ w ∈ Ts, w.before args s = true) (hin : ∀ w ∈ u_ws C T N, w ∈ Ts) (ty0 : Nat → FieldType) (hty : ∀ k, k < N → parseFieldDescriptor (T k).2.2.1 = some (ty0 k)) (hnm : ∀ a, a < N → ∀ b, b < N → a ≠ b → (T a).2.1 ≠ (T b).2.1) (hown : s.vm.findClass own = some m.cls)
    (hp : e_Pic D cA B S s H) (hS : va_S (e_A B) s.heap H locs) {a x : Int} (hg : pF ci k S a x = some S') (hc : vwCl[ci]? = some (C, T, N)) (h100 : ci < 100) (hk : k < N) (hkd : (e_fk ci)[k]? = some 0) (hlink : (Cond.fieldLink own index C (T k).2.1 (T k).2.2.1).before args s = true) (hCT : (T k).1 = C) (hfin : (T k).2.2.2 = false) (hd : parseFieldDescriptor (T k).2.2.1 = some .int) (hdg : decode cc pc = .ok (.putfield index, 3))
    (kk : ∀ (H1 : Heap) (locs1 : List Loc), e_Pic D cA B S' s H1 → va_S (e_A B) s.heap H1 locs1 → W p l e R s m args below meth c H1 locs1 cells slots Q (F0 m (pc + 3) ls rest)) : W p l e R s m args below meth c H locs cells slots Q (F0 m pc ls (.int (iI x) :: e_rv B a :: rest)) := by
  obtain ⟨h0, h1, h2, h3⟩ := pF_some hg
  exact e_putV (kd := 0) (ty := .int) hx hb hts hin ty0 hty hnm hown hp hS h0 h1 h2 h3 hc h100 hk hkd hlink hCT hfin hd rfl rfl hdg kk
theorem e_putZ (hx : p.tables.exec = Jvm.exec) (hb : c.code = cc) {own C : String} {T : u_T} {N index ci k : Nat} {Ts : List Cond} (hts : ∀ w ∈ Ts, w.before args s = true) (hin : ∀ w ∈ u_ws C T N, w ∈ Ts) (ty0 : Nat → FieldType) (hty : ∀ k, k < N → parseFieldDescriptor (T k).2.2.1 = some (ty0 k)) (hnm : ∀ a, a < N → ∀ b, b < N → a ≠ b → (T a).2.1 ≠ (T b).2.1) (hown : s.vm.findClass own = some m.cls)
    (hp : e_Pic D cA B S s H) (hS : va_S (e_A B) s.heap H locs) {a x : Int} (hg : pZ ci k S a x = some S') (hc : vwCl[ci]? = some (C, T, N)) (h100 : ci < 100) (hk : k < N) (hkd : (e_fk ci)[k]? = some 0) (hlink : (Cond.fieldLink own index C (T k).2.1 (T k).2.2.1).before args s = true) (hCT : (T k).1 = C) (hfin : (T k).2.2.2 = false) (hd : parseFieldDescriptor (T k).2.2.1 = some .boolean) (hdg : decode cc pc = .ok (.putfield index, 3))
    (kk : ∀ (H1 : Heap) (locs1 : List Loc), e_Pic D cA B S' s H1 → va_S (e_A B) s.heap H1 locs1 → W p l e R s m args below meth c H1 locs1 cells slots Q (F0 m (pc + 3) ls rest)) : W p l e R s m args below meth c H locs cells slots Q (F0 m pc ls (.int (iI x) :: e_rv B a :: rest)) := by
  obtain ⟨hz, h0, h1, h2, h3⟩ := pZ_some hg
  have hv : iI x = 0 ∨ iI x = 1 := hz.imp (fun h => (iI_eq x 0).mpr (by rw [iW_0]; exact h)) (fun h => (iI_eq x 1).mpr (by rw [h]; rfl))
  exact e_putV (kd := 0) (ty := .boolean) hx hb hts hin ty0 hty hnm hown hp hS h0 h1 h2 h3 hc h100 hk hkd hlink hCT hfin hd (by show narrow .boolean (.int (iI x)) = .int (iI x); rcases hv with h | h <;> rw [h] <;> rfl) (by show fits .boolean (.int (iI x)) = true; rcases hv with h | h <;> rw [h] <;> rfl) hdg kk
theorem e_putR (hx : p.tables.exec = Jvm.exec) (hb : c.code = cc) {own C : String} {T : u_T} {N index ci k : Nat} {Ts : List Cond} (hts : ∀ w ∈ Ts, w.before args s = true) (hin : ∀ w ∈ u_ws C T N, w ∈ Ts) (ty0 : Nat → FieldType) (hty : ∀ k, k < N → parseFieldDescriptor (T k).2.2.1 = some (ty0 k)) (hnm : ∀ a, a < N → ∀ b, b < N → a ≠ b → (T a).2.1 ≠ (T b).2.1) (hown : s.vm.findClass own = some m.cls)
    (hp : e_Pic D cA B S s H) (hS : va_S (e_A B) s.heap H locs) {a x : Int} (hg : pF ci k S a x = some S') (hc : vwCl[ci]? = some (C, T, N)) (h100 : ci < 100) (hk : k < N) (hkd : (e_fk ci)[k]? = some 2) (hlink : (Cond.fieldLink own index C (T k).2.1 (T k).2.2.1).before args s = true) (hCT : (T k).1 = C) (hfin : (T k).2.2.2 = false) {ty : FieldType} (hd : parseFieldDescriptor (T k).2.2.1 = some ty) (hr : (∃ n, ty = .object n) ∨ ∃ n, ty = .array n) (hdg : decode cc pc = .ok (.putfield index, 3))
    (kk : ∀ (H1 : Heap) (locs1 : List Loc), e_Pic D cA B S' s H1 → va_S (e_A B) s.heap H1 locs1 → W p l e R s m args below meth c H1 locs1 cells slots Q (F0 m (pc + 3) ls rest)) : W p l e R s m args below meth c H locs cells slots Q (F0 m pc ls (e_rv B x :: e_rv B a :: rest)) := by
  obtain ⟨h0, h1, h2, h3⟩ := pF_some hg
  exact e_putV (kd := 2) (ty := ty) hx hb hts hin ty0 hty hnm hown hp hS h0 h1 h2 h3 hc h100 hk hkd hlink hCT hfin hd (by show narrow ty (e_rv B x) = e_rv B x; unfold e_rv; rcases hr with ⟨n, rfl⟩ | ⟨n, rfl⟩ <;> split <;> rfl) (by show fits ty (e_rv B x) = true; unfold e_rv; rcases hr with ⟨n, rfl⟩ | ⟨n, rfl⟩ <;> split <;> rfl) hdg kk
/-- what a method that answers an int says -/
abbrev e_Qi (D : va_G) (cA : Nat → ClassId) (B : Nat) (r : Int) (S : HP) : Array Value → State → Outcome → State → Prop := va_Qi (S := Unit) (fun r' _ => r' = iI r) (fun _ t => e_PU D cA B S t) (e_A B)
abbrev e_Qv (D : va_G) (cA : Nat → ClassId) (B : Nat) (S : HP) : Array Value → State → Outcome → State → Prop := va_Qv (S := Unit) (fun _ => True) (fun _ t => e_PU D cA B S t) (e_A B)
theorem e_PU_of (hp : e_Pic D cA B S s H) {t : State} (ht : t.heap = H) (hW : s.WarmedH t.vm) : e_PU D cA B S t := ⟨va_K.moved hW.alike hp.1, by rw [ht]; exact hp.2.1, by rw [ht]; exact hp.2.2.1, fun w hw => e_nw hW hw (hp.2.2.2 w hw)⟩
theorem e_iret (hx : p.tables.exec = Jvm.exec) (hb : c.code = cc) (hr : meth.sig.returnType = some .int) (hlocks : meth.locks = false) (hp : e_Pic D cA B S s H) (hS : va_S (e_A B) s.heap H locs) {x : Int} (hdg : decode cc pc = .ok (.ireturn, 1)) : W p l e R s m args below meth c H locs cells slots (MQ below (e_Qi D cA B x S) args s cells slots (e_A B)) (F0 m pc ls [.int (iI x)]) :=
  W.iret hx hb hr (fun t ht hW => ⟨⟨iI x, (), rfl, rfl, e_PU_of hp ht hW⟩, hS.F ht⟩) hS.2.2 hdg hlocks
theorem e_zret (hx : p.tables.exec = Jvm.exec) (hb : c.code = cc) (hr : meth.sig.returnType = some .boolean) (hlocks : meth.locks = false) (hp : e_Pic D cA B S s H) (hS : va_S (e_A B) s.heap H locs) {x : Int} (hz : iW x = 0 ∨ iW x = 1) (hdg : decode cc pc = .ok (.ireturn, 1)) : W p l e R s m args below meth c H locs cells slots (MQ below (e_Qi D cA B x S) args s cells slots (e_A B)) (F0 m pc ls [.int (iI x)]) := by
  have hv : iI x = 0 ∨ iI x = 1 := hz.imp (fun h => (iI_eq x 0).mpr (by rw [iW_0]; exact h)) (fun h => (iI_eq x 1).mpr (by rw [h]; rfl))
  exact W.zret (ty := .boolean) hx hb hr (by rcases hv with h | h <;> rw [h] <;> rfl) (fun t ht hW => ⟨⟨iI x, (), rfl, rfl, e_PU_of hp ht hW⟩, hS.F ht⟩) hS.2.2 hdg hlocks
theorem e_vret (hx : p.tables.exec = Jvm.exec) (hb : c.code = cc) (hr : meth.sig.returnType = none) (hlocks : meth.locks = false) (hp : e_Pic D cA B S s H) (hS : va_S (e_A B) s.heap H locs) (hdg : decode cc pc = .ok (.return_, 1)) : W p l e R s m args below meth c H locs cells slots (MQ below (e_Qv D cA B S) args s cells slots (e_A B)) (F0 m pc ls []) :=
  W.vret hx hb hr (fun t ht hW => ⟨⟨(), rfl, trivial, e_PU_of hp ht hW⟩, hS.F ht⟩) hS.2.2 hdg hlocks
/-- the words of a method: its code, and what of the tables goes with any call -/
def e_tb : List Cond := lw_tbl.filter goodWord
def e_wu (y : MethodName) (b : ByteArray) (n : Nat) (r : Option FieldType) : List Cond := .code y b n r :: e_tb
theorem e_mem {w : Cond} {i : Nat} (h : lw_tbl[i]? = some w) (hg : goodWord w = true) : w ∈ e_tb := List.mem_filter.mpr ⟨List.mem_of_getElem? h, hg⟩
theorem e_gi {y : MethodName} {b : ByteArray} {n : Nat} {r : Option FieldType} (h : Cond.code y b n r ∈ e_tb) : GoodIn (e_tb) (e_wu y b n r) := fun w hw => by
  rcases List.mem_cons.mp hw with rfl | hw
  · exact ⟨h, good_of_word (List.mem_filter.mp h).2⟩
  · exact ⟨hw, good_of_word (List.mem_filter.mp hw).2⟩
theorem e_blind {av : List Value} : FrameBlind (va_Pc av (fun U => e_PU D cA B S U)) := fun a U g mk h => ⟨h.1, va_K.moved (u := U) (U := U.calling g mk a) (Vm.Alike.refl U.vm) h.2.1, h.2.2.1, h.2.2.2.1, fun w hw => e_nwS (u := U) (U := U.calling g mk a) rfl hw (h.2.2.2.2 w hw)⟩
theorem e_callS {y : MethodName} {by_ : ByteArray} {maxL nL mc ms n index : Nat} {ret : Option FieldType} {rm : Room} {own : String} {As : List Value} {r : Int}
    (hx : p.tables.exec = Jvm.exec) (hb : c.code = cc) (hml : c.maxLocals = nL) (hown : s.vm.findClass own = some m.cls) (hts : ∀ w ∈ e_tb, w.before args s = true) (hp : e_Pic D cA B S s H) (hS : va_S (e_A B) s.heap H locs) (hsz : ls.size = nL)
    (hM : Met l y (e_wu y by_ maxL ret) rm (va_Pc As (fun U => e_PU D cA B S U)) (e_Qi D cA B r S') mc ms (e_A B)) (hrc : rm.cells = mc) (hrs : rm.slots = ms)
    (hcode : Cond.code y by_ maxL ret ∈ e_tb) (hlink : Cond.methodLink own index y ∈ e_tb) (hstat : Cond.static y ∈ e_tb) (hini : Cond.initialized y.cls ∈ e_tb)
    (hd : y.cls ≠ "java/lang/invoke/MethodHandle" ∧ y.cls ≠ "java/lang/invoke/VarHandle" ∧ (parseMethodDescriptor y.desc).map (fun d => d.parameters.length) = some n) (hR : rm.frames + 1 ≤ R.frames ∧ 8 + (maxL + 11) + rm.locals ≤ R.locals)
    (hn : As.length = n) (hW : (rest.map fun v => v.category).sum ≤ 8) (hf : cells + mc ≤ R.cells ∧ slots + ms ≤ R.slots) (hdg : decode cc pc = .ok (.invokestatic index, 3)) {st : List Value} (hst : st = As.reverse ++ rest)
    (kk : ∀ (H1 : Heap) (locs1 : List Loc), e_Pic D cA B S' s H1 → va_S (e_A B) s.heap H1 locs1 → W p l e R s m args below meth c H1 locs1 (cells + mc) (slots + ms) Q (F0 m (pc + 3) ls (.int (iI r) :: rest))) : W p l e R s m args below meth c H locs cells slots Q (F0 m pc ls st) := by
  refine va_calli (A0 := e_A B) (A1 := e_A B) (a := As.toArray) (rest := rest) (va_runS (Ts := e_tb) (ws := e_wu y by_ maxL ret) ⟨hx, hb, hml, hown, hts⟩ hM ⟨callB_of (ws' := e_tb) n hts (e_gi hcode) rfl hrc hrs (hts _ hini) (hts _ hlink) hd hR, hts _ hstat⟩ ⟨e_blind, fun U hU hW' => ⟨rfl, e_PU_of hp hU hW'⟩⟩ rfl hn hsz hst (by show 2 * 0 + _ ≤ 8; omega) hdg hf) hS (fun _ _ h => h) (fun _ h => h) (fun r' u t H1 locs1 ht hvm hr hB hz hk hS1 => ?_)
  subst hr
  exact kk H1 locs1 ⟨va_K.moved hvm.symm hB.1, by rw [← ht]; exact hB.2.1, by rw [← ht]; exact hB.2.2.1, hp.2.2.2⟩ hS1
theorem e_callI {y : MethodName} {by_ : ByteArray} {maxL nL mc ms n index ci N : Nat} {ret : Option FieldType} {rm : Room} {own : String} {T : u_T} {As : List Value} {a r : Int}
    (hx : p.tables.exec = Jvm.exec) (hb : c.code = cc) (hml : c.maxLocals = nL) (hown : s.vm.findClass own = some m.cls) (hts : ∀ w ∈ e_tb, w.before args s = true) (hp : e_Pic D cA B S s H) (hS : va_S (e_A B) s.heap H locs) (hsz : ls.size = nL)
    (h0 : 0 ≤ a) (h1 : a.toNat < e_n S) (h2 : e_g S a.toNat = ci) (hc : vwCl[ci]? = some (y.cls, T, N)) (h100 : ci < 100)
    (hM : Met l y (e_wu y by_ maxL ret) rm (va_Pc (e_rv B a :: As) (fun U => e_PU D cA B S U)) (e_Qi D cA B r S') mc ms (e_A B)) (hrc : rm.cells = mc) (hrs : rm.slots = ms)
    (hcode : Cond.code y by_ maxL ret ∈ e_tb) (hlink : Cond.methodLink own index y ∈ e_tb) (hinst : Cond.instanceMethod y ∈ e_tb) (hsel : Cond.selects y.cls y y ∈ e_tb) (hini : Cond.initialized y.cls ∈ e_tb)
    (hd : y.cls ≠ "java/lang/invoke/MethodHandle" ∧ y.cls ≠ "java/lang/invoke/VarHandle" ∧ (parseMethodDescriptor y.desc).map (fun d => d.parameters.length) = some n) (hR : rm.frames + 1 ≤ R.frames ∧ 8 + (maxL + 11) + rm.locals ≤ R.locals)
    (hn : As.length = n) (hW : (rest.map fun v => v.category).sum ≤ 8) (hf : cells + mc ≤ R.cells ∧ slots + ms ≤ R.slots) (hdg : decode cc pc = .ok (.invokevirtual index, 3)) {st : List Value} (hst : st = As.reverse ++ e_rv B a :: rest)
    (kk : ∀ (H1 : Heap) (locs1 : List Loc), e_Pic D cA B S' s H1 → va_S (e_A B) s.heap H1 locs1 → W p l e R s m args below meth c H1 locs1 (cells + mc) (slots + ms) Q (F0 m (pc + 3) ls (.int (iI r) :: rest))) : W p l e R s m args below meth c H locs cells slots Q (F0 m pc ls st) := by
  rw [e_rv_ref h0] at hst hM
  refine va_calli (A0 := e_A B) (A1 := e_A B) (a := (Value.ref (B + a.toNat) :: As).toArray) (rest := rest) (va_runV (Ts := e_tb) (ws := e_wu y by_ maxL ret) (C := y.cls) ⟨hx, hb, hml, hown, hts⟩ hM ⟨callB_of (ws' := e_tb) n hts (e_gi hcode) rfl hrc hrs (hts _ hini) (hts _ hlink) hd hR, hts _ hinst, hts _ hsel⟩ ⟨e_blind, va_recv hp.1 hp.2.1 hc (e_obj h0 h1 h2 h100), fun U hU hW' => ⟨rfl, e_PU_of hp hU hW'⟩⟩ rfl hn hsz hst (by show 2 * 0 + _ ≤ 8; omega) hdg hf) hS (fun _ _ h => h) (fun _ h => h) (fun r' u t H1 locs1 ht hvm hr hB hz hk hS1 => ?_)
  subst hr
  exact kk H1 locs1 ⟨va_K.moved hvm.symm hB.1, by rw [← ht]; exact hB.2.1, by rw [← ht]; exact hB.2.2.1, hp.2.2.2⟩ hS1
theorem e_callV {y : MethodName} {by_ : ByteArray} {maxL nL mc ms n index ci N : Nat} {ret : Option FieldType} {rm : Room} {own : String} {T : u_T} {As : List Value} {a : Int}
    (hx : p.tables.exec = Jvm.exec) (hb : c.code = cc) (hml : c.maxLocals = nL) (hown : s.vm.findClass own = some m.cls) (hts : ∀ w ∈ e_tb, w.before args s = true) (hp : e_Pic D cA B S s H) (hS : va_S (e_A B) s.heap H locs) (hsz : ls.size = nL)
    (h0 : 0 ≤ a) (h1 : a.toNat < e_n S) (h2 : e_g S a.toNat = ci) (hc : vwCl[ci]? = some (y.cls, T, N)) (h100 : ci < 100)
    (hM : Met l y (e_wu y by_ maxL ret) rm (va_Pc (e_rv B a :: As) (fun U => e_PU D cA B S U)) (e_Qv D cA B S') mc ms (e_A B)) (hrc : rm.cells = mc) (hrs : rm.slots = ms)
    (hcode : Cond.code y by_ maxL ret ∈ e_tb) (hlink : Cond.methodLink own index y ∈ e_tb) (hinst : Cond.instanceMethod y ∈ e_tb) (hsel : Cond.selects y.cls y y ∈ e_tb) (hini : Cond.initialized y.cls ∈ e_tb)
    (hd : y.cls ≠ "java/lang/invoke/MethodHandle" ∧ y.cls ≠ "java/lang/invoke/VarHandle" ∧ (parseMethodDescriptor y.desc).map (fun d => d.parameters.length) = some n) (hR : rm.frames + 1 ≤ R.frames ∧ 8 + (maxL + 11) + rm.locals ≤ R.locals)
    (hn : As.length = n) (hW : (rest.map fun v => v.category).sum ≤ 8) (hf : cells + mc ≤ R.cells ∧ slots + ms ≤ R.slots) (hdg : decode cc pc = .ok (.invokevirtual index, 3)) {st : List Value} (hst : st = As.reverse ++ e_rv B a :: rest)
    (kk : ∀ (H1 : Heap) (locs1 : List Loc), e_Pic D cA B S' s H1 → va_S (e_A B) s.heap H1 locs1 → W p l e R s m args below meth c H1 locs1 (cells + mc) (slots + ms) Q (F0 m (pc + 3) ls rest)) : W p l e R s m args below meth c H locs cells slots Q (F0 m pc ls st) := by
  rw [e_rv_ref h0] at hst hM
  refine va_callv (A0 := e_A B) (A1 := e_A B) (a := (Value.ref (B + a.toNat) :: As).toArray) (rest := rest) (va_runV (Ts := e_tb) (ws := e_wu y by_ maxL ret) (C := y.cls) ⟨hx, hb, hml, hown, hts⟩ hM ⟨callB_of (ws' := e_tb) n hts (e_gi hcode) rfl hrc hrs (hts _ hini) (hts _ hlink) hd hR, hts _ hinst, hts _ hsel⟩ ⟨e_blind, va_recv hp.1 hp.2.1 hc (e_obj h0 h1 h2 h100), fun U hU hW' => ⟨rfl, e_PU_of hp hU hW'⟩⟩ rfl hn hsz hst (by show 2 * 0 + _ ≤ 8; omega) hdg hf) hS (fun _ _ h => h) (fun _ h => h) (fun u t H1 locs1 ht hvm hr hB hz hk hS1 => ?_)
  exact kk H1 locs1 ⟨va_K.moved hvm.symm hB.1, by rw [← ht]; exact hB.2.1, by rw [← ht]; exact hB.2.2.1, hp.2.2.2⟩ hS1
end EY
def e_idx : Nat → List Value → List (Nat × Value)
  | _, [] => []
  | k, v :: vs => (k, v) :: e_idx (k + 1) vs
theorem e_args : ∀ (k : Nat) (vs : List Value), (∀ v ∈ vs, v.category = 1) → lv_args k vs = e_idx k vs
  | _, [], _ => rfl
  | k, v :: vs, h => by
    have h1 : v.category = 1 := h v List.mem_cons_self
    show (k, v) :: lv_args (if v.category = 2 then k + 2 else k + 1) vs = (k, v) :: e_idx (k + 1) vs
    rw [h1, if_neg (by decide), e_args (k + 1) vs (fun w hw => h w (List.mem_cons_of_mem _ hw))]
theorem e_sl : ∀ (vs : List Value), (∀ v ∈ vs, v.category = 1) → (lg_sl vs).length = vs.length
  | [], _ => rfl
  | v :: vs, h => by
    have h1 : v.category = 1 := h v List.mem_cons_self
    have h2 := e_sl vs (fun w hw => h w (List.mem_cons_of_mem _ hw))
    unfold lg_sl at h2 ⊢
    rw [List.flatMap_cons, List.length_append, h2, h1, if_neg (by decide)]
    simp; omega
theorem e_idx_mem : ∀ (k : Nat) (vs : List Value) (q : Nat × Value), q ∈ e_idx k vs → q.2 ∈ vs
  | _, [], _, h => by cases h
  | k, v :: vs, q, h => by
    rcases List.mem_cons.mp h with rfl | h
    · exact List.mem_cons_self
    · exact List.mem_cons_of_mem _ (e_idx_mem (k + 1) vs q h)
theorem e_entry {vs : List Value} {n : Nat} (h : vs.length ≤ n) (hc : ∀ v ∈ vs, v.category = 1) : e_lo ((lg_sl vs ++ List.replicate (n - (lg_sl vs).length) Slot.unset).toArray) n (e_idx 0 vs) := by
  refine ⟨?_, fun q hq => hc _ (e_idx_mem 0 vs q hq)⟩
  rw [← e_args 0 vs hc]
  exact lv_entry vs (by rw [e_sl vs hc]; exact h)
/-- what stands for a method from its entry on -/
def e_En (p : Program) (s : State) (m : MethodId) (args : Array Value) (meth : Method) (c : Code) (cc : ByteArray) (own : String) (nL : Nat) (rt : Option FieldType) : Prop :=
  p.tables.exec = Jvm.exec ∧ c.code = cc ∧ c.maxLocals = nL ∧ s.vm.findClass own = some m.cls ∧ (∀ w ∈ e_tb, w.before args s = true) ∧ meth.locks = false ∧ meth.sig.returnType = rt
def gd {α : Type} (ci : Nat) (S : HP) (a : Int) (k : Option α) : Option α := if 0 ≤ a ∧ a.toNat < e_n S ∧ e_g S a.toNat = ci then k else none
theorem gd_some {α : Type} {ci : Nat} {S : HP} {a : Int} {k : Option α} {r : α} (h : gd ci S a k = some r) : (0 ≤ a ∧ a.toNat < e_n S ∧ e_g S a.toNat = ci) ∧ k = some r := by
  unfold gd at h; split at h
  · rename_i hc; exact ⟨hc, h⟩
  · cases h
def zR (x : Int) (S : HP) : Option (Int × HP) := if iW x = 0 ∨ iW x = 1 then some (x, S) else none
theorem zR_some {x r : Int} {S S' : HP} (h : zR x S = some (r, S')) : (iW x = 0 ∨ iW x = 1) ∧ x = r ∧ S = S' := by
  unfold zR at h; split at h
  · rename_i hc; cases h; exact ⟨hc, rfl, rfl⟩
  · cases h
def iD (x y : Int) : Option Int := if iW y = 0 then none else some (iI x / iI y).toInt
def iM (x y : Int) : Option Int := if iW y = 0 then none else some (iI x - iI x / iI y * iI y).toInt
section EZ
variable {p : Program} {l : Launch} {e : Env} {R : Room} {s : State} {m : MethodId} {args : Array Value} {below : List Frame} {meth : Method} {c : Code} {H : Heap} {locs : List Loc} {cells slots : Nat} {Q : State → Prop}
variable {cc : ByteArray} {pc : Nat} {ls : Array Slot} {rest : List Value} {D : va_G} {cA : Nat → ClassId} {B : Nat} {S S' : HP}
theorem e_idiv (hx : p.tables.exec = Jvm.exec) (hb : c.code = cc) {x y z : Int} (h : iD x y = some z) (hdg : decode cc pc = .ok (.idiv, 1)) (kk : W p l e R s m args below meth c H locs cells slots Q (F0 m (pc + 1) ls (.int (iI z) :: rest))) : W p l e R s m args below meth c H locs cells slots Q (F0 m pc ls (.int (iI y) :: .int (iI x) :: rest)) := by
  unfold iD at h; split at h
  · cases h
  · rename_i hc
    cases h
    refine lv_idiv hx hb hdg (fun q => hc ?_) ?_
    · have := (iI_eq y 0).mp q; rwa [iW_0] at this
    · rw [iI_to] at kk; exact kk
theorem e_irem (hx : p.tables.exec = Jvm.exec) (hb : c.code = cc) {x y z : Int} (h : iM x y = some z) (hdg : decode cc pc = .ok (.irem, 1)) (kk : W p l e R s m args below meth c H locs cells slots Q (F0 m (pc + 1) ls (.int (iI z) :: rest))) : W p l e R s m args below meth c H locs cells slots Q (F0 m pc ls (.int (iI y) :: .int (iI x) :: rest)) := by
  unfold iM at h; split at h
  · cases h
  · rename_i hc
    cases h
    refine lv_irem hx hb hdg (fun q => hc ?_) ?_
    · have := (iI_eq y 0).mp q; rwa [iW_0] at this
    · rw [iI_to] at kk; exact kk
theorem e_aload (hx : p.tables.exec = Jvm.exec) (hb : c.code = cc) {i : Nat} {x : Int} (hdg : decode cc pc = .ok (.aload i, 2)) (hl : ls[i]? = some (.val (e_rv B x))) (kk : W p l e R s m args below meth c H locs cells slots Q (F0 m (pc + 2) ls (e_rv B x :: rest))) : W p l e R s m args below meth c H locs cells slots Q (F0 m pc ls rest) := by
  unfold e_rv at hl kk
  split at hl
  · rename_i h; rw [if_pos h] at kk; exact lv_aloadN hx hb hdg hl kk
  · rename_i h; rw [if_neg h] at kk; exact lv_aload hx hb hdg hl kk
end EZ
theorem e_uin {L : List Cond} (ps : List Nat) (h : L = ps.filterMap (fun i => lw_tbl[i]?)) (hg : L.all goodWord = true) : ∀ w ∈ L, w ∈ e_tb := fun w hw => by
  have h1 := List.all_eq_true.mp hg w hw
  rw [h] at hw
  obtain ⟨i, -, hi⟩ := List.mem_filterMap.mp hw
  exact e_mem hi h1
theorem e_int_cat (x : Int32) : (Value.int x).category = 1 := rfl
theorem e_cn : ∀ v ∈ ([] : List Value), v.category = 1 := fun _ h => by cases h
theorem e_cc {v : Value} {vs : List Value} (h : v.category = 1) (hs : ∀ w ∈ vs, w.category = 1) : ∀ w ∈ v :: vs, w.category = 1 := fun w hw => by
  rcases List.mem_cons.mp hw with rfl | hw
  · exact h
  · exact hs w hw
section EB
variable {p : Program} {l : Launch} {e : Env} {R : Room} {s : State} {m : MethodId} {args : Array Value} {below : List Frame} {meth : Method} {c : Code} {H : Heap} {locs : List Loc} {cells slots : Nat} {Q : State → Prop}
variable {cc : ByteArray} {pc : Nat} {ls : Array Slot} {rest : List Value} {D : va_G} {cA : Nat → ClassId} {B : Nat} {S S' : HP}
theorem e_bald (hx : p.tables.exec = Jvm.exec) (hb : c.code = cc) (hp : e_Pic D cA B S s H) {a i x : Int} (hg : gA 103 S a i = some x) (hdg : decode cc pc = .ok (.baload, 1))
    (kk : W p l e R s m args below meth c H locs cells slots Q (F0 m (pc + 1) ls (.int (iI x) :: rest))) : W p l e R s m args below meth c H locs cells slots Q (F0 m pc ls (.int (iI i) :: e_rv B a :: rest)) := by
  obtain ⟨h0, h1, h2, h3, h4, h5⟩ := gA_some hg
  rw [e_rv_ref h0]
  refine va_zald (t0 := 3) (f := fun j => iI (e_v S a.toNat j)) hx hb hp.1 hp.2.1 a.toNat (e_arr h1 h2 (by decide)) rfl (e_vp_in h3 h4) hdg ?_
  show W p l e R s m args below meth c H locs cells slots Q (F0 m (pc + 1) ls (.int (iI (e_v S a.toNat (iW i).toNat)) :: rest))
  rw [h5]; exact kk
theorem e_bast (hx : p.tables.exec = Jvm.exec) (hb : c.code = cc) (hp : e_Pic D cA B S s H) (hS : va_S (e_A B) s.heap H locs) {a i x : Int} (hg : pA 103 S a i x = some S') (hdg : decode cc pc = .ok (.bastore, 1))
    (kk : ∀ (H1 : Heap) (locs1 : List Loc), e_Pic D cA B S' s H1 → va_S (e_A B) s.heap H1 locs1 → W p l e R s m args below meth c H1 locs1 cells slots Q (F0 m (pc + 1) ls rest)) : W p l e R s m args below meth c H locs cells slots Q (F0 m pc ls (.int (iI x) :: .int (iI i) :: e_rv B a :: rest)) := by
  obtain ⟨h0, h1, h2, h3, h4, h5⟩ := pA_some hg
  have h5 : e_set S a.toNat (iW i).toNat (vp_nar .boolean (iI x)).toInt = S' := h5
  rw [e_rv_ref h0]
  have hat := e_arr (B := B) (cA := cA) h1 h2 (by decide : 100 ≤ 103)
  refine W.zast hx hb (hp.2.1 a.toNat _ hat) ((hp.1.2 3 _ rfl).1 (e_l S a.toNat) (fun j => .int (iI (e_v S a.toNat j)))) (fun q => by cases q) (by show ¬ (iI i < 0 ∨ (arrV _ _ _).slots.size ≤ _); rw [arrV_size]; exact e_vp_in h3 h4) rfl rfl hdg fun H1 e1 z oq => ?_
  have hP : va_P D vwCl ((e_ws B cA S).set a.toNat (B + a.toNat, .inl (cA 103, e_l S a.toNat, .inl (upd (fun j => iI (e_v S a.toNat j)) (iI i).toNatClampNeg (vp_nar .boolean (iI x)))))) H1 := by
    refine hp.2.1.set e_DA hat ?_ oq
    show H1[B + a.toNat]? = some (vp_cell _ _)
    rw [e1, vp_cell_i]
    refine congrArg some ?_
    rw [show e_ae B 103 (e_v S a.toNat) = .inl (fun j => iI (e_v S a.toNat j)) from rfl]
    rw [vp_cell_i, arrV_store]; congr 2; funext q
    by_cases hq : q = (iI i).toNatClampNeg
    · subst hq
      simp [updV, upd, vp_nar]
      try rfl
    · simp [updV, upd, hq]
  have hz : (.inl (cA 103, e_l S a.toNat, .inl (upd (fun j => iI (e_v S a.toNat j)) (iI i).toNatClampNeg (vp_nar .boolean (iI x)))) : va_E) = e_ce B cA (e_set S a.toNat (iW i).toNat (vp_nar .boolean (iI x)).toInt) a.toNat := by
    rw [e_ce_arr (show e_g (e_set S a.toNat (iW i).toNat (vp_nar .boolean (iI x)).toInt) a.toNat = 103 from h2) (by decide)]
    show (.inl (cA 103, e_l S a.toNat, .inl _) : va_E) = .inl (cA 103, e_l S a.toNat, .inl (fun j => iI (up2 (e_v S) a.toNat (iW i).toNat (vp_nar .boolean (iI x)).toInt a.toNat j)))
    refine congrArg (fun f => (.inl (cA 103, e_l S a.toNat, .inl f) : va_E)) (funext fun q => ?_)
    rw [up2_eq, iI_clamp]
    by_cases hq : q = (iW i).toNat <;> simp [upd, hq, iI_to]
  rw [e_ws_put h1 hz, h5] at hP
  have hn' : e_n S' = e_n S := by rw [← h5]; rfl
  exact kk H1 _ ⟨hp.1, hP, by rw [z, hn']; exact hp.2.2.1, hp.2.2.2⟩ (hS.put z oq (Nat.le_add_right B a.toNat))
theorem e_cast (hx : p.tables.exec = Jvm.exec) (hb : c.code = cc) (hp : e_Pic D cA B S s H) (hS : va_S (e_A B) s.heap H locs) {a i x : Int} (hg : pA 100 S a i x = some S') (hdg : decode cc pc = .ok (.castore, 1))
    (kk : ∀ (H1 : Heap) (locs1 : List Loc), e_Pic D cA B S' s H1 → va_S (e_A B) s.heap H1 locs1 → W p l e R s m args below meth c H1 locs1 cells slots Q (F0 m (pc + 1) ls rest)) : W p l e R s m args below meth c H locs cells slots Q (F0 m pc ls (.int (iI x) :: .int (iI i) :: e_rv B a :: rest)) := by
  obtain ⟨h0, h1, h2, h3, h4, h5⟩ := pA_some hg
  have h5 : e_set S a.toNat (iW i).toNat (vp_nar .char (iI x)).toInt = S' := h5
  rw [e_rv_ref h0]
  have hat := e_arr (B := B) (cA := cA) h1 h2 (by decide : 100 ≤ 100)
  refine W.cast hx hb (hp.2.1 a.toNat _ hat) ((hp.1.2 0 _ rfl).1 (e_l S a.toNat) (fun j => .int (iI (e_v S a.toNat j)))) (fun q => by cases q) (by show ¬ (iI i < 0 ∨ (arrV _ _ _).slots.size ≤ _); rw [arrV_size]; exact e_vp_in h3 h4) rfl rfl hdg fun H1 e1 z oq => ?_
  have hP : va_P D vwCl ((e_ws B cA S).set a.toNat (B + a.toNat, .inl (cA 100, e_l S a.toNat, .inl (upd (fun j => iI (e_v S a.toNat j)) (iI i).toNatClampNeg (vp_nar .char (iI x)))))) H1 := by
    refine hp.2.1.set e_DA hat ?_ oq
    show H1[B + a.toNat]? = some (vp_cell _ _)
    rw [e1, vp_cell_i]
    refine congrArg some ?_
    rw [show e_ae B 100 (e_v S a.toNat) = .inl (fun j => iI (e_v S a.toNat j)) from rfl]
    rw [vp_cell_i, arrV_store]; congr 2; funext q
    by_cases hq : q = (iI i).toNatClampNeg
    · subst hq
      simp [updV, upd, vp_nar]
      try rfl
    · simp [updV, upd, hq]
  have hz : (.inl (cA 100, e_l S a.toNat, .inl (upd (fun j => iI (e_v S a.toNat j)) (iI i).toNatClampNeg (vp_nar .char (iI x)))) : va_E) = e_ce B cA (e_set S a.toNat (iW i).toNat (vp_nar .char (iI x)).toInt) a.toNat := by
    rw [e_ce_arr (show e_g (e_set S a.toNat (iW i).toNat (vp_nar .char (iI x)).toInt) a.toNat = 100 from h2) (by decide)]
    show (.inl (cA 100, e_l S a.toNat, .inl _) : va_E) = .inl (cA 100, e_l S a.toNat, .inl (fun j => iI (up2 (e_v S) a.toNat (iW i).toNat (vp_nar .char (iI x)).toInt a.toNat j)))
    refine congrArg (fun f => (.inl (cA 100, e_l S a.toNat, .inl f) : va_E)) (funext fun q => ?_)
    rw [up2_eq, iI_clamp]
    by_cases hq : q = (iW i).toNat <;> simp [upd, hq, iI_to]
  rw [e_ws_put h1 hz, h5] at hP
  have hn' : e_n S' = e_n S := by rw [← h5]; rfl
  exact kk H1 _ ⟨hp.1, hP, by rw [z, hn']; exact hp.2.2.1, hp.2.2.2⟩ (hS.put z oq (Nat.le_add_right B a.toNat))
end EB
theorem e_off_s {a o k d z : Int} {r : List (Int × Int)} (h : ¬ a = k) (hr : Op.lookupswitch.offset r d k = z) : Op.lookupswitch.offset ((a, o) :: r) d k = z := by
  show (if a = k then o else Op.lookupswitch.offset r d k) = z
  rw [if_neg h]; exact hr
theorem e_off_h {a o k d : Int} {r : List (Int × Int)} (h : a = k) : Op.lookupswitch.offset ((a, o) :: r) d k = o := if_pos h
def zC (x : Int) (S : HP) : Option (Int × HP) := if 0 ≤ iW x ∧ iW x ≤ 65535 then some (x, S) else none
theorem zC_some {x r : Int} {S S' : HP} (h : zC x S = some (r, S')) : (0 ≤ iW x ∧ iW x ≤ 65535) ∧ x = r ∧ S = S' := by
  unfold zC at h; split at h
  · rename_i hc; cases h; exact ⟨hc, rfl, rfl⟩
  · cases h
