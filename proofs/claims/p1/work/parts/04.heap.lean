section EC
variable {p : Program} {l : Launch} {e : Env} {R : Room} {s : State} {m : MethodId} {args : Array Value} {below : List Frame} {meth : Method} {c : Code} {H : Heap} {locs : List Loc} {cells slots : Nat} {Q : State → Prop}
variable {cc : ByteArray} {pc : Nat} {ls : Array Slot} {rest : List Value} {D : va_G} {cA : Nat → ClassId} {B : Nat} {S S' : HP}
def iMn (x y : Int) : Int := if iW y < iW x then y else x
def iMx (x y : Int) : Int := if iW x < iW y then y else x
def iAb (x : Int) : Int := if 0 ≤ iW x then x else 0 - x
theorem e_math {fr lo : Nat} (hx : p.tables.exec = Jvm.exec) : True := trivial
theorem e_min (hx : p.tables.exec = Jvm.exec) (hb : c.code = cc) (hml : c.maxLocals = ls.size) {own : String} {index : Nat} (hown : s.vm.findClass own = some m.cls) (hts : ∀ w ∈ e_tb, w.before args s = true) (hlink : Cond.methodLink own index Lib.Math.min.name ∈ e_tb) (hstat : Cond.static Lib.Math.min.name ∈ e_tb) (hini : Cond.initialized "java/lang/Math" ∈ e_tb) (hcode : Cond.code Lib.Math.min.name Lib.Math.min.code 2 (some .int) ∈ e_tb)
    (hframes : 1 ≤ R.frames) (hlocals : (rest.map fun v => v.category).sum + 13 ≤ R.locals) (hc : cells ≤ R.cells) (hs : slots ≤ R.slots) {x y : Int} (hdg : decode cc pc = .ok (.invokestatic index, 3))
    (kk : W p l e R s m args below meth c H locs cells slots Q (F0 m (pc + 3) ls (.int (iI (iMn x y)) :: rest))) : W p l e R s m args below meth c H locs cells slots Q (F0 m pc ls (.int (iI y) :: .int (iI x) :: rest)) := by
  refine va_mmin hx hb hml hown (hts _ hlink) (hts _ hstat) (hts _ hini) (hts _ hcode) hframes hlocals hc hs hdg ?_
  have h : (if iI y < iI x then iI y else iI x) = iI (iMn x y) := by unfold iMn; by_cases q : iW y < iW x <;> simp [iI_lt, q]
  rw [h]; exact kk
theorem e_max (hx : p.tables.exec = Jvm.exec) (hb : c.code = cc) (hml : c.maxLocals = ls.size) {own : String} {index : Nat} (hown : s.vm.findClass own = some m.cls) (hts : ∀ w ∈ e_tb, w.before args s = true) (hlink : Cond.methodLink own index Lib.Math.max.name ∈ e_tb) (hstat : Cond.static Lib.Math.max.name ∈ e_tb) (hini : Cond.initialized "java/lang/Math" ∈ e_tb) (hcode : Cond.code Lib.Math.max.name Lib.Math.max.code 2 (some .int) ∈ e_tb)
    (hframes : 1 ≤ R.frames) (hlocals : (rest.map fun v => v.category).sum + 13 ≤ R.locals) (hc : cells ≤ R.cells) (hs : slots ≤ R.slots) {x y : Int} (hdg : decode cc pc = .ok (.invokestatic index, 3))
    (kk : W p l e R s m args below meth c H locs cells slots Q (F0 m (pc + 3) ls (.int (iI (iMx x y)) :: rest))) : W p l e R s m args below meth c H locs cells slots Q (F0 m pc ls (.int (iI y) :: .int (iI x) :: rest)) := by
  refine va_mmax hx hb hml hown (hts _ hlink) (hts _ hstat) (hts _ hini) (hts _ hcode) hframes hlocals hc hs hdg ?_
  have h : (if iI x < iI y then iI y else iI x) = iI (iMx x y) := by unfold iMx; by_cases q : iW x < iW y <;> simp [iI_lt, q]
  rw [h]; exact kk
theorem e_abs (hx : p.tables.exec = Jvm.exec) (hb : c.code = cc) (hml : c.maxLocals = ls.size) {own : String} {index : Nat} (hown : s.vm.findClass own = some m.cls) (hts : ∀ w ∈ e_tb, w.before args s = true) (hlink : Cond.methodLink own index Lib.Math.abs.name ∈ e_tb) (hstat : Cond.static Lib.Math.abs.name ∈ e_tb) (hini : Cond.initialized "java/lang/Math" ∈ e_tb) (hcode : Cond.code Lib.Math.abs.name Lib.Math.abs.code 1 (some .int) ∈ e_tb)
    (hframes : 1 ≤ R.frames) (hlocals : (rest.map fun v => v.category).sum + 13 ≤ R.locals) (hc : cells ≤ R.cells) (hs : slots ≤ R.slots) {x : Int} (hdg : decode cc pc = .ok (.invokestatic index, 3))
    (kk : W p l e R s m args below meth c H locs cells slots Q (F0 m (pc + 3) ls (.int (iI (iAb x)) :: rest))) : W p l e R s m args below meth c H locs cells slots Q (F0 m pc ls (.int (iI x) :: rest)) := by
  refine va_mabs hx hb hml hown (hts _ hlink) (hts _ hstat) (hts _ hini) (hts _ hcode) hframes hlocals hc hs hdg ?_
  have h : (if 0 ≤ iI x then iI x else 0 - iI x) = iI (iAb x) := by
    have h0 : (0 ≤ iI x) ↔ 0 ≤ iW x := by have := iI_le 0 x; rwa [iW_0] at this
    unfold iAb; by_cases q : 0 ≤ iW x
    · rw [if_pos (h0.mpr q), if_pos q]
    · rw [if_neg (fun z => q (h0.mp z)), if_neg q, ← iI_sub]; rfl
  rw [h]; exact kk
theorem e_null (hx : p.tables.exec = Jvm.exec) (hb : c.code = cc) (hdg : decode cc pc = .ok (.aconst_null, 1)) (kk : W p l e R s m args below meth c H locs cells slots Q (F0 m (pc + 1) ls (e_rv B (-1) :: rest))) : W p l e R s m args below meth c H locs cells slots Q (F0 m pc ls rest) := lv_null hx hb hdg kk
theorem e_ifnull (hx : p.tables.exec = Jvm.exec) (hb : c.code = cc) {x : Int} {off : Int} {tgt : Nat} (hdg : decode cc pc = .ok (.ifnull off, 3)) (ht : (pc : Int) + off = (tgt : Int)) (kt : x < 0 → W p l e R s m args below meth c H locs cells slots Q (F0 m tgt ls rest)) (kf : ¬ x < 0 → W p l e R s m args below meth c H locs cells slots Q (F0 m (pc + 3) ls rest)) : W p l e R s m args below meth c H locs cells slots Q (F0 m pc ls (e_rv B x :: rest)) := by
  unfold e_rv; split
  · rename_i h; exact lv_ifnullN hx hb hdg ht (kt h)
  · rename_i h; exact lv_ifnull hx hb hdg (kf h)
theorem e_ifnonnull (hx : p.tables.exec = Jvm.exec) (hb : c.code = cc) {x : Int} {off : Int} {tgt : Nat} (hdg : decode cc pc = .ok (.ifnonnull off, 3)) (ht : (pc : Int) + off = (tgt : Int)) (kt : ¬ x < 0 → W p l e R s m args below meth c H locs cells slots Q (F0 m tgt ls rest)) (kf : x < 0 → W p l e R s m args below meth c H locs cells slots Q (F0 m (pc + 3) ls rest)) : W p l e R s m args below meth c H locs cells slots Q (F0 m pc ls (e_rv B x :: rest)) := by
  unfold e_rv; split
  · rename_i h; exact lv_ifnonnullN hx hb hdg (kf h)
  · rename_i h; exact lv_ifnonnull hx hb hdg ht (kt h)
theorem e_astore_n (hx : p.tables.exec = Jvm.exec) (hb : c.code = cc) {k : Fin 4} {i nL : Nat} {x : Int} {lv lv' : List (Nat × Value)} (hdg : decode cc pc = .ok (.astore_n k, 1)) (hi : (k : Nat) = i) (h : e_lo ls nL lv) (hn : i < nL) (hl : (i, e_rv B x) :: lv.filter (fun q => !(q.1 == i)) = lv')
    (kk : ∀ ls' : Array Slot, e_lo ls' nL lv' → W p l e R s m args below meth c H locs cells slots Q (F0 m (pc + 1) ls' rest)) : W p l e R s m args below meth c H locs cells slots Q (F0 m pc ls (e_rv B x :: rest)) := by
  have hf : lv.filter (fun q => !(q.1 == i) && !(q.1 + 1 == i && q.2.category == 2)) = lv.filter (fun q => !(q.1 == i)) := List.filter_congr fun q hq => by simp [h.2 q hq]
  have hk : ∀ ls', lv_has ls' nL lv' → e_lo ls' nL lv' := fun ls' h' => ⟨h', fun q hq => by
    rw [← hl] at hq
    rcases List.mem_cons.mp hq with rfl | hq
    · exact e_rv_cat _ _
    · exact h.2 q (List.mem_filter.mp hq).1⟩
  by_cases hx0 : x < 0
  · have e1 : e_rv B x = .null := if_pos hx0
    rw [e1] at hl ⊢
    exact lv_astore_nN (lv' := lv') hx hb hdg hi h.1 hn (by rw [hf]; exact hl) fun ls' h' => kk ls' (hk ls' h')
  · have e1 : e_rv B x = .ref (B + x.toNat) := if_neg hx0
    rw [e1] at hl ⊢
    exact lv_astore_n (lv' := lv') hx hb hdg hi h.1 hn (by rw [hf]; exact hl) fun ls' h' => kk ls' (hk ls' h')
theorem e_astore (hx : p.tables.exec = Jvm.exec) (hb : c.code = cc) {i nL : Nat} {x : Int} {lv lv' : List (Nat × Value)} (hdg : decode cc pc = .ok (.astore i, 2)) (h : e_lo ls nL lv) (hn : i < nL) (hl : (i, e_rv B x) :: lv.filter (fun q => !(q.1 == i)) = lv')
    (kk : ∀ ls' : Array Slot, e_lo ls' nL lv' → W p l e R s m args below meth c H locs cells slots Q (F0 m (pc + 2) ls' rest)) : W p l e R s m args below meth c H locs cells slots Q (F0 m pc ls (e_rv B x :: rest)) := by
  have hf : lv.filter (fun q => !(q.1 == i) && !(q.1 + 1 == i && q.2.category == 2)) = lv.filter (fun q => !(q.1 == i)) := List.filter_congr fun q hq => by simp [h.2 q hq]
  have hk : ∀ ls', lv_has ls' nL lv' → e_lo ls' nL lv' := fun ls' h' => ⟨h', fun q hq => by
    rw [← hl] at hq
    rcases List.mem_cons.mp hq with rfl | hq
    · exact e_rv_cat _ _
    · exact h.2 q (List.mem_filter.mp hq).1⟩
  by_cases hx0 : x < 0
  · have e1 : e_rv B x = .null := if_pos hx0
    rw [e1] at hl ⊢
    exact lv_astoreN (lv' := lv') hx hb hdg h.1 hn (by rw [hf]; exact hl) fun ls' h' => kk ls' (hk ls' h')
  · have e1 : e_rv B x = .ref (B + x.toNat) := if_neg hx0
    rw [e1] at hl ⊢
    exact lv_astore (lv' := lv') hx hb hdg h.1 hn (by rw [hf]; exact hl) fun ls' h' => kk ls' (hk ls' h')
def lA (t : Nat) (S : HP) (a : Int) : Option Int := if 0 ≤ a ∧ a.toNat < e_n S ∧ e_g S a.toNat = t then some (e_l S a.toNat : Int) else none
theorem e_alen {t t0 : Nat} {ty : FieldType} (hx : p.tables.exec = Jvm.exec) (hb : c.code = cc) (hp : e_Pic D cA B S s H) {a x : Int} (hg : lA t S a = some x) (ht : 100 ≤ t) (hty : (e_tys cA)[t0]? = some (cA t, ty)) (hdg : decode cc pc = .ok (.arraylength, 1))
    (kk : W p l e R s m args below meth c H locs cells slots Q (F0 m (pc + 1) ls (.int (iI x) :: rest))) : W p l e R s m args below meth c H locs cells slots Q (F0 m pc ls (e_rv B a :: rest)) := by
  unfold lA at hg; split at hg
  · rename_i hc
    cases hg
    rw [e_rv_ref hc.1]
    exact va_alen hx hb hp.1 hp.2.1 a.toNat t0 (e_arr hc.2.1 hc.2.2 ht) hty rfl hdg kk
  · cases hg
theorem e_aald {t t0 : Nat} {C : String} (hx : p.tables.exec = Jvm.exec) (hb : c.code = cc) (hp : e_Pic D cA B S s H) {a i x : Int} (hg : gA t S a i = some x) (ht : 104 ≤ t) (hty : (e_tys cA)[t0]? = some (cA t, .object C)) (hdg : decode cc pc = .ok (.aaload, 1))
    (kk : W p l e R s m args below meth c H locs cells slots Q (F0 m (pc + 1) ls (e_rv B x :: rest))) : W p l e R s m args below meth c H locs cells slots Q (F0 m pc ls (.int (iI i) :: e_rv B a :: rest)) := by
  obtain ⟨h0, h1, h2, h3, h4, h5⟩ := gA_some hg
  rw [e_rv_ref h0]
  have hat := e_arr (B := B) (cA := cA) h1 h2 (by omega : 100 ≤ t)
  have hae : e_ae B t (e_v S a.toNat) = .inr (.inr (.inr (.inr fun j => if e_v S a.toNat j < 0 then none else some (B + (e_v S a.toNat j).toNat)))) := by
    unfold e_ae; rw [if_neg (by omega), if_neg (by omega)]
  rw [hae] at hat
  refine va_aldq hx hb hp.1 hp.2.1 a.toNat t0 hat hty (e_vp_in h3 h4) hdg ?_
  have he : va_rf ((fun j => if e_v S a.toNat j < 0 then none else some (B + (e_v S a.toNat j).toNat)) (iI i).toNatClampNeg) = e_rv B x := by
    show va_rf (if e_v S a.toNat (iW i).toNat < 0 then none else some (B + (e_v S a.toNat (iW i).toNat).toNat)) = e_rv B x
    rw [h5]; unfold e_rv; split <;> rfl
  rw [he]; exact kk
abbrev e_ro (B : Nat) (x : Int) : Option Nat := if x < 0 then none else some (B + x.toNat)
theorem e_ro_rf (B : Nat) (x : Int) : va_rf (e_ro B x) = e_rv B x := by unfold e_ro e_rv; split <;> rfl
abbrev e_Qr (D : va_G) (cA : Nat → ClassId) (B : Nat) (r : Int) (S : HP) : Array Value → State → Outcome → State → Prop := va_Qq (S := Unit) (fun r' _ => r' = e_ro B r) (fun _ t => e_PU D cA B S t) (e_A B)
theorem e_aret (hx : p.tables.exec = Jvm.exec) (hb : c.code = cc) {C : String} (hr : meth.sig.returnType = some (.object C)) (hlocks : meth.locks = false) (hp : e_Pic D cA B S s H) (hS : va_S (e_A B) s.heap H locs) {x : Int} (hdg : decode cc pc = .ok (.areturn, 1)) : W p l e R s m args below meth c H locs cells slots (MQ below (e_Qr D cA B x S) args s cells slots (e_A B)) (F0 m pc ls [e_rv B x]) :=
  W.aret hx hb hr (Or.inl ⟨_, rfl⟩) (by unfold e_rv; split; exact Or.inl rfl; exact Or.inr ⟨_, rfl⟩) (fun t ht hW => ⟨⟨e_ro B x, (), by rw [e_ro_rf], rfl, e_PU_of hp ht hW⟩, hS.F ht⟩) hS.2.2 hdg hlocks
theorem e_cells {c' s' : Nat} {g : JFrame} (h1 : cells = c') (h2 : slots = s') (k : W p l e R s m args below meth c H locs c' s' Q g) : W p l e R s m args below meth c H locs cells slots Q g := by subst h1; subst h2; exact k
theorem pF_n {ci k : Nat} {a x : Int} (h : pF ci k S a x = some S') : e_n S' = e_n S ∧ e_s S' = e_s S := by obtain ⟨-, -, -, rfl⟩ := pF_some h; exact ⟨rfl, rfl⟩
theorem pZ_n {ci k : Nat} {a x : Int} (h : pZ ci k S a x = some S') : e_n S' = e_n S ∧ e_s S' = e_s S := by obtain ⟨-, -, -, -, rfl⟩ := pZ_some h; exact ⟨rfl, rfl⟩
theorem pA_n {t : Nat} {a i x : Int} (h : pA t S a i x = some S') : e_n S' = e_n S ∧ e_s S' = e_s S := by obtain ⟨-, -, -, -, -, rfl⟩ := pA_some h; exact ⟨rfl, rfl⟩

theorem e_callSR {y : MethodName} {by_ : ByteArray} {maxL nL mc ms n index : Nat} {ret : Option FieldType} {rm : Room} {own : String} {As : List Value} {r : Int}
    (hx : p.tables.exec = Jvm.exec) (hb : c.code = cc) (hml : c.maxLocals = nL) (hown : s.vm.findClass own = some m.cls) (hts : ∀ w ∈ e_tb, w.before args s = true) (hp : e_Pic D cA B S s H) (hS : va_S (e_A B) s.heap H locs) (hsz : ls.size = nL)
    (hM : Met l y (e_wu y by_ maxL ret) rm (va_Pc (As) (fun U => e_PU D cA B S U)) (e_Qr D cA B r S') mc ms (e_A B)) (hrc : rm.cells = mc) (hrs : rm.slots = ms)
    (hcode : Cond.code y by_ maxL ret ∈ e_tb) (hlink : Cond.methodLink own index y ∈ e_tb) (hstat : Cond.static y ∈ e_tb) (hini : Cond.initialized y.cls ∈ e_tb)
    (hd : y.cls ≠ "java/lang/invoke/MethodHandle" ∧ y.cls ≠ "java/lang/invoke/VarHandle" ∧ (parseMethodDescriptor y.desc).map (fun d => d.parameters.length) = some n) (hR : rm.frames + 1 ≤ R.frames ∧ 8 + (maxL + 11) + rm.locals ≤ R.locals)
    (hn : As.length = n) (hW : (rest.map fun v => v.category).sum ≤ 8) (hf : cells + mc ≤ R.cells ∧ slots + ms ≤ R.slots) (hdg : decode cc pc = .ok (.invokestatic index, 3)) {st : List Value} (hst : st = As.reverse ++ rest)
    (kk : ∀ (H1 : Heap) (locs1 : List Loc), e_Pic D cA B S' s H1 → va_S (e_A B) s.heap H1 locs1 → W p l e R s m args below meth c H1 locs1 (cells + mc) (slots + ms) Q (F0 m (pc + 3) ls (e_rv B r :: rest))) : W p l e R s m args below meth c H locs cells slots Q (F0 m pc ls st) := by
  refine va_callq (A0 := e_A B) (A1 := e_A B) (a := As.toArray) (rest := rest) (va_runS (Ts := e_tb) (ws := e_wu y by_ maxL ret) ⟨hx, hb, hml, hown, hts⟩ hM ⟨callB_of (ws' := e_tb) n hts (e_gi hcode) rfl hrc hrs (hts _ hini) (hts _ hlink) hd hR, hts _ hstat⟩ ⟨e_blind, fun U hU hW' => ⟨rfl, e_PU_of hp hU hW'⟩⟩ rfl hn hsz hst (by show 2 * 0 + _ ≤ 8; omega) hdg hf) hS (fun _ _ h => h) (fun _ h => h) (fun r' u t H1 locs1 ht hvm hr hB hz hk hS1 => ?_)
  subst hr
  rw [e_ro_rf]
  exact kk H1 locs1 ⟨va_K.moved hvm.symm hB.1, by rw [← ht]; exact hB.2.1, by rw [← ht]; exact hB.2.2.1, hp.2.2.2⟩ hS1
theorem e_callR {y : MethodName} {by_ : ByteArray} {maxL nL mc ms n index : Nat} {ret : Option FieldType} {rm : Room} {own : String} {As : List Value} {ci N : Nat} {T : u_T} {a : Int} {r : Int}
    (hx : p.tables.exec = Jvm.exec) (hb : c.code = cc) (hml : c.maxLocals = nL) (hown : s.vm.findClass own = some m.cls) (hts : ∀ w ∈ e_tb, w.before args s = true) (hp : e_Pic D cA B S s H) (hS : va_S (e_A B) s.heap H locs) (hsz : ls.size = nL)
    (h0 : 0 ≤ a) (h1 : a.toNat < e_n S) (h2 : e_g S a.toNat = ci) (hc : vwCl[ci]? = some (y.cls, T, N)) (h100 : ci < 100)
    (hM : Met l y (e_wu y by_ maxL ret) rm (va_Pc (e_rv B a :: As) (fun U => e_PU D cA B S U)) (e_Qr D cA B r S') mc ms (e_A B)) (hrc : rm.cells = mc) (hrs : rm.slots = ms)
    (hcode : Cond.code y by_ maxL ret ∈ e_tb) (hlink : Cond.methodLink own index y ∈ e_tb) (hinst : Cond.instanceMethod y ∈ e_tb) (hsel : Cond.selects y.cls y y ∈ e_tb) (hini : Cond.initialized y.cls ∈ e_tb)
    (hd : y.cls ≠ "java/lang/invoke/MethodHandle" ∧ y.cls ≠ "java/lang/invoke/VarHandle" ∧ (parseMethodDescriptor y.desc).map (fun d => d.parameters.length) = some n) (hR : rm.frames + 1 ≤ R.frames ∧ 8 + (maxL + 11) + rm.locals ≤ R.locals)
    (hn : As.length = n) (hW : (rest.map fun v => v.category).sum ≤ 8) (hf : cells + mc ≤ R.cells ∧ slots + ms ≤ R.slots) (hdg : decode cc pc = .ok (.invokevirtual index, 3)) {st : List Value} (hst : st = As.reverse ++ e_rv B a :: rest)
    (kk : ∀ (H1 : Heap) (locs1 : List Loc), e_Pic D cA B S' s H1 → va_S (e_A B) s.heap H1 locs1 → W p l e R s m args below meth c H1 locs1 (cells + mc) (slots + ms) Q (F0 m (pc + 3) ls (e_rv B r :: rest))) : W p l e R s m args below meth c H locs cells slots Q (F0 m pc ls st) := by
  rw [e_rv_ref h0] at hst hM
  refine va_callq (A0 := e_A B) (A1 := e_A B) (a := (Value.ref (B + a.toNat) :: As).toArray) (rest := rest) (va_runV (Ts := e_tb) (ws := e_wu y by_ maxL ret) (C := y.cls) ⟨hx, hb, hml, hown, hts⟩ hM ⟨callB_of (ws' := e_tb) n hts (e_gi hcode) rfl hrc hrs (hts _ hini) (hts _ hlink) hd hR, hts _ hinst, hts _ hsel⟩ ⟨e_blind, va_recv hp.1 hp.2.1 hc (e_obj h0 h1 h2 h100), fun U hU hW' => ⟨rfl, e_PU_of hp hU hW'⟩⟩ rfl hn hsz hst (by show 2 * 0 + _ ≤ 8; omega) hdg hf) hS (fun _ _ h => h) (fun _ h => h) (fun r' u t H1 locs1 ht hvm hr hB hz hk hS1 => ?_)
  subst hr
  rw [e_ro_rf]
  exact kk H1 locs1 ⟨va_K.moved hvm.symm hB.1, by rw [← ht]; exact hB.2.1, by rw [← ht]; exact hB.2.2.1, hp.2.2.2⟩ hS1
theorem e_callSIN {y : MethodName} {by_ : ByteArray} {maxL nL mc ms n index : Nat} {ret : Option FieldType} {rm : Room} {own : String} {host : String} {As : List Value} {r : Int}
    (hx : p.tables.exec = Jvm.exec) (hb : c.code = cc) (hml : c.maxLocals = nL) (hown : s.vm.findClass own = some m.cls) (hts : ∀ w ∈ e_tb, w.before args s = true) (hp : e_Pic D cA B S s H) (hS : va_S (e_A B) s.heap H locs) (hsz : ls.size = nL)
    (hM : Met l y (e_wu y by_ maxL ret) rm (va_Pc (As) (fun U => e_PU D cA B S U)) (e_Qi D cA B r S') mc ms (e_A B)) (hrc : rm.cells = mc) (hrs : rm.slots = ms)
    (hcode : Cond.code y by_ maxL ret ∈ e_tb) (hlink : Cond.methodLinkNest own index y host ∈ e_nt) (hstat : Cond.static y ∈ e_tb) (hini : Cond.initialized y.cls ∈ e_tb)
    (hd : y.cls ≠ "java/lang/invoke/MethodHandle" ∧ y.cls ≠ "java/lang/invoke/VarHandle" ∧ (parseMethodDescriptor y.desc).map (fun d => d.parameters.length) = some n) (hR : rm.frames + 1 ≤ R.frames ∧ 8 + (maxL + 11) + rm.locals ≤ R.locals)
    (hn : As.length = n) (hW : (rest.map fun v => v.category).sum ≤ 8) (hf : cells + mc ≤ R.cells ∧ slots + ms ≤ R.slots) (hdg : decode cc pc = .ok (.invokestatic index, 3)) {st : List Value} (hst : st = As.reverse ++ rest)
    (kk : ∀ (H1 : Heap) (locs1 : List Loc), e_Pic D cA B S' s H1 → va_S (e_A B) s.heap H1 locs1 → W p l e R s m args below meth c H1 locs1 (cells + mc) (slots + ms) Q (F0 m (pc + 3) ls (.int (iI r) :: rest))) : W p l e R s m args below meth c H locs cells slots Q (F0 m pc ls st) := by
  refine va_calli (A0 := e_A B) (A1 := e_A B) (a := As.toArray) (rest := rest) (va_runSN (Ts := e_tb) (ws := e_wu y by_ maxL ret) ⟨hx, hb, hml, hown, hts⟩ hM ⟨va_cnB (ws' := e_tb) n hts (e_gi hcode) rfl hrc hrs (hp.2.2.2 _ hlink) (hts _ hini) hd hR, hts _ hstat, trivial⟩ ⟨e_blind, fun U hU hW' => ⟨rfl, e_PU_of hp hU hW'⟩⟩ rfl hn hsz hst (by show 2 * 0 + _ ≤ 8; omega) hdg hf) hS (fun _ _ h => h) (fun _ h => h) (fun r' u t H1 locs1 ht hvm hr hB hz hk hS1 => ?_)
  subst hr
  exact kk H1 locs1 ⟨va_K.moved hvm.symm hB.1, by rw [← ht]; exact hB.2.1, by rw [← ht]; exact hB.2.2.1, hp.2.2.2⟩ hS1
end EC
