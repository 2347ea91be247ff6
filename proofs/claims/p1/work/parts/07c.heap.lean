/-! constructors: their calls, their final fields -/
section EN
variable {p : Program} {l : Launch} {e : Env} {R : Room} {s : State} {m : MethodId} {args : Array Value} {below : List Frame} {meth : Method} {c : Code} {H : Heap} {locs : List Loc} {cells slots : Nat} {Q : State → Prop}
variable {cc : ByteArray} {pc : Nat} {ls : Array Slot} {rest : List Value} {D : va_G} {cA : Nat → ClassId} {B : Nat} {S S' : HP}
theorem e_callN {y : MethodName} {by_ : ByteArray} {maxL nL mc ms n index : Nat} {rm : Room} {own : String} {As : List Value} {a : Int}
    (hx : p.tables.exec = Jvm.exec) (hb : c.code = cc) (hml : c.maxLocals = nL) (hown : s.vm.findClass own = some m.cls) (hts : ∀ w ∈ e_tb, w.before args s = true) (hp : e_Pic D cA B S s H) (hS : va_S (e_A B) s.heap H locs) (hsz : ls.size = nL)
    (h0 : 0 ≤ a)
    (hM : Met l y (e_wu y by_ maxL none) rm (va_Pc (e_rv B a :: As) (fun U => e_PU D cA B S U)) (e_Qv D cA B S') mc ms (e_A B)) (hrc : rm.cells = mc) (hrs : rm.slots = ms)
    (hcode : Cond.code y by_ maxL none ∈ e_tb) (hlink : Cond.methodLink own index y ∈ e_tb) (hinst : Cond.instanceMethod y ∈ e_tb) (hin0 : y.name = "<init>") (hini : Cond.initialized y.cls ∈ e_tb)
    (hd : y.cls ≠ "java/lang/invoke/MethodHandle" ∧ y.cls ≠ "java/lang/invoke/VarHandle" ∧ (parseMethodDescriptor y.desc).map (fun d => d.parameters.length) = some n) (hR : rm.frames + 1 ≤ R.frames ∧ 8 + (maxL + 11) + rm.locals ≤ R.locals)
    (hn : As.length = n) (hW : (rest.map fun v => v.category).sum ≤ 8) (hf : cells + mc ≤ R.cells ∧ slots + ms ≤ R.slots) (hdg : decode cc pc = .ok (.invokespecial index, 3)) {st : List Value} (hst : st = As.reverse ++ e_rv B a :: rest)
    (kk : ∀ (H1 : Heap) (locs1 : List Loc), e_Pic D cA B S' s H1 → va_S (e_A B) s.heap H1 locs1 → W p l e R s m args below meth c H1 locs1 (cells + mc) (slots + ms) Q (F0 m (pc + 3) ls rest)) : W p l e R s m args below meth c H locs cells slots Q (F0 m pc ls st) := by
  rw [e_rv_ref h0] at hst hM
  refine va_callv (A0 := e_A B) (A1 := e_A B) (a := (Value.ref (B + a.toNat) :: As).toArray) (rest := rest) (va_runI (Ts := e_tb) (ws := e_wu y by_ maxL none) ⟨hx, hb, hml, hown, hts⟩ hM ⟨callB_of (ws' := e_tb) n hts (e_gi hcode) rfl hrc hrs (hts _ hini) (hts _ hlink) hd hR, hin0, hts _ hinst⟩ ⟨e_blind, fun U hU hW' => ⟨rfl, e_PU_of hp hU hW'⟩⟩ rfl hn hsz hst (by show 2 * 0 + _ ≤ 8; omega) hdg hf) hS (fun _ _ h => h) (fun _ h => h) (fun u t H1 locs1 ht hvm hr hB hz hk hS1 => ?_)
  exact kk H1 locs1 ⟨va_K.moved hvm.symm hB.1, by rw [← ht]; exact hB.2.1, by rw [← ht]; exact hB.2.2.1, hp.2.2.2⟩ hS1
end EN
section EF
variable {p : Program} {l : Launch} {e : Env} {R : Room} {s : State} {m : MethodId} {args : Array Value} {below : List Frame} {meth : Method} {c : Code} {H : Heap} {locs : List Loc} {cells slots : Nat} {Q : State → Prop}
variable {cc : ByteArray} {pc : Nat} {ls : Array Slot} {rest : List Value} {D : va_G} {cA : Nat → ClassId} {B : Nat} {S S' : HP}
theorem e_finV (hx : p.tables.exec = Jvm.exec) (hb : c.code = cc) {own C : String} {T : u_T} {N index ci k kd : Nat} {Ts : List Cond} (hts : ∀ w ∈ Ts, w.before args s = true) (hin : ∀ w ∈ u_ws C T N, w ∈ Ts) (ty0 : Nat → FieldType) (hty : ∀ k, k < N → parseFieldDescriptor (T k).2.2.1 = some (ty0 k)) (hnm : ∀ a, a < N → ∀ b, b < N → a ≠ b → (T a).2.1 ≠ (T b).2.1) (hown : s.vm.findClass own = some m.cls)
    (hp : e_Pic D cA B S s H) (hS : va_S (e_A B) s.heap H locs) {a x : Int} (h0 : 0 ≤ a) (h1 : a.toNat < e_n S) (h2 : e_g S a.toNat = ci) (h3 : e_set S a.toNat k x = S') (hc : vwCl[ci]? = some (C, T, N)) (h100 : ci < 100) (hk : k < N) (hkd : (e_fk ci)[k]? = some kd) (hlink : (Cond.fieldLink own index C (T k).2.1 (T k).2.2.1).before args s = true) (hCT : (T k).1 = C) (hfin : (T k).2.2.2 = true) (hin2 : meth.name = "<init>") (hCo : C = own) {ty : FieldType} (hd : parseFieldDescriptor (T k).2.2.1 = some ty) (hn : narrow ty (e_fv B kd x) = e_fv B kd x) (hfit : fits ty (e_fv B kd x) = true) (hdg : decode cc pc = .ok (.putfield index, 3))
    (kk : ∀ (H1 : Heap) (locs1 : List Loc), e_Pic D cA B S' s H1 → va_S (e_A B) s.heap H1 locs1 → W p l e R s m args below meth c H1 locs1 cells slots Q (F0 m (pc + 3) ls rest)) : W p l e R s m args below meth c H locs cells slots Q (F0 m pc ls (e_fv B kd x :: e_rv B a :: rest)) := by
  rw [e_rv_ref h0]
  have hz : (.inr (ci, (e_fl B ci (e_v S a.toNat)).set k (e_fv B kd x)) : va_E) = e_ce B cA (e_set S a.toNat k x) a.toNat := by
    rw [e_ce_obj (show e_g (e_set S a.toNat k x) a.toNat = ci from h2) h100, e_fl_set hkd]
    exact congrArg (fun f => (.inr (ci, e_fl B ci f) : va_E)) up2_eq.symm
  obtain ⟨r, g1, cell, q1, q2, q3, q4⟩ := hp.2.1 a.toNat _ (e_obj h0 h1 h2 h100)
  have hr : r = (C, T, N) := Option.some.inj (g1.symm.trans hc)
  subst hr
  have hKc := hp.1.1 ci _ hc
  obtain ⟨hSl, hfc, kC, hkC, hkind⟩ := id hKc
  obtain ⟨cf, kf, fi, f, hi, hsl⟩ := hSl k hk
  have hlay := hts _ (hin _ (u_in_lay hk))
  unfold u_lay at hlay
  rw [if_pos hfin] at hlay
  have hst := (u_facts hfc hkC (u_lays hts hin hk) hi).1
  have hcf : m.cls = cf := by
    obtain ⟨_, _, c', _, _, _, -, -, hf', -, -, -, hown2, -⟩ := Cond.laysFinal_spec hlay
    have e1 : c' = cf := by have := hi.symm.trans hf'; simp at this; exact this.1.symm
    rw [hCT, hCo] at hown2
    rw [← e1]; exact Option.some.inj (hown.symm.trans hown2)
  have h6 := u_fits hfc hkC hkind (Or.inr hlay) hi hd hn hfit
  refine W.putFinK hx hb hown hlink (by rw [← hCT]; exact hi) hst hcf hin2 (by rw [q2]; exact h6) q1 q3 (by rw [hsl]; exact k2_hasslot (q4 k hk)) rfl rfl hdg fun H' e1 e2 e3 => ?_
  rw [hsl] at e1 ⊢
  have hP : va_P D vwCl ((e_ws B cA S).set a.toNat (B + a.toNat, .inr (ci, (e_fl B ci (e_v S a.toNat)).set k (e_fv B kd x)))) H' :=
    hp.2.1.set e_DA (e_obj h0 h1 h2 h100) ⟨_, hc, t_OB.to (V := updV (vp_V (e_fl B ci (e_v S a.toNat))) k (e_fv B kd x)) ⟨_, e1, q2, q3, t_set q4 (va_apart (own := own) hts hin ty0 hty hnm hp.1 hc) hk _⟩ (fun j _ => vp_updV_set (by rw [e_fl_len]; exact (List.getElem?_eq_some_iff.mp hkd).1) _ j)⟩ e3
  rw [e_ws_put h1 hz, h3] at hP
  have hn' : e_n S' = e_n S := by rw [← h3]; rfl
  exact kk H' _ ⟨hp.1, hP, by rw [e2, hn']; exact hp.2.2.1, hp.2.2.2⟩ (hS.put e2 e3 (Nat.le_add_right B a.toNat))
theorem e_finI (hx : p.tables.exec = Jvm.exec) (hb : c.code = cc) {own C : String} {T : u_T} {N index ci k : Nat} {Ts : List Cond} (hts : ∀ w ∈ Ts, w.before args s = true) (hin : ∀ w ∈ u_ws C T N, w ∈ Ts) (ty0 : Nat → FieldType) (hty : ∀ k, k < N → parseFieldDescriptor (T k).2.2.1 = some (ty0 k)) (hnm : ∀ a, a < N → ∀ b, b < N → a ≠ b → (T a).2.1 ≠ (T b).2.1) (hown : s.vm.findClass own = some m.cls)
    (hp : e_Pic D cA B S s H) (hS : va_S (e_A B) s.heap H locs) {a x : Int} (hg : pF ci k S a x = some S') (hc : vwCl[ci]? = some (C, T, N)) (h100 : ci < 100) (hk : k < N) (hkd : (e_fk ci)[k]? = some 0) (hlink : (Cond.fieldLink own index C (T k).2.1 (T k).2.2.1).before args s = true) (hCT : (T k).1 = C) (hfin : (T k).2.2.2 = true) (hin2 : meth.name = "<init>") (hCo : C = own) (hd : parseFieldDescriptor (T k).2.2.1 = some .int) (hdg : decode cc pc = .ok (.putfield index, 3))
    (kk : ∀ (H1 : Heap) (locs1 : List Loc), e_Pic D cA B S' s H1 → va_S (e_A B) s.heap H1 locs1 → W p l e R s m args below meth c H1 locs1 cells slots Q (F0 m (pc + 3) ls rest)) : W p l e R s m args below meth c H locs cells slots Q (F0 m pc ls (.int (iI x) :: e_rv B a :: rest)) := by
  obtain ⟨h0, h1, h2, h3⟩ := pF_some hg
  exact e_finV (kd := 0) (ty := .int) hx hb hts hin ty0 hty hnm hown hp hS h0 h1 h2 h3 hc h100 hk hkd hlink hCT hfin hin2 hCo hd rfl rfl hdg kk
theorem e_finZ (hx : p.tables.exec = Jvm.exec) (hb : c.code = cc) {own C : String} {T : u_T} {N index ci k : Nat} {Ts : List Cond} (hts : ∀ w ∈ Ts, w.before args s = true) (hin : ∀ w ∈ u_ws C T N, w ∈ Ts) (ty0 : Nat → FieldType) (hty : ∀ k, k < N → parseFieldDescriptor (T k).2.2.1 = some (ty0 k)) (hnm : ∀ a, a < N → ∀ b, b < N → a ≠ b → (T a).2.1 ≠ (T b).2.1) (hown : s.vm.findClass own = some m.cls)
    (hp : e_Pic D cA B S s H) (hS : va_S (e_A B) s.heap H locs) {a x : Int} (hg : pZ ci k S a x = some S') (hc : vwCl[ci]? = some (C, T, N)) (h100 : ci < 100) (hk : k < N) (hkd : (e_fk ci)[k]? = some 0) (hlink : (Cond.fieldLink own index C (T k).2.1 (T k).2.2.1).before args s = true) (hCT : (T k).1 = C) (hfin : (T k).2.2.2 = true) (hin2 : meth.name = "<init>") (hCo : C = own) (hd : parseFieldDescriptor (T k).2.2.1 = some .boolean) (hdg : decode cc pc = .ok (.putfield index, 3))
    (kk : ∀ (H1 : Heap) (locs1 : List Loc), e_Pic D cA B S' s H1 → va_S (e_A B) s.heap H1 locs1 → W p l e R s m args below meth c H1 locs1 cells slots Q (F0 m (pc + 3) ls rest)) : W p l e R s m args below meth c H locs cells slots Q (F0 m pc ls (.int (iI x) :: e_rv B a :: rest)) := by
  obtain ⟨hz, h0, h1, h2, h3⟩ := pZ_some hg
  have hv : iI x = 0 ∨ iI x = 1 := hz.imp (fun h => (iI_eq x 0).mpr (by rw [iW_0]; exact h)) (fun h => (iI_eq x 1).mpr (by rw [h]; rfl))
  exact e_finV (kd := 0) (ty := .boolean) hx hb hts hin ty0 hty hnm hown hp hS h0 h1 h2 h3 hc h100 hk hkd hlink hCT hfin hin2 hCo hd (by show narrow .boolean (.int (iI x)) = .int (iI x); rcases hv with h | h <;> rw [h] <;> rfl) (by show fits .boolean (.int (iI x)) = true; rcases hv with h | h <;> rw [h] <;> rfl) hdg kk
theorem e_finR (hx : p.tables.exec = Jvm.exec) (hb : c.code = cc) {own C : String} {T : u_T} {N index ci k : Nat} {Ts : List Cond} (hts : ∀ w ∈ Ts, w.before args s = true) (hin : ∀ w ∈ u_ws C T N, w ∈ Ts) (ty0 : Nat → FieldType) (hty : ∀ k, k < N → parseFieldDescriptor (T k).2.2.1 = some (ty0 k)) (hnm : ∀ a, a < N → ∀ b, b < N → a ≠ b → (T a).2.1 ≠ (T b).2.1) (hown : s.vm.findClass own = some m.cls)
    (hp : e_Pic D cA B S s H) (hS : va_S (e_A B) s.heap H locs) {a x : Int} (hg : pF ci k S a x = some S') (hc : vwCl[ci]? = some (C, T, N)) (h100 : ci < 100) (hk : k < N) (hkd : (e_fk ci)[k]? = some 2) (hlink : (Cond.fieldLink own index C (T k).2.1 (T k).2.2.1).before args s = true) (hCT : (T k).1 = C) (hfin : (T k).2.2.2 = true) (hin2 : meth.name = "<init>") (hCo : C = own) {ty : FieldType} (hd : parseFieldDescriptor (T k).2.2.1 = some ty) (hr : (∃ n, ty = .object n) ∨ ∃ n, ty = .array n) (hdg : decode cc pc = .ok (.putfield index, 3))
    (kk : ∀ (H1 : Heap) (locs1 : List Loc), e_Pic D cA B S' s H1 → va_S (e_A B) s.heap H1 locs1 → W p l e R s m args below meth c H1 locs1 cells slots Q (F0 m (pc + 3) ls rest)) : W p l e R s m args below meth c H locs cells slots Q (F0 m pc ls (e_rv B x :: e_rv B a :: rest)) := by
  obtain ⟨h0, h1, h2, h3⟩ := pF_some hg
  exact e_finV (kd := 2) (ty := ty) hx hb hts hin ty0 hty hnm hown hp hS h0 h1 h2 h3 hc h100 hk hkd hlink hCT hfin hin2 hCo hd (by show narrow ty (e_rv B x) = e_rv B x; unfold e_rv; rcases hr with ⟨n, rfl⟩ | ⟨n, rfl⟩ <;> split <;> rfl) (by show fits ty (e_rv B x) = true; unfold e_rv; rcases hr with ⟨n, rfl⟩ | ⟨n, rfl⟩ <;> split <;> rfl) hdg kk
end EF
