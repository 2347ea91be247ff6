/-! constructors of nest mates -/
section ENN
variable {p : Program} {l : Launch} {e : Env} {R : Room} {s : State} {m : MethodId} {args : Array Value} {below : List Frame} {meth : Method} {c : Code} {H : Heap} {locs : List Loc} {cells slots : Nat} {Q : State → Prop}
variable {cc : ByteArray} {pc : Nat} {ls : Array Slot} {rest : List Value} {D : va_G} {cA : Nat → ClassId} {B : Nat} {S S' : HP}
theorem e_callNN {y : MethodName} {by_ : ByteArray} {maxL nL mc ms n index : Nat} {rm : Room} {own host : String} {As : List Value} {a : Int}
    (hx : p.tables.exec = Jvm.exec) (hb : c.code = cc) (hml : c.maxLocals = nL) (hown : s.vm.findClass own = some m.cls) (hts : ∀ w ∈ e_tb, w.before args s = true) (hp : e_Pic D cA B S s H) (hS : va_S (e_A B) s.heap H locs) (hsz : ls.size = nL)
    (h0 : 0 ≤ a)
    (hM : Met l y (e_wu y by_ maxL none) rm (va_Pc (e_rv B a :: As) (fun U => e_PU D cA B S U)) (e_Qv D cA B S') mc ms (e_A B)) (hrc : rm.cells = mc) (hrs : rm.slots = ms)
    (hcode : Cond.code y by_ maxL none ∈ e_tb) (hlink : Cond.methodLinkNest own index y host ∈ e_nt) (hinst : Cond.instanceMethod y ∈ e_tb) (hin0 : y.name = "<init>") (hini : Cond.initialized y.cls ∈ e_tb)
    (hd : y.cls ≠ "java/lang/invoke/MethodHandle" ∧ y.cls ≠ "java/lang/invoke/VarHandle" ∧ (parseMethodDescriptor y.desc).map (fun d => d.parameters.length) = some n) (hR : rm.frames + 1 ≤ R.frames ∧ 8 + (maxL + 11) + rm.locals ≤ R.locals)
    (hn : As.length = n) (hW : (rest.map fun v => v.category).sum ≤ 8) (hf : cells + mc ≤ R.cells ∧ slots + ms ≤ R.slots) (hdg : decode cc pc = .ok (.invokespecial index, 3)) {st : List Value} (hst : st = As.reverse ++ e_rv B a :: rest)
    (kk : ∀ (H1 : Heap) (locs1 : List Loc), e_Pic D cA B S' s H1 → va_S (e_A B) s.heap H1 locs1 → W p l e R s m args below meth c H1 locs1 (cells + mc) (slots + ms) Q (F0 m (pc + 3) ls rest)) : W p l e R s m args below meth c H locs cells slots Q (F0 m pc ls st) := by
  rw [e_rv_ref h0] at hst hM
  refine va_callv (A0 := e_A B) (A1 := e_A B) (a := (Value.ref (B + a.toNat) :: As).toArray) (rest := rest) (va_runIN (Ts := e_tb) (ws := e_wu y by_ maxL none) ⟨hx, hb, hml, hown, hts⟩ hM ⟨va_cnB (ws' := e_tb) n hts (e_gi hcode) rfl hrc hrs (hp.2.2.2 _ hlink) (hts _ hini) hd hR, hin0, hts _ hinst⟩ ⟨e_blind, fun U hU hW' => ⟨rfl, e_PU_of hp hU hW'⟩⟩ rfl hn hsz hst (by show 2 * 0 + _ ≤ 8; omega) hdg hf) hS (fun _ _ h => h) (fun _ h => h) (fun u t H1 locs1 ht hvm hr hB hz hk hS1 => ?_)
  exact kk H1 locs1 ⟨va_K.moved hvm.symm hB.1, by rw [← ht]; exact hB.2.1, by rw [← ht]; exact hB.2.2.1, hp.2.2.2⟩ hS1
end ENN
