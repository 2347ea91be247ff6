/-! static calls that answer nothing -/
section EV
variable {p : Program} {l : Launch} {e : Env} {R : Room} {s : State} {m : MethodId} {args : Array Value} {below : List Frame} {meth : Method} {c : Code} {H : Heap} {locs : List Loc} {cells slots : Nat} {Q : State → Prop}
variable {cc : ByteArray} {pc : Nat} {ls : Array Slot} {rest : List Value} {D : va_G} {cA : Nat → ClassId} {B : Nat} {S S' : HP}
theorem e_callSV {y : MethodName} {by_ : ByteArray} {maxL nL mc ms n index : Nat} {ret : Option FieldType} {rm : Room} {own : String} {As : List Value}
    (hx : p.tables.exec = Jvm.exec) (hb : c.code = cc) (hml : c.maxLocals = nL) (hown : s.vm.findClass own = some m.cls) (hts : ∀ w ∈ e_tb, w.before args s = true) (hp : e_Pic D cA B S s H) (hS : va_S (e_A B) s.heap H locs) (hsz : ls.size = nL)
    (hM : Met l y (e_wu y by_ maxL ret) rm (va_Pc As (fun U => e_PU D cA B S U)) (e_Qv D cA B S') mc ms (e_A B)) (hrc : rm.cells = mc) (hrs : rm.slots = ms)
    (hcode : Cond.code y by_ maxL ret ∈ e_tb) (hlink : Cond.methodLink own index y ∈ e_tb) (hstat : Cond.static y ∈ e_tb) (hini : Cond.initialized y.cls ∈ e_tb)
    (hd : y.cls ≠ "java/lang/invoke/MethodHandle" ∧ y.cls ≠ "java/lang/invoke/VarHandle" ∧ (parseMethodDescriptor y.desc).map (fun d => d.parameters.length) = some n) (hR : rm.frames + 1 ≤ R.frames ∧ 8 + (maxL + 11) + rm.locals ≤ R.locals)
    (hn : As.length = n) (hW : (rest.map fun v => v.category).sum ≤ 8) (hf : cells + mc ≤ R.cells ∧ slots + ms ≤ R.slots) (hdg : decode cc pc = .ok (.invokestatic index, 3)) {st : List Value} (hst : st = As.reverse ++ rest)
    (kk : ∀ (H1 : Heap) (locs1 : List Loc), e_Pic D cA B S' s H1 → va_S (e_A B) s.heap H1 locs1 → W p l e R s m args below meth c H1 locs1 (cells + mc) (slots + ms) Q (F0 m (pc + 3) ls rest)) : W p l e R s m args below meth c H locs cells slots Q (F0 m pc ls st) := by
  refine va_callv (A0 := e_A B) (A1 := e_A B) (a := As.toArray) (rest := rest) (va_runS (Ts := e_tb) (ws := e_wu y by_ maxL ret) ⟨hx, hb, hml, hown, hts⟩ hM ⟨callB_of (ws' := e_tb) n hts (e_gi hcode) rfl hrc hrs (hts _ hini) (hts _ hlink) hd hR, hts _ hstat⟩ ⟨e_blind, fun U hU hW' => ⟨rfl, e_PU_of hp hU hW'⟩⟩ rfl hn hsz hst (by show 2 * 0 + _ ≤ 8; omega) hdg hf) hS (fun _ _ h => h) (fun _ h => h) (fun u t H1 locs1 ht hvm hr hB hz hk hS1 => ?_)
  exact kk H1 locs1 ⟨va_K.moved hvm.symm hB.1, by rw [← ht]; exact hB.2.1, by rw [← ht]; exact hB.2.2.1, hp.2.2.2⟩ hS1
end EV
