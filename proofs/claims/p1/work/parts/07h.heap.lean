/-! a wide constant -/
section EW
variable {p : Program} {l : Launch} {e : Env} {R : Room} {s : State} {m : MethodId} {args : Array Value} {below : List Frame} {meth : Method} {c : Code} {H : Heap} {locs : List Loc} {cells slots : Nat} {Q : State → Prop}
variable {cc : ByteArray} {pc : Nat} {ls : Array Slot} {rest : List Value} {D : va_G} {cA : Nat → ClassId} {B : Nat} {S S' : HP}
theorem e_ldcw {own : String} {idx : Nat} {x : Int} (hx : p.tables.exec = Jvm.exec) (hb : c.code = cc) (hown : s.vm.findClass own = some m.cls) (hts : ∀ w ∈ e_tb, w.before args s = true) (hw : Cond.constant own idx (iI x) ∈ e_tb) (hdg : decode cc pc = .ok (.ldc_w idx, 3)) (kk : W p l e R s m args below meth c H locs cells slots Q (F0 m (pc + 3) ls (.int (iI x) :: rest))) : W p l e R s m args below meth c H locs cells slots Q (F0 m pc ls rest) := by
  intro T hT X
  obtain ⟨t, a, b⟩ := kk T hT X
  obtain ⟨k, cf, bs, f1, f2, f3, f4⟩ := Cond.constant_spec hown (hts _ hw)
  obtain ⟨k', g1, g2⟩ := X.warmed.alike.2.2 _ _ f1
  have hd' : decode c.code pc = .ok (.ldc_w idx, 3) := by rw [hb]; exact hdg
  refine ⟨t, ?_, b⟩
  jvm_step X.here [hx, hd', ldc_w.at_int X.here.top g1 (by rw [g2]; exact f2) f3, f4]
  exact a
end EW
