/-! what is made -/
def e_df (ci k : Nat) : Int := if (e_fk ci).getD k 0 = 2 then -1 else 0
def e_push (S : HP) (t n k : Nat) (f : Nat → Int) : HP := (e_n S + 1, e_s S + k, (fun i => if i = e_n S then t else e_g S i), (fun i => if i = e_n S then n else e_l S i), fun i j => if i = e_n S then f j else e_v S i j)
def nO (ci : Nat) (S : HP) : HP := e_push S ci 0 (e_fk ci).length (e_df ci)
def nA (t : Nat) (S : HP) (x : Int) : Option HP := if 0 ≤ iW x ∧ iW x ≤ 1000000 then some (e_push S t (iW x).toNat (iW x).toNat (fun _ => if t < 104 then 0 else -1)) else none
section ED
variable {p : Program} {l : Launch} {e : Env} {R : Room} {s : State} {m : MethodId} {args : Array Value} {below : List Frame} {meth : Method} {c : Code} {H : Heap} {locs : List Loc} {cells slots : Nat} {Q : State → Prop}
variable {cc : ByteArray} {pc : Nat} {ls : Array Slot} {rest : List Value} {D : va_G} {cA : Nat → ClassId} {B : Nat} {S S' : HP}
theorem e_ws_push {t n k : Nat} {f : Nat → Int} : e_ws B cA (e_push S t n k f) = e_ws B cA S ++ [(B + e_n S, e_ce B cA (e_push S t n k f) (e_n S))] := by
  show (List.range (e_n S + 1)).map _ = _
  rw [List.range_succ, List.map_append]
  have h0 : (List.range (e_n S)).map (fun i => (B + i, e_ce B cA (e_push S t n k f) i)) = e_ws B cA S := List.map_congr_left fun i hi => by
    have hi : i < e_n S := List.mem_range.mp hi
    have hne : i ≠ e_n S := Nat.ne_of_lt hi
    refine congrArg (fun z => (B + i, z)) ?_
    have g1 : e_g (e_push S t n k f) i = e_g S i := if_neg hne
    have g2 : e_l (e_push S t n k f) i = e_l S i := if_neg hne
    have g3 : e_v (e_push S t n k f) i = e_v S i := funext fun j => if_neg hne
    unfold e_ce; rw [g1, g2, g3]
  rw [h0]; rfl
theorem e_pic_push {t n k : Nat} {f : Nat → Int} {H1 : Heap} (hp : e_Pic D cA B S s H) (z1 : H1.size = H.size + 1) (o1 : ∀ q, q < H.size → H1[q]? = H[q]?) (hc : va_at D vwCl (B + e_n S, e_ce B cA (e_push S t n k f) (e_n S)) H1) : e_Pic D cA B (e_push S t n k f) s H1 := by
  refine ⟨hp.1, ?_, by rw [z1, hp.2.2.1]; rfl, hp.2.2.2⟩
  rw [e_ws_push]
  refine (hp.2.1.kept (fun i x hx => o1 x.1 ((hp.2.1 i x hx).lt))).app (fun i x hx => ?_)
  have hz : i < 1 := (List.getElem?_eq_some_iff.mp hx).1
  rw [show i = 0 by omega] at hx
  cases hx
  exact hc
theorem e_S_push {H1 : Heap} (hp : e_Pic D cA B S s H) (hS : va_S (e_A B) s.heap H locs) (z1 : H1.size = H.size + 1) (o1 : ∀ q, q < H.size → H1[q]? = H[q]?) : va_S (e_A B) s.heap H1 locs :=
  ⟨Nat.le_trans hS.1 (by omega), fun x h1 h2 => (o1 x (Nat.lt_of_lt_of_le h1 hS.1)).trans (hS.2.1 x h1 h2), hS.2.2⟩
theorem e_new {ci index N : Nat} {own C : String} {T : u_T} (hx : p.tables.exec = Jvm.exec) (hb : c.code = cc) (hts : ∀ w ∈ e_tb, w.before args s = true) (hin : ∀ w ∈ u_ws C T N, w ∈ e_tb) (ty : Nat → FieldType) (hty : ∀ k, k < N → parseFieldDescriptor (T k).2.2.1 = some (ty k)) (hown : s.vm.findClass own = some m.cls)
    (hcl : Cond.classLink own index C ∈ e_tb) (hinst : Cond.instantiable C N ∈ e_tb) (hini : Cond.initialized C ∈ e_tb) (hp : e_Pic D cA B S s H) (hS : va_S (e_A B) s.heap H locs) (hc : vwCl[ci]? = some (C, T, N)) (h100 : ci < 100) (hN : (e_fk ci).length = N) (hdf : ∀ j, j < N → defaultValue (ty j) = vp_V (e_fl B ci (e_df ci)) j) (hcells : cells + 1 ≤ R.cells) (hslots : slots + N ≤ R.slots) (hdg : decode cc pc = .ok (.new index, 3))
    (kk : ∀ (H1 : Heap), e_Pic D cA B (nO ci S) s H1 → va_S (e_A B) s.heap H1 locs → W p l e R s m args below meth c H1 locs (cells + 1) (slots + N) Q (F0 m (pc + 3) ls (e_rv B (e_n S : Int) :: rest))) : W p l e R s m args below meth c H locs cells slots Q (F0 m pc ls rest) := by
  have hKn := hp.1.1 ci _ hc
  refine W.newcK hx hb hown (hts _ hcl) (hts _ hinst) (hts _ hini) rfl hdg hcells hslots hKn.2.1 rfl fun H1 kC hkC e1 z1 o1 => ?_
  have hr : e_rv B (e_n S : Int) = .ref H.size := by rw [e_rv_ref (by omega), hp.2.2.1]; rfl
  rw [hr] at kk
  refine kk H1 (e_pic_push hp z1 o1 ?_) (e_S_push hp hS z1 o1)
  rw [e_ce_obj (show e_g (e_push S ci 0 (e_fk ci).length (e_df ci)) (e_n S) = ci from if_pos rfl) h100]
  have hv : e_v (e_push S ci 0 (e_fk ci).length (e_df ci)) (e_n S) = e_df ci := funext fun j => if_pos rfl
  rw [hv, ← hp.2.2.1]
  exact ⟨_, hc, (u_born ty hts hin hKn hkC e1 hty).to hdf⟩
theorem e_newa {t t0 : Nat} {x : Int} {atype : ArrayType} {ty : FieldType} (hx : p.tables.exec = Jvm.exec) (hb : c.code = cc) (hts : ∀ w ∈ e_tb, w.before args s = true) (hw : Cond.arrayClass (newarray.typeOf atype) ∈ e_tb) (hty : newarray.typeOf atype = ty) (hp : e_Pic D cA B S s H) (hS : va_S (e_A B) s.heap H locs) (hg : nA t S x = some S') (ht : 100 ≤ t) (ht0 : (e_tys cA)[t0]? = some (cA t, ty)) (hRA : va_RA s (cA t) ty → s.vm.findClass ("[" ++ ty.toString) = some (cA t))
    (hcell : ∀ cA0 n, vp_cell cA0 (n, e_ae B t (fun _ => if t < 104 then 0 else -1)) = arrV cA0 n (fun _ => defaultValue ty)) (hby : componentBytes ty ≤ 8) (hcells : cells + 1 ≤ R.cells) (hslots : slots + (iW x).toNat ≤ R.slots) (hdg : decode cc pc = .ok (.newarray atype, 2))
    (kk : ∀ (H1 : Heap), e_Pic D cA B S' s H1 → va_S (e_A B) s.heap H1 locs → W p l e R s m args below meth c H1 locs (cells + 1) (slots + (iW x).toNat) Q (F0 m (pc + 2) ls (e_rv B (e_n S : Int) :: rest))) : W p l e R s m args below meth c H locs cells slots Q (F0 m pc ls (.int (iI x) :: rest)) := by
  unfold nA at hg; split at hg
  · rename_i hc
    cases hg
    subst hty
    refine va_newaK hx hb (hts _ hw) rfl hdg rfl (fun q => ?_) rfl ?_ hcells hslots rfl fun H1 c1 e1 z1 o1 hAr hNm => ?_
    · have := Int32.lt_iff_toInt_lt.mp q
      rw [Int32.toInt_zero] at this
      have h2 : (iI x).toInt = iW x := rfl
      omega
    · rw [iI_clamp]
      calc (iW x).toNat * componentBytes (newarray.typeOf atype) ≤ 1000000 * 8 := Nat.mul_le_mul (by omega) hby
        _ ≤ 536870912 := by decide
    · have hr : e_rv B (e_n S : Int) = .ref H.size := by rw [e_rv_ref (by omega), hp.2.2.1]; rfl
      rw [hr] at kk
      refine kk H1 (e_pic_push hp z1 o1 ?_) (e_S_push hp hS z1 o1)
      have hcA : c1 = cA t := by
        have h1 := hRA (hp.1.2 t0 _ ht0).2
        rw [h1] at hNm
        exact (Option.some.inj hNm).symm
      rw [e_ce_arr (show e_g (e_push S t (iW x).toNat (iW x).toNat (fun _ => if t < 104 then 0 else -1)) (e_n S) = t from if_pos rfl) ht]
      show H1[B + e_n S]? = some (vp_cell (cA t) (e_l (e_push S t (iW x).toNat (iW x).toNat (fun _ => if t < 104 then 0 else -1)) (e_n S), e_ae B t (e_v (e_push S t (iW x).toNat (iW x).toNat (fun _ => if t < 104 then 0 else -1)) (e_n S))))
      have hv : e_v (e_push S t (iW x).toNat (iW x).toNat (fun _ => if t < 104 then (0 : Int) else -1)) (e_n S) = (fun _ => if t < 104 then (0 : Int) else -1) := funext fun j => if_pos rfl
      have hl : e_l (e_push S t (iW x).toNat (iW x).toNat (fun _ => if t < 104 then (0 : Int) else -1)) (e_n S) = (iW x).toNat := if_pos rfl
      rw [hv, hl, hcell, ← hp.2.2.1, ← hcA]
      exact e1
  · cases hg
theorem e_objInit {own : String} {idx nL : Nat} {a : Int} (hx : p.tables.exec = Jvm.exec) (hb : c.code = cc) (hml : c.maxLocals = nL) (hown : s.vm.findClass own = some m.cls) (hts : ∀ w ∈ e_tb, w.before args s = true) (hlink : Cond.methodLink own idx Lib.objectInit ∈ e_tb) (hinst : Cond.instanceMethod Lib.objectInit ∈ e_tb) (hcode : Cond.code Lib.objectInit ⟨#[0xb1]⟩ 1 none ∈ e_tb) (hsz : ls.size = nL) (h0 : 0 ≤ a) (hdg : decode cc pc = .ok (.invokespecial idx, 3))
    (hframes : 1 ≤ R.frames) (hlocals : (rest.map fun v => v.category).sum + 12 ≤ R.locals) (kk : W p l e R s m args below meth c H locs cells slots Q (F0 m (pc + 3) ls rest)) : W p l e R s m args below meth c H locs cells slots Q (F0 m pc ls (e_rv B a :: rest)) := by
  rw [e_rv_ref h0]
  exact W.objInit hx hb hown (hts _ hlink) (hts _ hinst) (hts _ hcode) rfl (hsz.trans hml.symm) rfl hdg hframes (by show 2 * 0 + _ + 12 ≤ _; omega) kk
theorem e_ldc {own : String} {idx : Nat} {x : Int} (hx : p.tables.exec = Jvm.exec) (hb : c.code = cc) (hown : s.vm.findClass own = some m.cls) (hts : ∀ w ∈ e_tb, w.before args s = true) (hw : Cond.constant own idx (iI x) ∈ e_tb) (hdg : decode cc pc = .ok (.ldc idx, 2)) (kk : W p l e R s m args below meth c H locs cells slots Q (F0 m (pc + 2) ls (.int (iI x) :: rest))) : W p l e R s m args below meth c H locs cells slots Q (F0 m pc ls rest) := lv_ldc hx hb hown (hts _ hw) hdg kk
end ED
