/-! arrays of objects -/
section EA
variable {p : Program} {l : Launch} {e : Env} {R : Room} {s : State} {m : MethodId} {args : Array Value} {below : List Frame} {meth : Method} {c : Code} {H : Heap} {locs : List Loc} {cells slots : Nat} {Q : State → Prop}
variable {cc : ByteArray} {pc : Nat} {ls : Array Slot} {rest : List Value} {D : va_G} {cA : Nat → ClassId} {B : Nat} {S S' : HP}
theorem e_anew {t t0 : Nat} {x : Int} {own C : String} {index : Nat} (hx : p.tables.exec = Jvm.exec) (hb : c.code = cc) (hts : ∀ w ∈ e_tb, w.before args s = true) (hown : s.vm.findClass own = some m.cls) (hcl : Cond.classLink own index C ∈ e_tb) (hov : Cond.arrayOver (.object C) ∈ e_nt) (hp : e_Pic D cA B S s H) (hS : va_S (e_A B) s.heap H locs) (hg : nA t S x = some S') (ht : 100 ≤ t) (ht0 : (e_tys cA)[t0]? = some (cA t, .object C))
    (hcell : ∀ cA0 n, vp_cell cA0 (n, e_ae B t (fun _ => if t < 104 then 0 else -1)) = arrV cA0 n (fun _ => .null)) (hcells : cells + 1 ≤ R.cells) (hslots : slots + (iW x).toNat ≤ R.slots) (hdg : decode cc pc = .ok (.anewarray index, 3))
    (kk : ∀ (H1 : Heap), e_Pic D cA B S' s H1 → va_S (e_A B) s.heap H1 locs → W p l e R s m args below meth c H1 locs (cells + 1) (slots + (iW x).toNat) Q (F0 m (pc + 3) ls (e_rv B (e_n S : Int) :: rest))) : W p l e R s m args below meth c H locs cells slots Q (F0 m pc ls (.int (iI x) :: rest)) := by
  unfold nA at hg; split at hg
  · rename_i hc
    cases hg
    refine W.anew hx hb hown (hts _ hcl) (e_ao (Vm.Alike.refl _) (hp.2.2.2 _ hov)) rfl hdg rfl (fun q => ?_) ?_ hcells (by rw [iI_clamp]; exact hslots) fun c1 kA comp f1 f2 f3 f4 => ?_
    · have := Int32.lt_iff_toInt_lt.mp q
      rw [Int32.toInt_zero] at this
      have h2 : (iI x).toInt = iW x := rfl
      omega
    · rw [iI_clamp]; omega
    · have hr : e_rv B (e_n S : Int) = .ref H.size := by rw [e_rv_ref (by omega), hp.2.2.1]; rfl
      rw [hr] at kk
      have hcA : c1 = cA t := by
        obtain ⟨_, _, _, _, _, hf⟩ := (hp.1.2 t0 _ ht0).2
        exact Option.some.inj (f1.symm.trans hf)
      rw [iI_clamp, arrV_new]
      have z1 : (H.push (arrV c1 (iW x).toNat (fun _ => Value.null))).size = H.size + 1 := by simp
      have o1 : ∀ q, q < H.size → (H.push (arrV c1 (iW x).toNat (fun _ => Value.null)))[q]? = H[q]? := fun q hq => by
        rw [Array.getElem?_push, if_neg (Nat.ne_of_lt hq)]
      refine kk _ (e_pic_push hp z1 o1 ?_) (e_S_push hp hS z1 o1)
      rw [e_ce_arr (show e_g (e_push S t (iW x).toNat (iW x).toNat (fun _ => if t < 104 then 0 else -1)) (e_n S) = t from if_pos rfl) ht]
      show (H.push (arrV c1 (iW x).toNat (fun _ => Value.null)))[B + e_n S]? = some (vp_cell (cA t) (e_l (e_push S t (iW x).toNat (iW x).toNat (fun _ => if t < 104 then 0 else -1)) (e_n S), e_ae B t (e_v (e_push S t (iW x).toNat (iW x).toNat (fun _ => if t < 104 then 0 else -1)) (e_n S))))
      have hv : e_v (e_push S t (iW x).toNat (iW x).toNat (fun _ => if t < 104 then (0 : Int) else -1)) (e_n S) = (fun _ => if t < 104 then (0 : Int) else -1) := funext fun j => if_pos rfl
      have hl : e_l (e_push S t (iW x).toNat (iW x).toNat (fun _ => if t < 104 then (0 : Int) else -1)) (e_n S) = (iW x).toNat := if_pos rfl
      rw [hv, hl, hcell, ← hp.2.2.1, ← hcA]
      simp
  · cases hg
end EA
