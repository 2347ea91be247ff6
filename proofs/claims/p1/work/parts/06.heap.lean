/-! copies, references in rows, constructors, longs -/
def e_ty (t : Nat) : FieldType := if t = 100 then .char else if t = 101 then .int else .boolean
abbrev cPok (t : Nat) (S : HP) (a i b j n : Int) : Prop := 0 ≤ a ∧ a.toNat < e_n S ∧ e_g S a.toNat = t ∧ 0 ≤ b ∧ b.toNat < e_n S ∧ e_g S b.toNat = t ∧ 0 ≤ iW i ∧ 0 ≤ iW j ∧ 0 ≤ iW n ∧ (iW i).toNat + (iW n).toNat ≤ e_l S a.toNat ∧ (iW j).toNat + (iW n).toNat ≤ e_l S b.toNat ∧ ((List.range (iW n).toNat).all fun k => fits (e_ty t) (.int (iI (e_v S a.toNat ((iW i).toNat + k))))) = true
def e_cpy (S : HP) (a i b j n : Nat) : HP := (S.1, S.2.1, S.2.2.1, S.2.2.2.1, fun c k => if c = b ∧ j ≤ k ∧ k < j + n then e_v S a (i + (k - j)) else e_v S c k)
def cP (t : Nat) (S : HP) (a i b j n : Int) : Option HP := if cPok t S a i b j n then some (e_cpy S a.toNat (iW i).toNat b.toNat (iW j).toNat (iW n).toNat) else none
theorem cP_some {t : Nat} {S S' : HP} {a i b j n : Int} (h : cP t S a i b j n = some S') : cPok t S a i b j n ∧ e_cpy S a.toNat (iW i).toNat b.toNat (iW j).toNat (iW n).toNat = S' := by
  unfold cP at h; split at h
  · rename_i hc; exact ⟨hc, Option.some.inj h⟩
  · cases h
theorem cP_n {t : Nat} {S S' : HP} {a i b j n : Int} (h : cP t S a i b j n = some S') : e_n S' = e_n S ∧ e_s S' = e_s S := by obtain ⟨-, rfl⟩ := cP_some h; exact ⟨rfl, rfl⟩
section EE
variable {p : Program} {l : Launch} {e : Env} {R : Room} {s : State} {m : MethodId} {args : Array Value} {below : List Frame} {meth : Method} {c : Code} {H : Heap} {locs : List Loc} {cells slots : Nat} {Q : State → Prop}
variable {cc : ByteArray} {pc : Nat} {ls : Array Slot} {rest : List Value} {D : va_G} {cA : Nat → ClassId} {B : Nat} {S S' : HP}
theorem e_size {g : JFrame} (k : H.size ≤ s.heap.size + cells → W p l e R s m args below meth c H locs cells slots Q g) : W p l e R s m args below meth c H locs cells slots Q g := fun T hT X => k (by rw [← hT]; exact X.same.2.2.1) T hT X
theorem e_cpy_ws {a i b j n t : Nat} (hb : b < e_n S) (hg : e_g S b = t) (ht : 100 ≤ t) (h2 : t ≠ 102) (h4 : t < 104) :
    (e_ws B cA S).set b (B + b, .inl (cA t, e_l S b, .inl (va_cpy (fun k => iI (e_v S a k)) (fun k => iI (e_v S b k)) i j n))) = e_ws B cA (e_cpy S a i b j n) := by
  apply List.ext_getElem?
  intro q
  by_cases hq : q = b
  · subst hq
    rw [List.getElem?_set_self (by simp [e_ws]; exact hb), e_at (show q < e_n (e_cpy S a i q j n) from hb), e_ce_arr (show e_g (e_cpy S a i q j n) q = t from hg) ht]
    refine congrArg some (congrArg (fun z => (B + q, z)) ?_)
    show (.inl (cA t, e_l S q, .inl _) : va_E) = .inl (cA t, e_l S q, e_ae B t (e_v (e_cpy S a i q j n) q))
    refine congrArg (fun z => (.inl (cA t, e_l S q, z) : va_E)) ?_
    unfold e_ae
    rw [if_neg h2, if_pos h4]
    refine congrArg Sum.inl (funext fun k => ?_)
    show (if j ≤ k ∧ k < j + n then iI (e_v S a (i + (k - j))) else iI (e_v S q k)) = iI (if q = q ∧ j ≤ k ∧ k < j + n then e_v S a (i + (k - j)) else e_v S q k)
    by_cases hk : j ≤ k ∧ k < j + n <;> simp [hk]
  · rw [List.getElem?_set_ne (Ne.symm hq)]
    by_cases hl : q < e_n S
    · rw [e_at hl, e_at (show q < e_n (e_cpy S a i b j n) from hl)]
      have h1 : e_v (e_cpy S a i b j n) q = e_v S q := funext fun k => if_neg (fun z => hq z.1)
      refine congrArg some (congrArg (fun z => (B + q, z)) ?_)
      show e_ce B cA S q = (if e_g S q < 100 then (.inr (e_g S q, e_fl B (e_g S q) (e_v (e_cpy S a i b j n) q)) : va_E) else .inl (cA (e_g S q), e_l S q, e_ae B (e_g S q) (e_v (e_cpy S a i b j n) q)))
      rw [h1]; rfl
    · have h1 : (e_ws B cA S)[q]? = none := by simp [e_ws]; omega
      have h2 : (e_ws B cA (e_cpy S a i b j n))[q]? = none := by
        have : e_n (e_cpy S a i b j n) = e_n S := rfl
        simp [e_ws, this]; omega
      rw [h1, h2]
theorem e_i0 {x : Int} (h : 0 ≤ iW x) : ¬ iI x < 0 := fun q => by
  have := Int32.lt_iff_toInt_lt.mp q
  rw [Int32.toInt_zero] at this
  have h2 : (iI x).toInt = iW x := rfl
  omega
theorem e_copy {t t0 : Nat} {own : String} {index : Nat} (hx : p.tables.exec = Jvm.exec) (hb : c.code = cc) (hml : c.maxLocals = ls.size) (hown : s.vm.findClass own = some m.cls) (hts : ∀ w ∈ e_tb, w.before args s = true) (hlink : Cond.methodLink own index arraycopyName ∈ e_tb) (hnat : Cond.native arraycopyName ∈ e_tb) (hstat : Cond.static arraycopyName ∈ e_tb) (hini : Cond.initialized "java/lang/System" ∈ e_tb)
    (hp : e_Pic D cA B S s H) (hS : va_S (e_A B) s.heap H locs) {a i b j n : Int} (hg : cP t S a i b j n = some S') (ht : 100 ≤ t) (h2 : t ≠ 102) (h4 : t < 104) (hty : (e_tys cA)[t0]? = some (cA t, e_ty t)) (hprim : refKind (e_ty t) = false) (hsz : s.heap.size + cells ≤ B + e_n S)
    (hframes : 1 ≤ R.frames) (hlocals : (rest.map fun v => v.category).sum + (nativeFrameWords "java/lang/System" "arraycopy" 5 + 11) ≤ R.locals) (hdg : decode cc pc = .ok (.invokestatic index, 3))
    (kk : ∀ (H1 : Heap) (locs1 : List Loc), e_Pic D cA B S' s H1 → va_S (e_A B) s.heap H1 locs1 → W p l e R s m args below meth c H1 locs1 cells slots Q (F0 m (pc + 3) ls rest)) : W p l e R s m args below meth c H locs cells slots Q (F0 m pc ls (.int (iI n) :: .int (iI j) :: e_rv B b :: .int (iI i) :: e_rv B a :: rest)) := by
  obtain ⟨⟨a0, a1, a2, b0, b1, b2, i0, j0, n0, l0, l1, hf⟩, rfl⟩ := cP_some hg
  rw [e_rv_ref a0, e_rv_ref b0]
  have ha := e_arr (B := B) (cA := cA) a1 a2 ht
  have hbb := e_arr (B := B) (cA := cA) b1 b2 ht
  have hae : ∀ f, e_ae B t f = .inl (fun k => iI (f k)) := fun f => by unfold e_ae; rw [if_neg h2, if_pos h4]
  rw [hae] at ha hbb
  refine va_copyi hx hb hml hown (hts _ hlink) (hts _ hnat) (hts _ hstat) (hts _ hini) hp.1 hp.2.1 e_DA hS a.toNat b.toNat t0 t0 ha hbb hty hty hprim (e_i0 i0) (e_i0 j0) (e_i0 n0) l0 l1 (fun k hk => List.all_eq_true.mp hf k (List.mem_range.mpr hk)) hframes hlocals hdg fun H1 locs1 hP hD hS1 => e_size fun hle => ?_
  have hP : va_P D vwCl (e_ws B cA (e_cpy S a.toNat (iW i).toNat b.toNat (iW j).toNat (iW n).toNat)) H1 := by
    rw [← e_cpy_ws b1 b2 ht h2 h4]; exact hP
  have hlo : B + e_n S ≤ H1.size := by
    have hn : e_n S - 1 < e_n (e_cpy S a.toNat (iW i).toNat b.toNat (iW j).toNat (iW n).toNat) := by
      show e_n S - 1 < e_n S; omega
    have := (hP _ _ (e_at hn)).lt
    dsimp only at this
    omega
  exact kk H1 locs1 ⟨hp.1, hP, Nat.le_antisymm (Nat.le_trans hle hsz) hlo, hp.2.2.2⟩ hS1
def pR (t ci : Nat) (S : HP) (a i x : Int) : Option HP := if (0 ≤ x ∧ x.toNat < e_n S ∧ e_g S x.toNat = ci) ∧ 0 ≤ a ∧ a.toNat < e_n S ∧ e_g S a.toNat = t ∧ 0 ≤ iW i ∧ (iW i).toNat < e_l S a.toNat then some (e_set S a.toNat (iW i).toNat x) else none
theorem pR_n {t ci : Nat} {a i x : Int} (h : pR t ci S a i x = some S') : e_n S' = e_n S ∧ e_s S' = e_s S := by
  unfold pR at h; split at h
  · cases h; exact ⟨rfl, rfl⟩
  · cases h
theorem e_aast {t t0 ci : Nat} {r : vw_C} (hx : p.tables.exec = Jvm.exec) (hb : c.code = cc) (hp : e_Pic D cA B S s H) (hS : va_S (e_A B) s.heap H locs) {a i x : Int} (hg : pR t ci S a i x = some S') (ht : 104 ≤ t) (hty : (e_tys cA)[t0]? = some (cA t, .object r.1)) (hc : vwCl[ci]? = some r) (h100 : ci < 100) (hsz : s.heap.size + cells ≤ B + e_n S) (hdg : decode cc pc = .ok (.aastore, 1))
    (kk : ∀ (H1 : Heap) (locs1 : List Loc), e_Pic D cA B S' s H1 → va_S (e_A B) s.heap H1 locs1 → W p l e R s m args below meth c H1 locs1 cells slots Q (F0 m (pc + 1) ls rest)) : W p l e R s m args below meth c H locs cells slots Q (F0 m pc ls (e_rv B x :: .int (iI i) :: e_rv B a :: rest)) := by
  unfold pR at hg; split at hg
  · rename_i hcond
    obtain ⟨⟨x0, x1, x2⟩, a0, a1, a2, i0, i1⟩ := hcond
    cases hg
    rw [e_rv_ref x0, e_rv_ref a0]
    have hat := e_arr (B := B) (cA := cA) a1 a2 (by omega : 100 ≤ t)
    have hae : ∀ f : Nat → Int, e_ae B t f = .inr (.inr (.inr (.inr fun j => if f j < 0 then none else some (B + (f j).toNat)))) := fun f => by
      unfold e_ae; rw [if_neg (by omega), if_neg (by omega)]
    rw [hae] at hat
    refine va_astq hx hb hp.1 hp.2.1 e_DA hS a.toNat t0 x.toNat ci hat hty (e_obj x0 x1 x2 h100) hc (e_vp_in i0 i1) hdg fun H1 locs1 hP hD hS1 => e_size fun hle => ?_
    have hz : (.inl (cA t, e_l S a.toNat, .inr (.inr (.inr (.inr (va_up (fun j => if e_v S a.toNat j < 0 then none else some (B + (e_v S a.toNat j).toNat)) (iI i).toNatClampNeg (some (B + x.toNat))))))) : va_E) = e_ce B cA (e_set S a.toNat (iW i).toNat x) a.toNat := by
      rw [e_ce_arr (show e_g (e_set S a.toNat (iW i).toNat x) a.toNat = t from a2) (by omega), hae]
      show (.inl (cA t, e_l S a.toNat, .inr (.inr (.inr (.inr _)))) : va_E) = .inl (cA t, e_l S a.toNat, .inr (.inr (.inr (.inr (fun j => if up2 (e_v S) a.toNat (iW i).toNat x a.toNat j < 0 then none else some (B + (up2 (e_v S) a.toNat (iW i).toNat x a.toNat j).toNat))))))
      refine congrArg (fun f => (.inl (cA t, e_l S a.toNat, .inr (.inr (.inr (.inr f)))) : va_E)) (funext fun q => ?_)
      rw [up2_eq, iI_clamp]
      by_cases hq : q = (iW i).toNat
      · simp [va_up, hq]; omega
      · simp [va_up, hq]
    rw [e_ws_put a1 hz] at hP
    have hlo : B + e_n S ≤ H1.size := by
      have hn : e_n S - 1 < e_n (e_set S a.toNat (iW i).toNat x) := by show e_n S - 1 < e_n S; omega
      have := (hP _ _ (e_at hn)).lt
      dsimp only at this
      omega
    exact kk H1 locs1 ⟨hp.1, hP, Nat.le_antisymm (Nat.le_trans hle hsz) hlo, hp.2.2.2⟩ hS1
  · cases hg
end EE
