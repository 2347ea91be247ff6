/-! makers: the room is what the numbers say; a remainder that would end below what stands answers nothing -/
def ckI (S : HP) (r : Option (Int × HP)) : Option (Int × HP) := r.bind fun q => if e_n S ≤ e_n q.2 ∧ e_s S ≤ e_s q.2 then some q else none
def ckV (S : HP) (r : Option HP) : Option HP := r.bind fun q => if e_n S ≤ e_n q ∧ e_s S ≤ e_s q then some q else none
theorem ckI_some {S : HP} {r : Option (Int × HP)} {q : Int × HP} (h : ckI S r = some q) : r = some q ∧ e_n S ≤ e_n q.2 ∧ e_s S ≤ e_s q.2 := by
  unfold ckI at h
  obtain ⟨v, h1, h2⟩ := Option.bind_eq_some_iff.mp h
  split at h2
  · rename_i hc; cases h2; exact ⟨h1, hc⟩
  · cases h2
theorem ckV_some {S : HP} {r : Option HP} {q : HP} (h : ckV S r = some q) : r = some q ∧ e_n S ≤ e_n q ∧ e_s S ≤ e_s q := by
  unfold ckV at h
  obtain ⟨v, h1, h2⟩ := Option.bind_eq_some_iff.mp h
  split at h2
  · rename_i hc; cases h2; exact ⟨h1, hc⟩
  · cases h2
def snI (S S' : HP) (r : Option (Int × HP)) : Option (Int × HP) := if e_n S' = e_n S ∧ e_s S' = e_s S then ckI S' r else none
def snV (S S' : HP) (r : Option HP) : Option HP := if e_n S' = e_n S ∧ e_s S' = e_s S then ckV S' r else none
def smI (S S' : HP) (r : Option (Int × HP)) : Option (Int × HP) := if e_n S ≤ e_n S' ∧ e_s S ≤ e_s S' then ckI S' r else none
def smV (S S' : HP) (r : Option HP) : Option HP := if e_n S ≤ e_n S' ∧ e_s S ≤ e_s S' then ckV S' r else none
theorem snI_some {S S' : HP} {r : Option (Int × HP)} {q : Int × HP} (h : snI S S' r = some q) : r = some q ∧ (e_n S' = e_n S ∧ e_s S' = e_s S) ∧ e_n S' ≤ e_n q.2 ∧ e_s S' ≤ e_s q.2 := by
  unfold snI at h; split at h
  · rename_i hc; obtain ⟨h1, h2⟩ := ckI_some h; exact ⟨h1, hc, h2⟩
  · cases h
theorem snV_some {S S' : HP} {r : Option HP} {q : HP} (h : snV S S' r = some q) : r = some q ∧ (e_n S' = e_n S ∧ e_s S' = e_s S) ∧ e_n S' ≤ e_n q ∧ e_s S' ≤ e_s q := by
  unfold snV at h; split at h
  · rename_i hc; obtain ⟨h1, h2⟩ := ckV_some h; exact ⟨h1, hc, h2⟩
  · cases h
theorem smI_some {S S' : HP} {r : Option (Int × HP)} {q : Int × HP} (h : smI S S' r = some q) : r = some q ∧ (e_n S ≤ e_n S' ∧ e_s S ≤ e_s S') ∧ e_n S' ≤ e_n q.2 ∧ e_s S' ≤ e_s q.2 := by
  unfold smI at h; split at h
  · rename_i hc; obtain ⟨h1, h2⟩ := ckI_some h; exact ⟨h1, hc, h2⟩
  · cases h
theorem smV_some {S S' : HP} {r : Option HP} {q : HP} (h : smV S S' r = some q) : r = some q ∧ (e_n S ≤ e_n S' ∧ e_s S ≤ e_s S') ∧ e_n S' ≤ e_n q ∧ e_s S' ≤ e_s q := by
  unfold smV at h; split at h
  · rename_i hc; obtain ⟨h1, h2⟩ := ckV_some h; exact ⟨h1, hc, h2⟩
  · cases h
theorem nO_n (ci : Nat) (S : HP) : e_n (nO ci S) = e_n S + 1 ∧ e_s (nO ci S) = e_s S + (e_fk ci).length := ⟨rfl, rfl⟩
theorem nA_n {t : Nat} {S S' : HP} {x : Int} (h : nA t S x = some S') : e_n S' = e_n S + 1 ∧ e_s S' = e_s S + (iW x).toNat := by
  unfold nA at h; split at h
  · cases h; exact ⟨rfl, rfl⟩
  · cases h
