/-! THE WORLD: 59 cells at fixed places; whole numbers alone change (Mm: cell, slot); references are fixed by 'shp' -/
abbrev Mm : Type := Nat → Nat → Int32
abbrev En : Type := Launch × va_G × ClassId × ClassId × (Nat → Nat) × (Nat → Nat)
abbrev eL (E : En) : Launch := E.1
abbrev eD (E : En) : va_G := E.2.1
abbrev eI (E : En) : ClassId := E.2.2.1
abbrev eS (E : En) : ClassId := E.2.2.2.1
abbrev eA (E : En) : Nat → Nat := E.2.2.2.2.1
abbrev eZ (E : En) : Nat → Nat := E.2.2.2.2.2
def empF (e : Nat) : List (Option Nat) := [some (e + 1), some (e + 2), some (e + 3), some (e + 4), some (e + 5), some (e + 6), some (e + 7), some (e + 8), some (e + 9), some (e + 10), some (e + 11), none, none, none, none]
def empS (e : Nat) : List (Nat ⊕ (Nat × List (Option Nat)) ⊕ Nat) := [.inr (.inl (0, empF e)), .inl 12, .inl 12, .inl 12, .inl 12, .inl 12, .inl 12, .inl 12, .inl 8, .inl 8, .inl 3, .inl 10]
/-- what lies in each cell: an int array and its length; an object: its class and where its references go; the array of the four sheets -/
def shp : List (Nat ⊕ (Nat × List (Option Nat)) ⊕ Nat) :=
  [.inr (.inl (3, [some 13, some 25, none, some 37, some 3, some 2, some 1])), .inl 7, .inr (.inr 5), .inr (.inl (2, [some 4, none, none, none, none, none])), .inl 120,
   .inr (.inl (1, [some 9, none, none])), .inr (.inl (1, [some 10, none, none])), .inr (.inl (1, [some 11, none, none])), .inr (.inl (1, [some 12, none, none])), .inl 40, .inl 40, .inl 40, .inl 40]
  ++ (empS 13 ++ (empS 25 ++ (empS 37 ++
  [.inr (.inl (4, [some 50, some 51, some 52, some 53, none, some 54, some 55, none, none, none, none, none, none, some 56, some 57, some 58])), .inl 109, .inl 109, .inl 109, .inl 109, .inl 7, .inl 120, .inl 4, .inl 4, .inl 160])))
def sh (i : Nat) : Nat ⊕ (Nat × List (Option Nat)) ⊕ Nat := shp.getD i (.inl 0)
def flds (a : Nat → Nat) (f : Nat → Int32) : Nat → List (Option Nat) → List Value
  | _, [] => []
  | k, none :: t => .int (f k) :: flds a f (k + 1) t
  | k, some j :: t => .ref (a j) :: flds a f (k + 1) t
def ceW (cI cS : ClassId) (a : Nat → Nat) (f : Nat → Int32) (z : Nat ⊕ (Nat × List (Option Nat)) ⊕ Nat) : va_E := match z with
  | .inl n => .inl (cI, n, .inl f)
  | .inr (.inl o) => .inr (o.1, flds a f 0 o.2)
  | .inr (.inr b) => .inl (cS, 4, .inr (.inr (.inr (.inr (fun k => some (a (b + k)))))))
def ce (E : En) (σ : Mm) (i : Nat) : va_E := ceW (eI E) (eS E) (eA E) (σ i) (sh i)
def wd (E : En) (σ : Mm) : va_W := (List.range 59).map (fun i => (eA E i, ce E σ i))
def up2 (σ : Mm) (i k : Nat) (v : Int32) : Mm := fun j => if j = i then upd (σ i) k v else σ j
theorem up2_o {σ : Mm} {i k j : Nat} {v : Int32} (h : j ≠ i) : up2 σ i k v j = σ j := by simp [up2, h]
theorem up2_s {σ : Mm} {i k : Nat} {v : Int32} : up2 σ i k v i = upd (σ i) k v := by simp [up2]
theorem wd_at (E : En) (σ : Mm) {i : Nat} (h : i < 59) : (wd E σ)[i]? = some (eA E i, ce E σ i) := by simp [wd, h]
theorem wd_len (E : En) (σ : Mm) : (wd E σ).length = 59 := by simp [wd]
theorem flds_get {a : Nat → Nat} {f : Nat → Int32} : ∀ (l : List (Option Nat)) (k0 k : Nat), (flds a f k0 l)[k]? = (l[k]?).map (fun o => match o with | none => Value.int (f (k0 + k)) | some j => Value.ref (a j)) := by
  intro l
  induction l with
  | nil => intro k0 k; simp [flds]
  | cons o t ih =>
    intro k0 k
    cases o with
    | none => cases k with
      | zero => simp [flds]
      | succ k => simp only [flds, List.getElem?_cons_succ, ih, Nat.add_assoc, Nat.add_comm 1 k]
    | some j => cases k with
      | zero => simp [flds]
      | succ k => simp only [flds, List.getElem?_cons_succ, ih, Nat.add_assoc, Nat.add_comm 1 k]
theorem flds_len {a : Nat → Nat} {f : Nat → Int32} : ∀ (l : List (Option Nat)) (k0 : Nat), (flds a f k0 l).length = l.length := by
  intro l
  induction l with
  | nil => intro k0; rfl
  | cons o t ih => intro k0; cases o <;> simp [flds, ih]
theorem flds_ext {a : Nat → Nat} {f g : Nat → Int32} (l : List (Option Nat)) (k0 : Nat) (h : ∀ k, l[k]? = some none → f (k0 + k) = g (k0 + k)) : flds a f k0 l = flds a g k0 l := by
  apply List.ext_getElem?
  intro k
  rw [flds_get, flds_get]
  cases hk : l[k]? with
  | none => rfl
  | some o => cases o with
    | none => simp [h k hk]
    | some j => rfl
theorem flds_set {a : Nat → Nat} {f : Nat → Int32} (l : List (Option Nat)) (k : Nat) (v : Int32) (h : l[k]? = some none) : flds a (upd f k v) 0 l = (flds a f 0 l).set k (.int v) := by
  apply List.ext_getElem?
  intro j
  have hl : k < (flds a f 0 l).length := by rw [flds_len]; exact (List.getElem?_eq_some_iff.mp h).1
  rw [List.getElem?_set, flds_get, flds_get]
  by_cases hj : k = j
  · subst hj
    simp [h, hl, upd]
  · cases hk : l[j]? with
    | none => simp [hj]
    | some o => cases o with
      | none => simp [hj, upd, Ne.symm hj]
      | some q => simp [hj]
theorem ce_o (E : En) {σ σ' : Mm} {i : Nat} (h : σ' i = σ i) : ce E σ' i = ce E σ i := by unfold ce; rw [h]
theorem wd_set (E : En) (σ : Mm) {i k : Nat} {v : Int32} (h : i < 59) {x : va_E} (hx : ce E (up2 σ i k v) i = x) : (wd E σ).set i (eA E i, x) = wd E (up2 σ i k v) := by
  apply List.ext_getElem?
  intro j
  rw [List.getElem?_set]
  by_cases hj : i = j
  · subst hj
    rw [if_pos rfl, if_pos (by rw [wd_len]; exact h), wd_at E _ h, hx]
  · rw [if_neg hj]
    by_cases h9 : j < 59
    · rw [wd_at E σ h9, wd_at E _ h9, ce_o E (up2_o (Ne.symm hj))]
    · simp [wd, h9]
/-- two memories that agree where a cell has slots are one world -/
def okS (i k : Nat) : Prop := match sh i with
  | .inl n => k < n
  | .inr (.inl o) => o.2[k]? = some none
  | .inr (.inr _) => False
def tysE (E : En) : List (ClassId × FieldType) := [(eI E, .int), (eS E, .object RX1)]
def AA (E : En) (sz : Nat) : Nat → Prop := fun q => (∃ i, i < 59 ∧ q = eA E i) ∨ sz ≤ q
def AW (E : En) : Nat → Prop := fun q => ∃ i, i < 59 ∧ q = eA E i
