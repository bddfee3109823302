/-! plots -/
def plP (K : Mm) (p q : Nat) : Bool := ablP K q && !decide (q = p)
def plA (K : Mm) (p : Nat) : Nat := bsN (plP K p) (nn K)
def plW (K : Mm) (p t s : Nat) : Bool := decide (mos t (rsK K (fun q => s.testBit q) (nI p) (nn K)) 2 p = -1)
def plS (K : Mm) (p s : Nat) : Bool := decide (nI s &&& (bset (nn K) (plP K p) ^^^ (-1)) = 0)
def lpF (K : Mm) (p t sz : Nat) : Int32 := frst (fun s => plS K p s && (decide (popN s 12 = sz) && plW K p t s)) (plA K p + 1) 0
def plF (K : Mm) (p t : Nat) : Nat → Nat → Int32
  | 0, _ => -1
  | f + 1, sz => if lpF K p t sz = -1 then plF K p t f (sz + 1) else lpF K p t sz
def opPlot (A : As) (p n : Int32) : Int32 × As :=
  if (0 ≤ p ∧ p < A.1 0 0) ∧ (1 ≤ n ∧ n ≤ 12) then (if A.1 2 (cl p) = -1 ∨ 999 < A.1 0 1 + n then sta A else if 10 < cnt (plP A.1 (cl p)) (nn A.1) then siz A else if plF A.1 (cl p) (cl n) (cnt (plP A.1 (cl p)) (nn A.1) + 1) 0 = -1 then non A else (plF A.1 (cl p) (cl n) (cnt (plP A.1 (cl p)) (nn A.1) + 1) 0, A)) else bey A
theorem frst_or (P : Nat → Bool) : ∀ (f i : Nat), frst P f i = -1 ∨ ∃ j, i ≤ j ∧ j < i + f ∧ frst P f i = nI j ∧ P j = true := by
  intro f
  induction f with
  | zero => intro i; exact Or.inl rfl
  | succ f ih =>
    intro i
    rw [frst]
    split
    · next h => exact Or.inr ⟨i, Nat.le_refl _, by omega, rfl, h⟩
    · rcases ih (i + 1) with h | ⟨j, h1, h2, h3, h4⟩
      · exact Or.inl h
      · exact Or.inr ⟨j, by omega, by omega, h3, h4⟩
theorem plA_lt (K : Mm) (p : Nat) (h12 : nn K ≤ 12) : plA K p < 4096 := bsN_lt' _ h12
theorem nI_bset {s n : Nat} (h : s < 2 ^ n) : nI s = bset n (fun q => s.testBit q) := by
  rw [bset]
  congr 1
  apply Nat.eq_of_testBit_eq
  intro i
  rw [bsN_bit]
  by_cases hi : i < n
  · simp [hi]
  · have : s.testBit i = false := Nat.testBit_lt_two_pow (Nat.lt_of_lt_of_le h (Nat.pow_le_pow_right (by omega) (by omega)))
    simp [hi, this]
theorem bitC_nI {s : Nat} (h : s < 4096) : bitC (nI s) = nI (popN s 12) := by rw [bitN h, natB_pop h]
theorem popN_le (s : Nat) : ∀ k, popN s k ≤ k := by
  intro k
  induction k with
  | zero => exact Nat.le_refl _
  | succ k ih => rw [popN]; omega
