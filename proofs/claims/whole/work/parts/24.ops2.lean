/-! WHAT EACH CALL ANSWERS AND DOES (months, and plain ones) -/
def sd (K : Mm) (p : Nat) : Int32 := if K 2 p = -1 then 8 else K 2 p
def opMonths (A : As) (n : Int32) : Int32 × As :=
  if 1 ≤ n ∧ n ≤ 60 then (if 999 < A.1 0 1 + n then sta A else (mos (cl n) A.1 0 2 - A.1 0 2, (mos (cl n) A.1, A.2))) else bey A
def aheadV (K M : Mm) (w : Int32) : Int32 := if w = 0 then bset (nn M) (inP M (-1)) else if w = 1 then M 0 2 - K 0 2 else if w = 2 then sm (M 5) (fun _ => true) (nn M) else if w = 3 then bset (nn M) (inP M 0) else M 2 (cl (w - 4))
def opAhead (A : As) (n w : Int32) : Int32 × As :=
  if (0 ≤ n ∧ n ≤ 120) ∧ 0 ≤ w ∧ (4 ≤ w → (0 ≤ w - 4 ∧ w - 4 < A.1 0 0)) then (if 999 < A.1 0 1 + n then sta A else (aheadV A.1 (mos (cl n) A.1) w, A)) else bey A
/-- the first number of f ones from i on; -1: none -/
def frst (P : Nat → Bool) : Nat → Nat → Int32
  | 0, _ => -1
  | f + 1, i => if P i = true then nI i else frst P f (i + 1)
theorem frst_at {P : Nat → Bool} {j : Nat} (hj : P j = true) : ∀ (f i : Nat), i ≤ j → j < i + f → (∀ b, i ≤ b → b < j → P b = false) → frst P f i = nI j := by
  intro f
  induction f with
  | zero => intro i h1 h2; omega
  | succ f ih =>
    intro i h1 h2 h3
    rw [frst]
    by_cases h : i = j
    · subst h; rw [if_pos hj]
    · rw [if_neg (by rw [h3 i (Nat.le_refl _) (by omega)]; simp)]
      exact ih (i + 1) (by omega) (by omega) (fun b h4 h5 => h3 b (by omega) h5)
theorem frst_no {P : Nat → Bool} : ∀ (f i : Nat), (∀ b, i ≤ b → b < i + f → P b = false) → frst P f i = -1 := by
  intro f
  induction f with
  | zero => intro i _; rfl
  | succ f ih =>
    intro i h
    rw [frst, if_neg (by rw [h i (Nat.le_refl _) (by omega)]; simp)]
    exact ih (i + 1) (fun b h4 h5 => h b (by omega) (by omega))
def sitV (K : Mm) (p : Nat) : Int32 := frst (fun b => decide (mos b K 2 p = -1)) 120 1
def opSits (A : As) (p : Int32) : Int32 × As :=
  if 0 ≤ p ∧ p < A.1 0 0 then (if A.1 2 (cl p) = -1 ∨ 999 < A.1 0 1 + 120 then sta A else if sitV A.1 (cl p) = -1 then non A else (sitV A.1 (cl p), A)) else bey A
def risV (K : Mm) (p : Nat) : Nat → Int32
  | 0 => sd K p
  | i + 1 => if sd (mos (i + 1) K) p < risV K p i then sd (mos (i + 1) K) p else risV K p i
def opRises (A : As) (p n : Int32) : Int32 × As :=
  if (0 ≤ p ∧ p < A.1 0 0) ∧ (0 ≤ n ∧ n ≤ 120) then (if 999 < A.1 0 1 + n then sta A else if risV A.1 (cl p) (cl n) = 8 then non A else (risV A.1 (cl p) (cl n), A)) else bey A
def opWorth (A : As) (p r n : Int32) : Int32 × As :=
  if (0 ≤ p ∧ p < A.1 0 0) ∧ (0 ≤ r ∧ r ≤ 7) ∧ (1 ≤ n ∧ n ≤ 120) then (if 999 < A.1 0 1 + n then sta A else (mos (cl n) (up2 A.1 2 (cl p) r) 5 (cl p) - A.1 5 (cl p), A)) else bey A
def opSeed (A : As) (v : Int32) : Int32 × As := (A.1 0 3, (up2 A.1 0 3 v, A.2))
def opHold (A : As) (s p : Int32) : Int32 × As :=
  if (0 ≤ s ∧ s ≤ 9) ∧ (p = -1 ∨ (0 ≤ p ∧ p < A.1 0 0)) then (1, (up2 A.1 10 (cl s) p, A.2)) else bey A
def opAs (A : As) (s k : Int32) : Int32 × As :=
  if (0 ≤ s ∧ s ≤ 9) ∧ (0 ≤ k ∧ k ≤ 6) then (if ¬ (0 ≤ A.1 10 (cl s) ∧ A.1 10 (cl s) < A.1 0 0) then mis A else if okd (cl (A.1 1 (cl (A.1 10 (cl s))))) k = true then (A.1 10 (cl s), A) else knd A) else bey A
def opImage (A : As) : Int32 × As := (1, (A.1, A.1, 1, A.2.2.2))
def opBack (A : As) : Int32 × As := if A.2.2.1 = 0 then non A else (A.2.1 0 1, (A.2.1, A.2))
def opTear (A : As) : Int32 × As := (A.2.2.1, (A.1, A.2.1, 0, A.2.2.2))
def opCount (A : As) (w : Int32) : Int32 × As :=
  if w = 0 then (A.1 0 1, A) else if w = 1 then (A.1 0 0, A) else if w = 2 then (nI (cnt (inP A.1 (-1)) (nn A.1)), A) else if w = 3 then (A.1 0 2, A) else if w = 4 then (sm (A.1 5) (fun _ => true) (nn A.1), A) else if w = 5 then (nI (cnt (fun q => !decide (A.1 6 q = -1)) (nn A.1)), A) else if w = 6 then (A.2.2.2.2.1, A) else if w = 7 then (A.1 0 3, A) else bey A
def sumN (F : Nat → Int32) : Nat → Int32
  | 0 => 0
  | k + 1 => sumN F k + F k
def opStatus (A : As) (w : Int32) : Int32 × As :=
  if -1 ≤ w ∧ w ≤ 6 then (if 0 ≤ w then (A.2.2.2.1 (cl w), A) else (sumN A.2.2.2.1 7, A)) else bey A
def sfP (K : Mm) (p : Nat) : Bool := decide (¬ K 2 p = -1) && !decide (0 < nI (cnt (fun t => blP K p t && mwP K p t) (nn K)) ∧ nI (cnt (blP K p) (nn K)) ≤ nI (cnt (fun t => blP K p t && mwP K p t) (nn K)) * K 9 1)
def opSafe (A : As) : Int32 × As := (bset (nn A.1) (sfP A.1), A)
def opWipe (A : As) : Int32 × As := (A.2.2.2.2.1, (A.1, A.2.1, A.2.2.1, A.2.2.2.1, 0, A.2.2.2.2.2))
def unP (K : Mm) (p n q : Nat) : Bool := decide (¬ q = p ∧ ¬ K 2 q = -1 ∧ ¬ mos n (up2 K 2 q (-1)) 2 p = -1)
def opUndo (A : As) (p n : Int32) : Int32 × As :=
  if (0 ≤ p ∧ p < A.1 0 0) ∧ (1 ≤ n ∧ n ≤ 60) then (if A.1 2 (cl p) = -1 ∨ 999 < A.1 0 1 + n then sta A else (bset (nn A.1) (unP A.1 (cl p) (cl n)), A)) else bey A
