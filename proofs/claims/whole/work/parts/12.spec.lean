/-! WHAT AN EMPIRE IS: rows of whole numbers K j p: j 0 persons, month, turned, z; 1 kind, 2 rank, 3 age, 4 house, 5 gold, 6 grudge, 7 gift; 8 seats; 9 law, parts, price; 10 spots -/
def rng (j : Nat) : Nat := [4, 12, 12, 12, 12, 12, 12, 12, 8, 3, 10].getD j 0
/-- the class's Empire at cell e -/
def vC (σ : Mm) (e : Nat) : Mm := fun j p => if p < rng j then (if j = 0 then σ e (11 + p) else if j ≤ 8 then σ (e + j) p else σ (e + j + 1) p) else 0
/-- the reference's row at cell c -/
def vM (σ : Mm) (c : Nat) : Mm := fun j p => if p < rng j then (if j = 0 then σ c ([6, 0, 4, 5].getD p 0) else if j ≤ 7 then σ c (14 + 7 * p + j) else if j = 8 then σ c (7 + p) else if j = 9 then σ c (1 + p) else σ c (99 + p)) else 0
def nn (K : Mm) : Nat := (K 0 0).toNatClampNeg
def inP (K : Mm) (r : Int32) (p : Nat) : Bool := decide (K 2 p = r)
def cgP (K : Mm) (p : Nat) : Bool := !decide (K 1 p = 6)
/-- of a set the one with most in a row, of several the least number; -1: nobody -/
def mx (row : Nat → Int32) (S : Nat → Bool) : Nat → Int32
  | 0 => -1
  | n + 1 => if S n = true ∧ (mx row S n = -1 ∨ row (mx row S n).toNatClampNeg < row n) then nI n else mx row S n
/-- of a set the least number; -1: nobody -/
def lo (S : Nat → Bool) : Nat → Int32
  | 0 => -1
  | n + 1 => if S n = true ∧ lo S n = -1 then nI n else lo S n
/-- who moves up first out of a set, by law -/
def hrS (K : Mm) (S : Nat → Bool) : Int32 := if K 9 0 = 0 then mx (K 3) S (nn K) else if K 9 0 = 1 then mx (K 5) S (nn K) else lo S (nn K)
/-- p wants q turned out -/
def wn (K : Mm) (p q : Nat) : Bool :=
  if K 1 p = 0 then decide (K 6 p = nI q)
  else if K 1 p = 2 then decide (K 6 p = nI q ∧ K 7 p < K 9 2)
  else if K 1 p = 3 then decide ((K 6 p = nI q ∧ K 7 p < K 9 2) ∨ (¬ K 2 q = -1 ∧ mx (K 5) (inP K (K 2 q)) (nn K) = nI q))
  else if K 1 p = 4 then decide (K 6 p = nI q ∧ ¬ K 4 p = K 4 q)
  else if K 1 p = 5 then decide (K 6 p = nI q ∨ (¬ K 2 q = -1 ∧ K 2 q = K 2 p - 2 ∧ K 3 p < K 3 q))
  else false
def blP (K : Mm) (q p : Nat) : Bool := decide (¬ K 2 q = -1 ∧ K 2 q < 6) && (inP K (K 2 q + 2) p && cgP K p)
def agP (K : Mm) (q p : Nat) : Bool := blP K q p && wn K p q
def en (K : Mm) (a b : Int32) : Prop := 0 < a ∧ b ≤ a * K 9 1
def trP (K : Mm) (q : Nat) : Bool := decide (¬ K 2 q = -1) && (decide (0 < nI (cnt (agP K q) (nn K))) && decide (nI (cnt (blP K q) (nn K)) ≤ nI (cnt (agP K q) (nn K)) * K 9 1))
/-- those below i of a set are OUT -/
def outK (K : Mm) (S : Nat → Bool) (i : Nat) : Mm := fun j p => if j = 2 ∧ p < i ∧ S p = true then -1 else K j p
def pyV (g r : Int32) : Int32 := if g + 8 - r < 9999 then g + 8 - r else 9999
def pyK (K : Mm) (i : Nat) : Mm := fun j p => if j = 5 ∧ p < i ∧ ¬ K 2 p = -1 then pyV (K 5 p) (K 2 p) else K j p
def agK (K : Mm) (i : Nat) : Mm := fun j p => if j = 3 ∧ p < i then (if K 3 p + 1 < 99 then K 3 p + 1 else 99) else K j p
/-- into rank r from the next one, as long as there are seats and persons -/
def flR (r : Nat) : Nat → Mm → Mm
  | 0, K => K
  | f + 1, K => if nI (cnt (inP K (nI r)) (nn K)) < K 8 r ∧ ¬ hrS K (inP K (nI (r + 1))) = -1 then flR r f (up2 K 2 (hrS K (inP K (nI (r + 1)))).toNatClampNeg (nI r)) else K
def flA : Nat → Mm → Mm
  | 0, K => K
  | r + 1, K => flR r 13 (flA r K)
def mo1 (K : Mm) : Mm := up2 (outK K (trP K) (nn K)) 0 2 (K 0 2 + nI (cnt (trP K) (nn K)))
def mo2 (K : Mm) : Mm := pyK (flA 7 (mo1 K)) (nn K)
def mo3 (K : Mm) : Mm := if K 0 1 - K 0 1 / 12 * 12 = 11 then agK K (nn K) else K
/-- a month -/
def mo (K : Mm) : Mm := up2 (mo3 (mo2 K)) 0 1 (mo3 (mo2 K) 0 1 + 1)
def mos : Nat → Mm → Mm
  | 0, K => K
  | n + 1, K => mo (mos n K)
/-- an empire as it may be -/
def Ok (K : Mm) : Prop := (K 0 0 = nI (nn K) ∧ nn K ≤ 12) ∧ (∀ p, p < nn K → (0 ≤ K 1 p ∧ K 1 p ≤ 6) ∧ (-1 ≤ K 2 p ∧ K 2 p ≤ 7) ∧ (0 ≤ K 3 p ∧ K 3 p ≤ 99) ∧ (0 ≤ K 5 p ∧ K 5 p ≤ 9999) ∧ (-1 ≤ K 6 p ∧ K 6 p < K 0 0)) ∧ (0 ≤ K 9 0 ∧ K 9 0 ≤ 2) ∧ (∀ q, q < 10 → -1 ≤ K 10 q ∧ K 10 q < K 0 0) ∧ ((∀ j p, rng j ≤ p → K j p = 0) ∧ ∀ r, r < 8 → 0 ≤ K 8 r ∧ K 8 r ≤ 4)
/-- the class's Empire at e holds K, and 'in' goes with it -/
def Emp (σ : Mm) (e : Nat) (K : Mm) : Prop := vC σ e = K ∧ (∀ r, r < 8 → σ (e + 9) r = bset (nn K) (inP K (nI r)))
/-- nothing but the cells of the Empire at e has changed -/
def Fr (e : Nat) (σ σ' : Mm) : Prop := ∀ i, (i < e ∨ e + 12 ≤ i) → σ' i = σ i
theorem Fr.rf {e : Nat} {σ : Mm} : Fr e σ σ := fun _ _ => rfl
theorem Fr.tr {e : Nat} {σ σ1 σ2 : Mm} (a : Fr e σ σ1) (b : Fr e σ1 σ2) : Fr e σ σ2 := fun i h => (b i h).trans (a i h)
theorem Fr.up {e i k : Nat} {v : Int32} {σ σ1 : Mm} (a : Fr e σ σ1) (h1 : e ≤ i) (h2 : i < e + 12) : Fr e σ (up2 σ1 i k v) := fun j h => (up2_o (by omega)).trans (a j h)
/-- what stands in the cells -/
theorem Emp.n {σ : Mm} {e : Nat} {K : Mm} (h : Emp σ e K) : σ e 11 = K 0 0 := by rw [← h.1]; simp [vC, rng]
theorem Emp.m {σ : Mm} {e : Nat} {K : Mm} (h : Emp σ e K) : σ e 12 = K 0 1 := by rw [← h.1]; simp [vC, rng]
theorem Emp.t {σ : Mm} {e : Nat} {K : Mm} (h : Emp σ e K) : σ e 13 = K 0 2 := by rw [← h.1]; simp [vC, rng]
theorem Emp.z {σ : Mm} {e : Nat} {K : Mm} (h : Emp σ e K) : σ e 14 = K 0 3 := by rw [← h.1]; simp [vC, rng]
theorem Emp.r1 {σ : Mm} {e : Nat} {K : Mm} (h : Emp σ e K) {p : Nat} (hp : p < 12) : σ (e + 1) p = K 1 p := by rw [← h.1]; simp [vC, rng, hp]
theorem Emp.r2 {σ : Mm} {e : Nat} {K : Mm} (h : Emp σ e K) {p : Nat} (hp : p < 12) : σ (e + 2) p = K 2 p := by rw [← h.1]; simp [vC, rng, hp]
theorem Emp.r3 {σ : Mm} {e : Nat} {K : Mm} (h : Emp σ e K) {p : Nat} (hp : p < 12) : σ (e + 3) p = K 3 p := by rw [← h.1]; simp [vC, rng, hp]
theorem Emp.r4 {σ : Mm} {e : Nat} {K : Mm} (h : Emp σ e K) {p : Nat} (hp : p < 12) : σ (e + 4) p = K 4 p := by rw [← h.1]; simp [vC, rng, hp]
theorem Emp.r5 {σ : Mm} {e : Nat} {K : Mm} (h : Emp σ e K) {p : Nat} (hp : p < 12) : σ (e + 5) p = K 5 p := by rw [← h.1]; simp [vC, rng, hp]
theorem Emp.r6 {σ : Mm} {e : Nat} {K : Mm} (h : Emp σ e K) {p : Nat} (hp : p < 12) : σ (e + 6) p = K 6 p := by rw [← h.1]; simp [vC, rng, hp]
theorem Emp.r7 {σ : Mm} {e : Nat} {K : Mm} (h : Emp σ e K) {p : Nat} (hp : p < 12) : σ (e + 7) p = K 7 p := by rw [← h.1]; simp [vC, rng, hp]
theorem Emp.r8 {σ : Mm} {e : Nat} {K : Mm} (h : Emp σ e K) {p : Nat} (hp : p < 8) : σ (e + 8) p = K 8 p := by rw [← h.1]; simp [vC, rng, hp]
theorem Emp.r9 {σ : Mm} {e : Nat} {K : Mm} (h : Emp σ e K) {p : Nat} (hp : p < 3) : σ (e + 10) p = K 9 p := by rw [← h.1]; simp [vC, rng, hp]
theorem Emp.r10 {σ : Mm} {e : Nat} {K : Mm} (h : Emp σ e K) {p : Nat} (hp : p < 10) : σ (e + 11) p = K 10 p := by rw [← h.1]; simp [vC, rng, hp]
theorem Emp.in {σ : Mm} {e : Nat} {K : Mm} (h : Emp σ e K) {r : Nat} (hr : r < 8) : σ (e + 9) r = bset (nn K) (inP K (nI r)) := h.2 r hr
theorem up2_up {K : Mm} {j p : Nat} {v : Int32} {j' p' : Nat} : up2 K j p v j' p' = if j' = j ∧ p' = p then v else K j' p' := by
  unfold up2
  by_cases h : j' = j
  · subst h
    by_cases h2 : p' = p
    · subst h2; simp [upd]
    · simp [upd, h2]
  · simp [h]
theorem vC_up1 {σ : Mm} {e : Nat} {p : Nat} {v : Int32} (hp : p < 12) : vC (up2 σ (e + 1) p v) e = up2 (vC σ e) 1 p v := by
  funext j q
  rw [up2_up]
  unfold vC
  simp only [up2_up]
  have h0 : ¬ e = e + 1 := by omega
  by_cases hj : j = 1
  · subst hj
    by_cases hq : q = p
    · subst hq; simp [rng, hp]
    · simp [hq, rng]
  · by_cases hq : q < rng j
    · by_cases hj0 : j = 0
      · subst hj0; simp [hq]
      · have h1 : ¬ e + j = e + 1 ∨ 8 < j := by omega
        have h2 : ¬ e + j + 1 = e + 1 ∨ j ≤ 8 := by omega
        by_cases h8 : j ≤ 8
        · have h3 : ¬ e + j = e + 1 := by omega
          simp [hq, hj0, h8, hj, h3]
        · have h3 : ¬ e + j + 1 = e + 1 := by omega
          have h4 : ¬ j = 0 := by omega
          simp [hq, hj0, h8, hj, h3, h4]
    · simp [hq, hj]
theorem vC_up2 {σ : Mm} {e : Nat} {p : Nat} {v : Int32} (hp : p < 12) : vC (up2 σ (e + 2) p v) e = up2 (vC σ e) 2 p v := by
  funext j q
  rw [up2_up]
  unfold vC
  simp only [up2_up]
  have h0 : ¬ e = e + 2 := by omega
  by_cases hj : j = 2
  · subst hj
    by_cases hq : q = p
    · subst hq; simp [rng, hp]
    · simp [hq, rng]
  · by_cases hq : q < rng j
    · by_cases hj0 : j = 0
      · subst hj0; simp [hq]
      · have h1 : ¬ e + j = e + 2 ∨ 8 < j := by omega
        have h2 : ¬ e + j + 1 = e + 2 ∨ j ≤ 8 := by omega
        by_cases h8 : j ≤ 8
        · have h3 : ¬ e + j = e + 2 := by omega
          simp [hq, hj0, h8, hj, h3]
        · have h3 : ¬ e + j + 1 = e + 2 := by omega
          have h4 : ¬ j = 1 := by omega
          simp [hq, hj0, h8, hj, h3, h4]
    · simp [hq, hj]
theorem vC_up3 {σ : Mm} {e : Nat} {p : Nat} {v : Int32} (hp : p < 12) : vC (up2 σ (e + 3) p v) e = up2 (vC σ e) 3 p v := by
  funext j q
  rw [up2_up]
  unfold vC
  simp only [up2_up]
  have h0 : ¬ e = e + 3 := by omega
  by_cases hj : j = 3
  · subst hj
    by_cases hq : q = p
    · subst hq; simp [rng, hp]
    · simp [hq, rng]
  · by_cases hq : q < rng j
    · by_cases hj0 : j = 0
      · subst hj0; simp [hq]
      · have h1 : ¬ e + j = e + 3 ∨ 8 < j := by omega
        have h2 : ¬ e + j + 1 = e + 3 ∨ j ≤ 8 := by omega
        by_cases h8 : j ≤ 8
        · have h3 : ¬ e + j = e + 3 := by omega
          simp [hq, hj0, h8, hj, h3]
        · have h3 : ¬ e + j + 1 = e + 3 := by omega
          have h4 : ¬ j = 2 := by omega
          simp [hq, hj0, h8, hj, h3, h4]
    · simp [hq, hj]
theorem vC_up4 {σ : Mm} {e : Nat} {p : Nat} {v : Int32} (hp : p < 12) : vC (up2 σ (e + 4) p v) e = up2 (vC σ e) 4 p v := by
  funext j q
  rw [up2_up]
  unfold vC
  simp only [up2_up]
  have h0 : ¬ e = e + 4 := by omega
  by_cases hj : j = 4
  · subst hj
    by_cases hq : q = p
    · subst hq; simp [rng, hp]
    · simp [hq, rng]
  · by_cases hq : q < rng j
    · by_cases hj0 : j = 0
      · subst hj0; simp [hq]
      · have h1 : ¬ e + j = e + 4 ∨ 8 < j := by omega
        have h2 : ¬ e + j + 1 = e + 4 ∨ j ≤ 8 := by omega
        by_cases h8 : j ≤ 8
        · have h3 : ¬ e + j = e + 4 := by omega
          simp [hq, hj0, h8, hj, h3]
        · have h3 : ¬ e + j + 1 = e + 4 := by omega
          have h4 : ¬ j = 3 := by omega
          simp [hq, hj0, h8, hj, h3, h4]
    · simp [hq, hj]
theorem vC_up5 {σ : Mm} {e : Nat} {p : Nat} {v : Int32} (hp : p < 12) : vC (up2 σ (e + 5) p v) e = up2 (vC σ e) 5 p v := by
  funext j q
  rw [up2_up]
  unfold vC
  simp only [up2_up]
  have h0 : ¬ e = e + 5 := by omega
  by_cases hj : j = 5
  · subst hj
    by_cases hq : q = p
    · subst hq; simp [rng, hp]
    · simp [hq, rng]
  · by_cases hq : q < rng j
    · by_cases hj0 : j = 0
      · subst hj0; simp [hq]
      · have h1 : ¬ e + j = e + 5 ∨ 8 < j := by omega
        have h2 : ¬ e + j + 1 = e + 5 ∨ j ≤ 8 := by omega
        by_cases h8 : j ≤ 8
        · have h3 : ¬ e + j = e + 5 := by omega
          simp [hq, hj0, h8, hj, h3]
        · have h3 : ¬ e + j + 1 = e + 5 := by omega
          have h4 : ¬ j = 4 := by omega
          simp [hq, hj0, h8, hj, h3, h4]
    · simp [hq, hj]
theorem vC_up6 {σ : Mm} {e : Nat} {p : Nat} {v : Int32} (hp : p < 12) : vC (up2 σ (e + 6) p v) e = up2 (vC σ e) 6 p v := by
  funext j q
  rw [up2_up]
  unfold vC
  simp only [up2_up]
  have h0 : ¬ e = e + 6 := by omega
  by_cases hj : j = 6
  · subst hj
    by_cases hq : q = p
    · subst hq; simp [rng, hp]
    · simp [hq, rng]
  · by_cases hq : q < rng j
    · by_cases hj0 : j = 0
      · subst hj0; simp [hq]
      · have h1 : ¬ e + j = e + 6 ∨ 8 < j := by omega
        have h2 : ¬ e + j + 1 = e + 6 ∨ j ≤ 8 := by omega
        by_cases h8 : j ≤ 8
        · have h3 : ¬ e + j = e + 6 := by omega
          simp [hq, hj0, h8, hj, h3]
        · have h3 : ¬ e + j + 1 = e + 6 := by omega
          have h4 : ¬ j = 5 := by omega
          simp [hq, hj0, h8, hj, h3, h4]
    · simp [hq, hj]
theorem vC_up7 {σ : Mm} {e : Nat} {p : Nat} {v : Int32} (hp : p < 12) : vC (up2 σ (e + 7) p v) e = up2 (vC σ e) 7 p v := by
  funext j q
  rw [up2_up]
  unfold vC
  simp only [up2_up]
  have h0 : ¬ e = e + 7 := by omega
  by_cases hj : j = 7
  · subst hj
    by_cases hq : q = p
    · subst hq; simp [rng, hp]
    · simp [hq, rng]
  · by_cases hq : q < rng j
    · by_cases hj0 : j = 0
      · subst hj0; simp [hq]
      · have h1 : ¬ e + j = e + 7 ∨ 8 < j := by omega
        have h2 : ¬ e + j + 1 = e + 7 ∨ j ≤ 8 := by omega
        by_cases h8 : j ≤ 8
        · have h3 : ¬ e + j = e + 7 := by omega
          simp [hq, hj0, h8, hj, h3]
        · have h3 : ¬ e + j + 1 = e + 7 := by omega
          have h4 : ¬ j = 6 := by omega
          simp [hq, hj0, h8, hj, h3, h4]
    · simp [hq, hj]
theorem vC_up8 {σ : Mm} {e : Nat} {p : Nat} {v : Int32} (hp : p < 8) : vC (up2 σ (e + 8) p v) e = up2 (vC σ e) 8 p v := by
  funext j q
  rw [up2_up]
  unfold vC
  simp only [up2_up]
  have h0 : ¬ e = e + 8 := by omega
  by_cases hj : j = 8
  · subst hj
    by_cases hq : q = p
    · subst hq; simp [rng, hp]
    · simp [hq, rng]
  · by_cases hq : q < rng j
    · by_cases hj0 : j = 0
      · subst hj0; simp [hq]
      · have h1 : ¬ e + j = e + 8 ∨ 8 < j := by omega
        have h2 : ¬ e + j + 1 = e + 8 ∨ j ≤ 8 := by omega
        by_cases h8 : j ≤ 8
        · have h3 : ¬ e + j = e + 8 := by omega
          simp [hq, hj0, h8, hj, h3]
        · have h3 : ¬ e + j + 1 = e + 8 := by omega
          have h4 : ¬ j = 7 := by omega
          simp [hq, hj0, h8, hj, h3, h4]
    · simp [hq, hj]
theorem vC_up9 {σ : Mm} {e : Nat} {p : Nat} {v : Int32} (hp : p < 3) : vC (up2 σ (e + 10) p v) e = up2 (vC σ e) 9 p v := by
  funext j q
  rw [up2_up]
  unfold vC
  simp only [up2_up]
  have h0 : ¬ e = e + 10 := by omega
  by_cases hj : j = 9
  · subst hj
    by_cases hq : q = p
    · subst hq; simp [rng, hp]
    · simp [hq, rng]
  · by_cases hq : q < rng j
    · by_cases hj0 : j = 0
      · subst hj0; simp [hq]
      · have h1 : ¬ e + j = e + 10 ∨ 8 < j := by omega
        have h2 : ¬ e + j + 1 = e + 10 ∨ j ≤ 8 := by omega
        by_cases h8 : j ≤ 8
        · have h3 : ¬ e + j = e + 10 := by omega
          have h4 : ¬ j = 10 := by omega
          simp [hq, hj0, h8, hj, h4]
        · have h3 : ¬ e + j + 1 = e + 10 := by omega
          have h4 : ¬ j = 9 := by omega
          simp [hq, hj0, h8, hj, h3, h4]
    · simp [hq, hj]
theorem vC_up10 {σ : Mm} {e : Nat} {p : Nat} {v : Int32} (hp : p < 10) : vC (up2 σ (e + 11) p v) e = up2 (vC σ e) 10 p v := by
  funext j q
  rw [up2_up]
  unfold vC
  simp only [up2_up]
  have h0 : ¬ e = e + 11 := by omega
  by_cases hj : j = 10
  · subst hj
    by_cases hq : q = p
    · subst hq; simp [rng, hp]
    · simp [hq, rng]
  · by_cases hq : q < rng j
    · by_cases hj0 : j = 0
      · subst hj0; simp [hq]
      · have h1 : ¬ e + j = e + 11 ∨ 8 < j := by omega
        have h2 : ¬ e + j + 1 = e + 11 ∨ j ≤ 8 := by omega
        by_cases h8 : j ≤ 8
        · have h3 : ¬ e + j = e + 11 := by omega
          have h4 : ¬ j = 11 := by omega
          simp [hq, hj0, h8, hj, h4]
        · have h3 : ¬ e + j + 1 = e + 11 := by omega
          have h4 : ¬ j = 10 := by omega
          simp [hq, hj0, h8, hj, h3, h4]
    · simp [hq, hj]
theorem vC_upI {σ : Mm} {e : Nat} {p : Nat} {v : Int32} : vC (up2 σ (e + 9) p v) e = vC σ e := by
  funext j q
  unfold vC
  simp only [up2_up]
  by_cases hj0 : j = 0
  · subst hj0; simp
  · by_cases h8 : j ≤ 8
    · have h4 : ¬ j = 9 := by omega
      simp [hj0, h8, h4]
    · have h4 : ¬ j = 8 := by omega
      simp [hj0, h8, h4]
theorem vC_up0 {σ : Mm} {e : Nat} {k : Nat} {v : Int32} (hk : k < 4) : vC (up2 σ e (11 + k) v) e = up2 (vC σ e) 0 k v := by
  funext j q
  rw [up2_up]
  unfold vC
  simp only [up2_up]
  by_cases hj : j = 0
  · subst hj
    by_cases hq : q = k
    · subst hq; simp [rng, hk]
    · have h1 : ¬ 11 + q = 11 + k := by omega
      simp [hq, h1]
  · have h1 : ¬ e + j = e := by omega
    have h2 : ¬ e + j + 1 = e := by omega
    simp [hj, h1, h2]
