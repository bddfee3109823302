/-! THE REFERENCE: one row of numbers at cell 50 -/
theorem mp_n {σ K : Mm} {c : Nat} (h : vM σ c = K) : σ c 6 = K 0 0 := by rw [← h]; simp [vM, rng]
theorem mp_m {σ K : Mm} {c : Nat} (h : vM σ c = K) : σ c 0 = K 0 1 := by rw [← h]; simp [vM, rng]
theorem mp_t {σ K : Mm} {c : Nat} (h : vM σ c = K) : σ c 4 = K 0 2 := by rw [← h]; simp [vM, rng]
theorem mp_z {σ K : Mm} {c : Nat} (h : vM σ c = K) : σ c 5 = K 0 3 := by rw [← h]; simp [vM, rng]
theorem mp_1 {σ K : Mm} {c : Nat} (h : vM σ c = K) {p : Nat} (hp : p < 12) : σ c (15 + 7 * p + 0) = K 1 p := by rw [← h]; simp only [vM, show rng 1 = 12 from rfl, hp, if_true]; simp; congr 1; omega
theorem mp_2 {σ K : Mm} {c : Nat} (h : vM σ c = K) {p : Nat} (hp : p < 12) : σ c (15 + 7 * p + 1) = K 2 p := by rw [← h]; simp only [vM, show rng 2 = 12 from rfl, hp, if_true]; simp; congr 1; omega
theorem mp_3 {σ K : Mm} {c : Nat} (h : vM σ c = K) {p : Nat} (hp : p < 12) : σ c (15 + 7 * p + 2) = K 3 p := by rw [← h]; simp only [vM, show rng 3 = 12 from rfl, hp, if_true]; simp; congr 1; omega
theorem mp_4 {σ K : Mm} {c : Nat} (h : vM σ c = K) {p : Nat} (hp : p < 12) : σ c (15 + 7 * p + 3) = K 4 p := by rw [← h]; simp only [vM, show rng 4 = 12 from rfl, hp, if_true]; simp; congr 1; omega
theorem mp_5 {σ K : Mm} {c : Nat} (h : vM σ c = K) {p : Nat} (hp : p < 12) : σ c (15 + 7 * p + 4) = K 5 p := by rw [← h]; simp only [vM, show rng 5 = 12 from rfl, hp, if_true]; simp; congr 1; omega
theorem mp_6 {σ K : Mm} {c : Nat} (h : vM σ c = K) {p : Nat} (hp : p < 12) : σ c (15 + 7 * p + 5) = K 6 p := by rw [← h]; simp only [vM, show rng 6 = 12 from rfl, hp, if_true]; simp; congr 1; omega
theorem mp_7 {σ K : Mm} {c : Nat} (h : vM σ c = K) {p : Nat} (hp : p < 12) : σ c (15 + 7 * p + 6) = K 7 p := by rw [← h]; simp only [vM, show rng 7 = 12 from rfl, hp, if_true]; simp; congr 1; omega
theorem mp_8 {σ K : Mm} {c : Nat} (h : vM σ c = K) {p : Nat} (hp : p < 8) : σ c (7 + p) = K 8 p := by rw [← h]; simp [vM, rng, hp]
theorem mp_9_0 {σ K : Mm} {c : Nat} (h : vM σ c = K) : σ c 1 = K 9 0 := by rw [← h]; simp [vM, rng]
theorem mp_9_1 {σ K : Mm} {c : Nat} (h : vM σ c = K) : σ c 2 = K 9 1 := by rw [← h]; simp [vM, rng]
theorem mp_9_2 {σ K : Mm} {c : Nat} (h : vM σ c = K) : σ c 3 = K 9 2 := by rw [← h]; simp [vM, rng]
theorem mp_9 {σ K : Mm} {c : Nat} (h : vM σ c = K) {p : Nat} (hp : p < 3) : σ c (1 + p) = K 9 p := by rw [← h]; simp [vM, rng, hp]
theorem mp_10 {σ K : Mm} {c : Nat} (h : vM σ c = K) {p : Nat} (hp : p < 10) : σ c (99 + p) = K 10 p := by rw [← h]; simp [vM, rng, hp]
theorem mp_J {σ K : Mm} {c j : Nat} (h : vM σ c = K) (hj : j < 7) {p : Nat} (hp : p < 12) : σ c (15 + 7 * p + j) = K (j + 1) p := by
  match j, hj with
  | 0, _ => exact mp_1 h hp
  | 1, _ => exact mp_2 h hp
  | 2, _ => exact mp_3 h hp
  | 3, _ => exact mp_4 h hp
  | 4, _ => exact mp_5 h hp
  | 5, _ => exact mp_6 h hp
  | 6, _ => exact mp_7 h hp
  | j + 7, h => exact absurd h (by omega)
/-- the place of a number in the row -/
def mIx (j p : Nat) : Nat := if j = 0 then [6, 0, 4, 5].getD p 0 else if j ≤ 7 then 14 + 7 * p + j else if j = 8 then 7 + p else if j = 9 then 1 + p else 99 + p
theorem mIx_all : ((List.range 11).all fun j => (List.range 12).all fun p => (List.range 11).all fun j' => (List.range 12).all fun p' => !(decide (p < rng j) && decide (p' < rng j') && decide (mIx j p = mIx j' p')) || (decide (j = j') && decide (p = p'))) = true := by decide +kernel
theorem rng_12 : ∀ j, j < 11 → rng j ≤ 12 := by decide +kernel
theorem mIx_inj (j : Nat) (hj : j < 11) (p : Nat) (hp : p < rng j) (j' : Nat) (hj' : j' < 11) (p' : Nat) (hp' : p' < rng j') (h : mIx j p = mIx j' p') : j = j' ∧ p = p' := by
  have a := rng_12 j hj
  have b := rng_12 j' hj'
  have h1 := List.all_eq_true.mp mIx_all j (List.mem_range.mpr hj)
  have h2 := List.all_eq_true.mp h1 p (List.mem_range.mpr (by omega))
  have h3 := List.all_eq_true.mp h2 j' (List.mem_range.mpr hj')
  have h4 := List.all_eq_true.mp h3 p' (List.mem_range.mpr (by omega))
  simpa [hp, hp', h] using h4
theorem rng_big {j : Nat} (h : 11 ≤ j) : rng j = 0 := by unfold rng; rw [List.getD_eq_getElem?_getD, List.getElem?_eq_none (by simp; omega)]; rfl
theorem vM_ix (σ : Mm) (c j p : Nat) : vM σ c j p = if p < rng j then σ c (mIx j p) else 0 := by
  unfold vM mIx
  by_cases hp : p < rng j
  · rw [if_pos hp, if_pos hp]
    by_cases h0 : j = 0
    · simp [h0]
    · by_cases h7 : j ≤ 7
      · simp [h0, h7]
      · by_cases h8 : j = 8
        · simp [h8]
        · by_cases h9 : j = 9
          · simp [h9]
          · simp [h0, h7, h8, h9]
  · rw [if_neg hp, if_neg hp]
theorem vM_up {σ : Mm} {c j p i : Nat} {v : Int32} (hj : j < 11) (hp : p < rng j) (hi : i = mIx j p) : vM (up2 σ c i v) c = up2 (vM σ c) j p v := by
  subst hi
  funext j' p'
  rw [up2_up, vM_ix, vM_ix]
  by_cases hp' : p' < rng j'
  · have hj' : j' < 11 := by
      rcases Nat.lt_or_ge j' 11 with q | q
      · exact q
      · rw [rng_big q] at hp'; omega
    rw [if_pos hp', if_pos hp', up2_up]
    by_cases h : j' = j ∧ p' = p
    · rw [if_pos h, h.1, h.2, if_pos ⟨rfl, rfl⟩]
    · rw [if_neg h, if_neg]
      intro q
      exact h (mIx_inj j' hj' p' hp' j hj p hp q.2)
  · rw [if_neg hp', if_neg hp', if_neg]
    intro q
    rw [q.1, q.2] at hp'
    exact hp' hp
theorem vM_o {σ σ' : Mm} {c : Nat} (h : σ' c = σ c) : vM σ' c = vM σ c := by unfold vM; rw [h]
theorem or0 (x : Int32) : x ||| 0 = x := by
  apply b_ext
  intro i hi
  rw [b_or, b_0]
  simp
theorem add0 (x : Int32) : x + 0 = x := by
  apply Int32.toBitVec_inj.mp
  rw [Int32.toBitVec_add]
  exact BitVec.add_zero _
theorem lg_lt {x y : Int64} : lg_cmp x y < 0 ↔ x < y := by
  rw [← Int32.not_le, lg_cmp_ge, Int64.not_le]
theorem lg_gt {x y : Int64} : 0 < lg_cmp x y ↔ y < x := by
  unfold lg_cmp
  by_cases h : y < x
  · simp [h]
  · by_cases h2 : x = y
    · simp [h2]
    · simp [h, h2]
theorem i64_lt {a b : Int32} : a.toInt64 < b.toInt64 ↔ a < b := by
  rw [Int64.lt_iff_toInt_lt, Int32.toInt_toInt64, Int32.toInt_toInt64, Int32.lt_iff_toInt_lt]
/-- nothing but one cell has changed -/
def F1 (c : Nat) (σ σ' : Mm) : Prop := ∀ i, ¬ i = c → σ' i = σ i
theorem F1.rf {c : Nat} {σ : Mm} : F1 c σ σ := fun _ _ => rfl
theorem F1.tr {c : Nat} {σ σ1 σ2 : Mm} (a : F1 c σ σ1) (b : F1 c σ1 σ2) : F1 c σ σ2 := fun i h => (b i h).trans (a i h)
theorem F1.up {c k : Nat} {v : Int32} {σ σ1 : Mm} (a : F1 c σ σ1) : F1 c σ (up2 σ1 c k v) := fun i h => (up2_o h).trans (a i h)
theorem many_bs (P : Nat → Bool) {n : Nat} (h : n ≤ 12) : cnt (fun q => decide (q < n) && P q) 12 = cnt P n := by
  have key : ∀ m, m ≤ 12 → n ≤ m → cnt (fun q => decide (q < n) && P q) m = cnt P n := by
    intro m
    induction m with
    | zero => intro _ h1; rw [show n = 0 by omega]; rfl
    | succ m ih =>
      intro hm h1
      by_cases h2 : n = m + 1
      · subst h2
        exact cnt_c (fun p hp => by simp [hp])
      · rw [cnt, ih (by omega) (by omega)]
        have : ¬ m < n := by omega
        simp [this]
  exact key 12 (by omega) h
theorem many_st (P : Nat → Bool) {n k : Nat} (hk : k < 12) : nI (cnt (fun q => decide (q < n) && P q) k) + (((bset n P) >>> ((nI k) &&& 31)) &&& 1) = nI (cnt (fun q => decide (q < n) && P q) (k + 1)) := by
  rw [show ((bset n P) >>> ((nI k) &&& 31)) &&& 1 = tb (bset n P) k from rfl, tb_bset n P (by omega), cnt]
  split
  · exact nI_1 _
  · exact add0 _
theorem has_bs (P : Nat → Bool) {n k : Nat} (hn : n ≤ 12) (hk : k < n) : (((bset n P) >>> ((nI k) &&& 31)) &&& 1) = 1 ↔ P k = true := by
  rw [show ((bset n P) >>> ((nI k) &&& 31)) &&& 1 = tb (bset n P) k from rfl, tb_bset n P (by omega)]
  cases hP : P k <;> simp [hk]
