def bt (x : Int32) (i : Nat) : Bool := x.toBitVec.getLsbD i
theorem b_ext {x y : Int32} (h : ∀ i, i < 32 → bt x i = bt y i) : x = y := Int32.toBitVec_inj.mp (BitVec.eq_of_getLsbD_eq (fun i hi => h i hi))
theorem b_or (x y : Int32) (i : Nat) : bt (x ||| y) i = (bt x i || bt y i) := by unfold bt; rw [Int32.toBitVec_or, BitVec.getLsbD_or]
theorem b_and (x y : Int32) (i : Nat) : bt (x &&& y) i = (bt x i && bt y i) := by unfold bt; rw [Int32.toBitVec_and, BitVec.getLsbD_and]
theorem b_xor (x y : Int32) (i : Nat) : bt (x ^^^ y) i = (bt x i ^^ bt y i) := by unfold bt; rw [Int32.toBitVec_xor, BitVec.getLsbD_xor]
theorem b_big {x : Int32} {i : Nat} (h : 32 ≤ i) : bt x i = false := BitVec.getLsbD_of_ge _ _ h
theorem b_m1 : ∀ i, i < 32 → bt (-1) i = true := by decide +kernel
theorem b_0 (i : Nat) : bt 0 i = false := BitVec.getLsbD_zero
theorem s_l : ∀ n, n < 32 → ((nI n &&& 31).toBitVec.smod 32).toNat = n := by decide +kernel
theorem s_u : ∀ n, n < 32 → (((nI n).toUInt32 &&& Int32.toUInt32 31).toBitVec % 32).toNat = n := by decide +kernel
theorem b_shl (n : Nat) (hn : n < 32) (x : Int32) {i : Nat} (hi : i < 32) : bt (x <<< (nI n &&& 31)) i = (decide (n ≤ i) && bt x (i - n)) := by
  unfold bt
  rw [Int32.toBitVec_shiftLeft]
  show (x.toBitVec <<< ((nI n &&& 31).toBitVec.smod 32).toNat).getLsbD i = _
  rw [s_l n hn, BitVec.getLsbD_shiftLeft]
  rcases Nat.lt_or_ge i n with h | h
  · simp [h, Nat.not_le.mpr h]
  · simp [hi, h, Nat.not_lt.mpr h]
theorem b_ushr (n : Nat) (hn : n < 32) (x : Int32) (i : Nat) : bt ((x.toUInt32 >>> ((nI n).toUInt32 &&& Int32.toUInt32 31)).toInt32) i = bt x (n + i) := by
  show (x.toUInt32 >>> ((nI n).toUInt32 &&& Int32.toUInt32 31)).toBitVec.getLsbD i = x.toUInt32.toBitVec.getLsbD (n + i)
  rw [UInt32.toBitVec_shiftRight]
  show (x.toUInt32.toBitVec >>> (((nI n).toUInt32 &&& Int32.toUInt32 31).toBitVec % 32).toNat).getLsbD i = _
  rw [s_u n hn, BitVec.getLsbD_ushiftRight]
theorem b_sshr (n : Nat) (hn : n < 32) (x : Int32) {i : Nat} (hi : i < 32) : bt (x >>> (nI n &&& 31)) i = if n + i < 32 then bt x (n + i) else bt x 31 := by
  unfold bt
  rw [Int32.toBitVec_shiftRight]
  show (x.toBitVec.sshiftRight ((nI n &&& 31).toBitVec.smod 32).toNat).getLsbD i = _
  rw [s_l n hn, BitVec.getLsbD_sshiftRight, BitVec.msb_eq_getLsbD_last]
  simp [hi]
theorem nx_and (a b : Nat) : nI a &&& nI b = nI (a &&& b) := by
  apply Int32.toBitVec_inj.1
  show BitVec.ofNat 32 a &&& BitVec.ofNat 32 b = BitVec.ofNat 32 (a &&& b)
  apply BitVec.eq_of_getLsbD_eq
  intro i hi
  simp [hi]
theorem nx_xor (a b : Nat) : nI a ^^^ nI b = nI (a ^^^ b) := by
  apply Int32.toBitVec_inj.1
  show BitVec.ofNat 32 a ^^^ BitVec.ofNat 32 b = BitVec.ofNat 32 (a ^^^ b)
  apply BitVec.eq_of_getLsbD_eq
  intro i hi
  simp [hi]
theorem nx_cnt : ∀ j : Fin 32, (UInt32.ofNat j.val &&& Int32.toUInt32 31).toNat % 32 = j.val := by decide +kernel
theorem nx_ush {k j : Nat} (hk : k < 65536) (hj : j < 32) : ((nI k).toUInt32 >>> ((nI j).toUInt32 &&& Int32.toUInt32 31)).toInt32 = nI (k >>> j) := by
  have hs : k >>> j ≤ k := by
    rw [Nat.shiftRight_eq_div_pow]
    exact Nat.div_le_self _ _
  have e2 : UInt32.ofNat k >>> (UInt32.ofNat j &&& Int32.toUInt32 31) = UInt32.ofNat (k >>> j) := by
    apply UInt32.toNat_inj.1
    have h1 : (UInt32.ofNat k).toNat = k := Nat.mod_eq_of_lt (by omega)
    have h2 : (UInt32.ofNat (k >>> j)).toNat = k >>> j := Nat.mod_eq_of_lt (by omega)
    rw [UInt32.toNat_shiftRight, nx_cnt ⟨j, hj⟩, h1, h2]
  show (UInt32.ofNat k >>> (UInt32.ofNat j &&& Int32.toUInt32 31)).toInt32 = _
  rw [e2]
  rfl
/-! sets of persons: numbers below 4096, by their bits -/
def bsN (P : Nat → Bool) : Nat → Nat
  | 0 => 0
  | n + 1 => bsN P n ||| (if P n then 2 ^ n else 0)
def cnt (P : Nat → Bool) : Nat → Nat
  | 0 => 0
  | n + 1 => cnt P n + (if P n then 1 else 0)
/-- the set of those below n with P, as a number -/
def bset (n : Nat) (P : Nat → Bool) : Int32 := nI (bsN P n)
theorem bsN_bit (P : Nat → Bool) (n p : Nat) : (bsN P n).testBit p = (decide (p < n) && P p) := by
  induction n with
  | zero => simp [bsN]
  | succ n ih =>
    rw [bsN, Nat.testBit_or, ih]
    by_cases h : p = n
    · subst h
      by_cases hp : P p <;> simp [hp, Nat.testBit_two_pow]
    · by_cases hp : P n
      · have h2 : ¬ n = p := fun q => h q.symm
        rw [if_pos hp, Nat.testBit_two_pow]
        by_cases h3 : p < n
        · simp [h3, h2, Nat.lt_succ_of_lt h3]
        · have h4 : ¬ p < n + 1 := by omega
          simp [h3, h2, h4]
      · rw [if_neg hp]
        by_cases h3 : p < n
        · simp [h3, Nat.lt_succ_of_lt h3]
        · have h4 : ¬ p < n + 1 := by omega
          simp [h3, h4]
theorem bsN_lt (P : Nat → Bool) (n : Nat) : bsN P n < 2 ^ n := by
  apply Nat.lt_pow_two_of_testBit
  intro i hi
  rw [bsN_bit]
  simp [Nat.not_lt.mpr hi]
theorem bsN_lt' (P : Nat → Bool) {n : Nat} (h : n ≤ 12) : bsN P n < 4096 := Nat.lt_of_lt_of_le (bsN_lt P n) (Nat.pow_le_pow_right (by omega) h)
theorem bt_nI {s i : Nat} (h : i < 32) : bt (nI s) i = s.testBit i := by
  show (BitVec.ofNat 32 s).getLsbD i = _
  rw [BitVec.getLsbD_ofNat]
  simp [h]
theorem bt_bset (n : Nat) (P : Nat → Bool) {i : Nat} (h : i < 32) : bt (bset n P) i = (decide (i < n) && P i) := by
  rw [bset, bt_nI h, bsN_bit]
theorem bset_c {n : Nat} {P Q : Nat → Bool} (h : ∀ p, p < n → P p = Q p) : bset n P = bset n Q := by
  apply b_ext
  intro i hi
  rw [bt_bset n P hi, bt_bset n Q hi]
  by_cases h1 : i < n
  · rw [h i h1]
  · simp [h1]
theorem one_shl : ∀ p, p < 32 → ∀ i, i < 32 → bt ((1 : Int32) <<< (nI p &&& 31)) i = decide (i = p) := by
  intro p hp i hi
  rw [b_shl p hp 1 hi]
  have h1 : ∀ j, j < 32 → bt 1 j = decide (j = 0) := by decide +kernel
  by_cases h : p ≤ i
  · rw [h1 (i - p) (by omega)]
    simp [h]
    omega
  · simp [h]
    omega
theorem bset_s (n : Nat) (P : Nat → Bool) (hn : n < 32) : bset (n + 1) P = if P n then bset n P ||| ((1 : Int32) <<< (nI n &&& 31)) else bset n P := by
  apply b_ext
  intro i hi
  rw [bt_bset (n + 1) P hi]
  by_cases hp : P n
  · rw [if_pos hp, b_or, bt_bset n P hi, one_shl n hn i hi]
    by_cases h : i = n
    · subst h; simp [hp]
    · have : decide (i < n + 1) = decide (i < n) := by simp; omega
      simp [h, this]
  · rw [if_neg hp, bt_bset n P hi]
    by_cases h : i = n
    · subst h; simp [hp]
    · have : decide (i < n + 1) = decide (i < n) := by simp; omega
      rw [this]
theorem bset_0 (P : Nat → Bool) : bset 0 P = 0 := rfl
theorem bset_and (n : Nat) (P Q : Nat → Bool) : bset n P &&& bset n Q = bset n (fun p => P p && Q p) := by
  apply b_ext
  intro i hi
  rw [b_and, bt_bset n P hi, bt_bset n Q hi, bt_bset n _ hi]
  by_cases h : i < n <;> simp [h]
theorem bset_add {n p : Nat} (P : Nat → Bool) (hp : p < n) (hn : n < 32) : bset n P ||| ((1 : Int32) <<< (nI p &&& 31)) = bset n (fun q => P q || decide (q = p)) := by
  apply b_ext
  intro i hi
  rw [b_or, bt_bset n P hi, bt_bset n _ hi, one_shl p (by omega) i hi]
  by_cases h : i < n
  · simp [h]
  · have : ¬ i = p := by omega
    simp [h, this]
theorem bset_sub {n p : Nat} (P : Nat → Bool) (hp : p < 32) : bset n P &&& (((1 : Int32) <<< (nI p &&& 31)) ^^^ (-1)) = bset n (fun q => P q && !decide (q = p)) := by
  apply b_ext
  intro i hi
  rw [b_and, b_xor, bt_bset n P hi, bt_bset n _ hi, one_shl p hp i hi, b_m1 i hi]
  by_cases h : i < n <;> simp [h]
/-- the test of a bit -/
def tb (x : Int32) (p : Nat) : Int32 := (x >>> (nI p &&& 31)) &&& 1
theorem tb_bt (x : Int32) {p : Nat} (hp : p < 31) : tb x p = if bt x p then 1 else 0 := by
  apply b_ext
  intro i hi
  have h1 : ∀ j, j < 32 → bt 1 j = decide (j = 0) := by decide +kernel
  rw [tb, b_and, b_sshr p (by omega) x hi, h1 i hi]
  by_cases h : i = 0
  · subst h
    by_cases hb : bt x p
    · rw [if_pos hb, h1 0 (by omega)]; simp [hb]; omega
    · rw [if_neg hb, b_0]; simp [hb]; omega
  · by_cases hb : bt x p
    · rw [if_pos hb, h1 i hi]; simp [h]
    · rw [if_neg hb, b_0]; simp [h]
theorem tb_bset (n : Nat) (P : Nat → Bool) {p : Nat} (hp : p < 31) : tb (bset n P) p = if decide (p < n) && P p then 1 else 0 := by
  rw [tb_bt _ hp, bt_bset n P (by omega)]
theorem tb_01 (x : Int32) {p : Nat} (hp : p < 31) : tb x p = 0 ∨ tb x p = 1 := by
  rw [tb_bt x hp]; split <;> simp
theorem bset_eq0 {n : Nat} {P : Nat → Bool} (hn : n ≤ 12) : bset n P = 0 ↔ ∀ p, p < n → P p = false := by
  constructor
  · intro h p hp
    have h1 := bt_bset n P (i := p) (by omega)
    rw [h, b_0] at h1
    simpa [hp] using h1.symm
  · intro h
    apply b_ext
    intro i hi
    rw [bt_bset n P hi, b_0]
    by_cases h1 : i < n
    · simp [h i h1]
    · simp [h1]
/-! how many -/
theorem cnt_c {P Q : Nat → Bool} {n : Nat} (h : ∀ p, p < n → P p = Q p) : cnt P n = cnt Q n := by
  induction n with
  | zero => rfl
  | succ n ih => rw [cnt, cnt, ih (fun p hp => h p (by omega)), h n (by omega)]
theorem cnt_le (P : Nat → Bool) (n : Nat) : cnt P n ≤ n := by
  induction n with
  | zero => exact Nat.le_refl _
  | succ n ih => rw [cnt]; split <;> omega
theorem cnt_0 {P : Nat → Bool} {n : Nat} : cnt P n = 0 ↔ ∀ p, p < n → P p = false := by
  induction n with
  | zero => simp [cnt]
  | succ n ih =>
    rw [cnt]
    constructor
    · intro h p hp
      have h1 : cnt P n = 0 := by omega
      rcases Nat.lt_or_ge p n with h2 | h2
      · exact ih.mp h1 p h2
      · have : p = n := by omega
        subst this
        by_cases hP : P p
        · simp [hP] at h
        · simpa using hP
    · intro h
      rw [ih.mpr (fun p hp => h p (by omega)), h n (by omega)]
      rfl
/-- bits of a number, counted from the low end -/
def popN (s : Nat) : Nat → Nat
  | 0 => 0
  | k + 1 => popN s k + s / 2 ^ k % 2
def natB1 (s : Nat) : Nat := s - ((s >>> 1) &&& 1431655765)
def natB2 (s : Nat) : Nat := (s &&& 858993459) + ((s >>> 2) &&& 858993459)
def natB3 (s : Nat) : Nat := (s + (s >>> 4)) &&& 252645135
def natB4 (s : Nat) : Nat := s + (s >>> 8)
def natB5 (s : Nat) : Nat := s + (s >>> 16)
def natB (s : Nat) : Nat := natB5 (natB4 (natB3 (natB2 (natB1 s)))) &&& 63
theorem popN_cnt (P : Nat → Bool) (n : Nat) : ∀ k, k ≤ n → popN (bsN P n) k = cnt P k := by
  intro k
  induction k with
  | zero => intro _; rfl
  | succ k ih =>
    intro hk
    rw [popN, cnt, ih (by omega)]
    have h1 := bsN_bit P n k
    rw [Nat.testBit_eq_decide_div_mod_eq] at h1
    have h2 : decide (k < n) = true := by simp; omega
    rw [h2, Bool.true_and] at h1
    by_cases hP : P k
    · rw [hP] at h1
      have := of_decide_eq_true h1
      rw [this, if_pos hP]
    · have hPf : P k = false := by simpa using hP
      rw [hPf] at h1
      have := of_decide_eq_false h1
      rw [if_neg hP]
      omega
theorem popN_more (s : Nat) (n : Nat) (h : s < 2 ^ n) : ∀ k, popN s (n + k) = popN s n := by
  intro k
  induction k with
  | zero => rfl
  | succ k ih =>
    rw [← Nat.add_assoc, popN, ih]
    have : s / 2 ^ (n + k) = 0 := Nat.div_eq_of_lt (Nat.lt_of_lt_of_le h (Nat.pow_le_pow_right (by omega) (by omega)))
    rw [this]
    rfl
theorem natB_ok : ∀ a, a < 64 → ∀ b, b < 64 → natB (64 * a + b) = popN (64 * a + b) 12 := by decide +kernel
theorem natB_pop {s : Nat} (h : s < 4096) : natB s = popN s 12 := by
  have h1 := natB_ok (s / 64) (by omega) (s % 64) (by omega)
  have h2 : 64 * (s / 64) + s % 64 = s := Nat.div_add_mod s 64
  rw [h2] at h1
  exact h1
theorem shr_le (s k : Nat) : s >>> k ≤ s := by rw [Nat.shiftRight_eq_div_pow]; exact Nat.div_le_self _ _
def ushN (x : Int32) (k : Int32) : Int32 := (x.toUInt32 >>> (k.toUInt32 &&& Int32.toUInt32 31)).toInt32
theorem ushN_nI {k j : Nat} (hk : k < 65536) (hj : j < 32) : ushN (nI k) (nI j) = nI (k >>> j) := nx_ush hk hj
theorem bitN {s : Nat} (h : s < 4096) : bitC (nI s) = nI (natB s) := by
  have a1 : bc1 (nI s) = nI (natB1 s) := by
    have e : ush (nI s) 1 = nI (s >>> 1) := nx_ush (k := s) (j := 1) (by omega) (by omega)
    rw [bc1, e, show (1431655765 : Int32) = nI 1431655765 from rfl, nx_and, pk_sub (Nat.le_trans Nat.and_le_left (shr_le s 1))]; rfl
  have b1 : natB1 s < 4096 := by unfold natB1; omega
  have a2 : bc2 (nI (natB1 s)) = nI (natB2 (natB1 s)) := by
    have e : ush (nI (natB1 s)) 2 = nI (natB1 s >>> 2) := nx_ush (k := natB1 s) (j := 2) (by omega) (by omega)
    rw [bc2, e, show (858993459 : Int32) = nI 858993459 from rfl, nx_and, nx_and, nI_add]; rfl
  have b2 : natB2 (natB1 s) < 8192 := by
    unfold natB2
    have := Nat.le_trans (Nat.and_le_left (n := natB1 s) (m := 858993459)) (Nat.le_refl _)
    have h3 := Nat.le_trans (Nat.and_le_left (n := natB1 s >>> 2) (m := 858993459)) (shr_le (natB1 s) 2)
    omega
  have a3 : bc3 (nI (natB2 (natB1 s))) = nI (natB3 (natB2 (natB1 s))) := by
    have e : ush (nI (natB2 (natB1 s))) 4 = nI (natB2 (natB1 s) >>> 4) := nx_ush (k := natB2 (natB1 s)) (j := 4) (by omega) (by omega)
    rw [bc3, e, show (252645135 : Int32) = nI 252645135 from rfl, nI_add, nx_and]; rfl
  have b3 : natB3 (natB2 (natB1 s)) < 16384 := by
    unfold natB3
    have h3 := Nat.and_le_left (n := natB2 (natB1 s) + natB2 (natB1 s) >>> 4) (m := 252645135)
    have h4 := shr_le (natB2 (natB1 s)) 4
    omega
  have a4 : bc4 (nI (natB3 (natB2 (natB1 s)))) = nI (natB4 (natB3 (natB2 (natB1 s)))) := by
    have e : ush (nI (natB3 (natB2 (natB1 s)))) 8 = nI (natB3 (natB2 (natB1 s)) >>> 8) := nx_ush (k := natB3 (natB2 (natB1 s))) (j := 8) (by omega) (by omega)
    rw [bc4, e, nI_add]; rfl
  have b4 : natB4 (natB3 (natB2 (natB1 s))) < 32768 := by
    unfold natB4
    have h4 := shr_le (natB3 (natB2 (natB1 s))) 8
    omega
  have a5 : bc5 (nI (natB4 (natB3 (natB2 (natB1 s))))) = nI (natB5 (natB4 (natB3 (natB2 (natB1 s))))) := by
    have e : ush (nI (natB4 (natB3 (natB2 (natB1 s))))) 16 = nI (natB4 (natB3 (natB2 (natB1 s))) >>> 16) := nx_ush (k := natB4 (natB3 (natB2 (natB1 s)))) (j := 16) (by omega) (by omega)
    rw [bc5, e, nI_add]; rfl
  rw [bitC, a1, a2, a3, a4, a5, show (63 : Int32) = nI 63 from rfl, nx_and]; rfl
/-- Integer.bitCount of a set of at most twelve -/
theorem bitC_bset (P : Nat → Bool) {n : Nat} (h : n ≤ 12) : bitC (bset n P) = nI (cnt P n) := by
  have hl := bsN_lt' P h
  rw [bset, bitN hl, natB_pop hl]
  have h1 := popN_more (bsN P n) n (bsN_lt P n) (12 - n)
  rw [show n + (12 - n) = 12 from by omega] at h1
  rw [h1, popN_cnt P n n (Nat.le_refl n)]
theorem bset_t {n : Nat} {P : Nat → Bool} (hn : n < 32) (h : P n = true) : bset n P ||| ((1 : Int32) <<< (nI n &&& 31)) = bset (n + 1) P := by rw [bset_s n P hn, if_pos h]
theorem bset_f {n : Nat} {P : Nat → Bool} (hn : n < 32) (h : P n = false) : bset n P = bset (n + 1) P := by rw [bset_s n P hn, if_neg (by simp [h])]
theorem cnt_t {n : Nat} {P : Nat → Bool} (h : P n = true) : nI (cnt P n) + 1 = nI (cnt P (n + 1)) := by rw [cnt, if_pos h]; exact nI_1 _
theorem cnt_f {n : Nat} {P : Nat → Bool} (h : P n = false) : cnt P n = cnt P (n + 1) := by rw [cnt, if_neg (by simp [h])]; rfl
