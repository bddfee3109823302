/-! what a month keeps -/
theorem Ok.rank {K : Mm} {p : Nat} {v : Int32} (hO : Ok K) (hp : p < 12) (h : -1 ≤ v ∧ v ≤ 7) : Ok (up2 K 2 p v) := hO.up (Or.inl (by omega)) hp nofun (fun _ => h) nofun nofun nofun nofun nofun nofun
theorem Ok.fld0 {K : Mm} {k : Nat} {v : Int32} (hO : Ok K) (hk : ¬ k = 0) (h4 : k < 4) : Ok (up2 K 0 k v) := hO.up (Or.inr hk) h4 nofun nofun nofun nofun nofun nofun nofun nofun
theorem Ok.gift {K : Mm} {p : Nat} {v : Int32} (hO : Ok K) (hp : p < 12) : Ok (up2 K 7 p v) := hO.up (Or.inl (by omega)) hp nofun nofun nofun nofun nofun nofun nofun nofun
theorem Ok.house {K : Mm} {p : Nat} {v : Int32} (hO : Ok K) (hp : p < 12) : Ok (up2 K 4 p v) := hO.up (Or.inl (by omega)) hp nofun nofun nofun nofun nofun nofun nofun nofun
theorem Ok.grudge {K : Mm} {p : Nat} {v : Int32} (hO : Ok K) (hp : p < 12) (h : -1 ≤ v ∧ v < K 0 0) : Ok (up2 K 6 p v) := hO.up (Or.inl (by omega)) hp nofun nofun nofun nofun (fun _ => h) nofun nofun nofun
theorem Ok.gold {K : Mm} {p : Nat} {v : Int32} (hO : Ok K) (hp : p < 12) (h : 0 ≤ v ∧ v ≤ 9999) : Ok (up2 K 5 p v) := hO.up (Or.inl (by omega)) hp nofun nofun nofun (fun _ => h) nofun nofun nofun nofun
theorem Ok.age {K : Mm} {p : Nat} {v : Int32} (hO : Ok K) (hp : p < 12) (h : 0 ≤ v ∧ v ≤ 99) : Ok (up2 K 3 p v) := hO.up (Or.inl (by omega)) hp nofun nofun (fun _ => h) nofun nofun nofun nofun nofun
theorem Ok.kind {K : Mm} {p : Nat} {v : Int32} (hO : Ok K) (hp : p < 12) (h : 0 ≤ v ∧ v ≤ 6) : Ok (up2 K 1 p v) := hO.up (Or.inl (by omega)) hp (fun _ => h) nofun nofun nofun nofun nofun nofun nofun
theorem Ok.seats {K : Mm} {p : Nat} {v : Int32} (hO : Ok K) (hp : p < 8) (h : 0 ≤ v ∧ v ≤ 4) : Ok (up2 K 8 p v) := hO.up (Or.inl (by omega)) hp nofun nofun nofun nofun nofun (fun _ => h) nofun nofun
theorem Ok.spot {K : Mm} {p : Nat} {v : Int32} (hO : Ok K) (hp : p < 10) (h : -1 ≤ v ∧ v < K 0 0) : Ok (up2 K 10 p v) := hO.up (Or.inl (by omega)) hp nofun nofun nofun nofun nofun nofun nofun (fun _ => h)
theorem Ok.laws {K : Mm} {p : Nat} {v : Int32} (hO : Ok K) (hp : p < 3) (h : p = 0 → 0 ≤ v ∧ v ≤ 2) : Ok (up2 K 9 p v) := hO.up (Or.inl (by omega)) hp nofun nofun nofun nofun nofun nofun (fun _ => h) nofun
/-- rows steps by steps -/
theorem outK_0 (K : Mm) (S : Nat → Bool) : outK K S 0 = K := by funext j p; simp [outK]
theorem outK_t {K : Mm} {S : Nat → Bool} {i : Nat} (h : S i = true) : up2 (outK K S i) 2 i (-1) = outK K S (i + 1) := by
  funext j p
  rw [up2_up]
  unfold outK
  by_cases hj : j = 2
  · subst hj
    by_cases hp : p = i
    · subst hp; simp [h]
    · have h1 : (p < i + 1) = (p < i) := by simp; omega
      simp [hp, h1]
  · simp [hj]
theorem outK_f {K : Mm} {S : Nat → Bool} {i : Nat} (h : S i = false) : outK K S i = outK K S (i + 1) := by
  funext j p
  unfold outK
  by_cases hj : j = 2
  · subst hj
    by_cases hp : p = i
    · subst hp; simp [h]
    · have h1 : (p < i + 1) = (p < i) := by simp; omega
      simp [h1]
  · simp [hj]
theorem outK_e {K : Mm} {S : Nat → Bool} {i n : Nat} (h : ∀ p, p < n → S p = false) (hi : i ≤ n) : outK K S i = outK K S n := by
  funext j p
  unfold outK
  by_cases h1 : p < n
  · simp [h p h1]
  · have h2 : ¬ p < i := by omega
    simp [h1, h2]
theorem nn_out (K : Mm) (S : Nat → Bool) (i : Nat) : nn (outK K S i) = nn K := rfl
theorem Ok_out {K : Mm} {S : Nat → Bool} (hO : Ok K) : ∀ i, i ≤ 12 → Ok (outK K S i) := by
  intro i
  induction i with
  | zero => intro _; rw [outK_0]; exact hO
  | succ i ih =>
    intro hi
    by_cases h : S i = true
    · rw [← outK_t h]; exact (ih (by omega)).rank (by omega) ⟨by decide, by decide⟩
    · rw [← outK_f (by simpa using h)]; exact ih (by omega)
theorem pyK_0 (K : Mm) : pyK K 0 = K := by funext j p; simp [pyK]
theorem pyK_t {K : Mm} {i : Nat} (h : ¬ K 2 i = -1) : up2 (pyK K i) 5 i (pyV (K 5 i) (K 2 i)) = pyK K (i + 1) := by
  funext j p
  rw [up2_up]
  unfold pyK
  by_cases hj : j = 5
  · subst hj
    by_cases hp : p = i
    · subst hp; simp [h]
    · have h1 : (p < i + 1) = (p < i) := by simp; omega
      simp [hp, h1]
  · simp [hj]
theorem pyK_f {K : Mm} {i : Nat} (h : K 2 i = -1) : pyK K i = pyK K (i + 1) := by
  funext j p
  unfold pyK
  by_cases hj : j = 5
  · subst hj
    by_cases hp : p = i
    · subst hp; simp [h]
    · have h1 : (p < i + 1) = (p < i) := by simp; omega
      simp [h1]
  · simp [hj]
theorem pyK_5 {K : Mm} {i : Nat} : pyK K i 5 i = K 5 i := by simp [pyK]
theorem pyK_2 {K : Mm} {i p : Nat} : pyK K i 2 p = K 2 p := by simp [pyK]
theorem agK_0 (K : Mm) : agK K 0 = K := by funext j p; simp [agK]
theorem agK_t {K : Mm} {i : Nat} : up2 (agK K i) 3 i (if K 3 i + 1 < 99 then K 3 i + 1 else 99) = agK K (i + 1) := by
  funext j p
  rw [up2_up]
  unfold agK
  by_cases hj : j = 3
  · subst hj
    by_cases hp : p = i
    · subst hp; simp
    · have h1 : (p < i + 1) = (p < i) := by simp; omega
      simp [hp, h1]
  · simp [hj]
theorem agK_3 {K : Mm} {i : Nat} : agK K i 3 i = K 3 i := by simp [agK]
theorem i_nat {x M : Int32} {n : Nat} (hM : M.toInt = n) (h : 0 ≤ x ∧ x ≤ M) : ∃ k, k ≤ n ∧ x = nI k := nI_of2 hM (fun h9 => Int32.not_le.mpr h9 h.1) h.2
theorem nI_rg {k n : Nat} (h : k ≤ n) (hn : n < 2 ^ 31) : 0 ≤ nI k ∧ nI k ≤ nI n := ⟨nI_pos' (by omega), nI_le h hn⟩
theorem pyV_rg {g r : Int32} (hg : 0 ≤ g ∧ g ≤ 9999) (hr : -1 ≤ r ∧ r ≤ 7) (h : ¬ r = -1) : 0 ≤ pyV g r ∧ pyV g r ≤ 9999 := by
  obtain ⟨a, ha, rfl⟩ := i_nat (M := 9999) (n := 9999) (by decide) hg
  obtain ⟨b, hb, rfl⟩ := i_nat (M := 7) (n := 7) (by decide) ⟨Int32.not_lt.mp (ge0 hr.1 h), hr.2⟩
  have h1 : nI a + 8 - nI b = nI (a + 8 - b) := by
    rw [show nI a + 8 = nI (a + 8) from nI_add a 8, pk_sub (by omega)]
  unfold pyV
  rw [h1]
  split
  · next h2 =>
    have h3 : a + 8 - b < 9999 := (nI_ltI (b := 9999) (by omega) (by omega)).mp h2
    exact nI_rg (n := 9999) (by omega) (by omega)
  · exact ⟨by decide, by decide⟩
theorem ag_rg {a : Int32} (h : 0 ≤ a ∧ a ≤ 99) : 0 ≤ (if a + 1 < 99 then a + 1 else 99) ∧ (if a + 1 < 99 then a + 1 else 99) ≤ 99 := by
  obtain ⟨k, hk, rfl⟩ := i_nat (M := 99) (n := 99) (by decide) h
  rw [show nI k + 1 = nI (k + 1) from nI_add k 1]
  split
  · next h2 =>
    have h3 : k + 1 < 99 := (nI_ltI (b := 99) (by omega) (by omega)).mp h2
    exact nI_rg (n := 99) (by omega) (by omega)
  · exact ⟨by decide, by decide⟩
theorem Ok_py {K : Mm} (hO : Ok K) : ∀ i, i ≤ nn K → Ok (pyK K i) := by
  intro i
  have h12 := hO.1.2
  induction i with
  | zero => intro _; rw [pyK_0]; exact hO
  | succ i ih =>
    intro hi
    by_cases h : K 2 i = -1
    · rw [← pyK_f h]; exact ih (by omega)
    · rw [← pyK_t h]
      obtain ⟨-, h2, -, h5, -⟩ := hO.2.1 i (by omega)
      exact (ih (by omega)).gold (by omega) (pyV_rg h5 h2 h)
theorem Ok_ag {K : Mm} (hO : Ok K) : ∀ i, i ≤ nn K → Ok (agK K i) := by
  intro i
  have h12 := hO.1.2
  induction i with
  | zero => intro _; rw [agK_0]; exact hO
  | succ i ih =>
    intro hi
    rw [← agK_t]
    exact (ih (by omega)).age (by omega) (ag_rg (hO.2.1 i (by omega)).2.2.1)
theorem nn_py (K : Mm) (i : Nat) : nn (pyK K i) = nn K := rfl
theorem nn_ag (K : Mm) (i : Nat) : nn (agK K i) = nn K := rfl
theorem clamp_hr {K : Mm} {S : Nat → Bool} (h12 : nn K ≤ 12) (h : ¬ hrS K S = -1) : (hrS K S).toNatClampNeg < nn K ∧ hrS K S = nI (hrS K S).toNatClampNeg ∧ S (hrS K S).toNatClampNeg = true := by
  obtain ⟨b, h1, h2, h3⟩ := (hrS_or K S).resolve_left h
  rw [h2, nI_clamp (by omega)]
  exact ⟨h1, rfl, h3⟩
theorem fl_keep {r : Nat} (hr : r < 8) : ∀ (f : Nat) (K : Mm), Ok K → Ok (flR r f K) ∧ nn (flR r f K) = nn K := by
  intro f
  induction f with
  | zero => intro K hO; exact ⟨hO, rfl⟩
  | succ f ih =>
    intro K hO
    rw [flR]
    split
    · next h =>
      have h1 := clamp_hr hO.1.2 h.2
      have h12 := hO.1.2
      obtain ⟨a, b⟩ := ih _ (hO.rank (v := nI r) (p := (hrS K (inP K (nI (r + 1)))).toNatClampNeg) (by omega) ⟨Int32.le_trans (by decide) (nI_pos' (by omega)), nI_le (b := 7) (by omega) (by omega)⟩)
      exact ⟨a, b.trans (nn_up (Or.inl (by omega)))⟩
    · exact ⟨hO, rfl⟩
theorem fa_keep : ∀ (r : Nat), r ≤ 7 → ∀ (K : Mm), Ok K → Ok (flA r K) ∧ nn (flA r K) = nn K := by
  intro r
  induction r with
  | zero => intro _ K hO; exact ⟨hO, rfl⟩
  | succ r ih =>
    intro h K hO
    obtain ⟨a, b⟩ := ih (by omega) K hO
    obtain ⟨c, d⟩ := fl_keep (r := r) (by omega) 13 _ a
    exact ⟨c, d.trans b⟩
theorem mo1_keep {K : Mm} (hO : Ok K) : Ok (mo1 K) ∧ nn (mo1 K) = nn K := ⟨(Ok_out hO _ hO.1.2).fld0 (by omega) (by omega), nn_up (Or.inr (by omega))⟩
theorem mo2_keep {K : Mm} (hO : Ok K) : Ok (mo2 K) ∧ nn (mo2 K) = nn K := by
  obtain ⟨a, b⟩ := mo1_keep hO
  obtain ⟨c, d⟩ := fa_keep 7 (by omega) _ a
  have e : nn (flA 7 (mo1 K)) = nn K := d.trans b
  unfold mo2
  generalize flA 7 (mo1 K) = X at c e ⊢
  exact ⟨Ok_py c _ (Nat.le_of_eq e.symm), (nn_py X _).trans e⟩
theorem mo3_keep {K : Mm} (hO : Ok K) : Ok (mo3 K) ∧ nn (mo3 K) = nn K := by
  unfold mo3
  split
  · exact ⟨Ok_ag hO _ (Nat.le_refl _), rfl⟩
  · exact ⟨hO, rfl⟩
theorem mo_keep {K : Mm} (hO : Ok K) : Ok (mo K) ∧ nn (mo K) = nn K := by
  obtain ⟨a, b⟩ := mo2_keep hO
  obtain ⟨c, d⟩ := mo3_keep a
  exact ⟨c.fld0 (by omega) (by omega), (nn_up (Or.inr (by omega))).trans (d.trans b)⟩
theorem mos_keep {K : Mm} (hO : Ok K) : ∀ n, Ok (mos n K) ∧ nn (mos n K) = nn K := by
  intro n
  induction n with
  | zero => exact ⟨hO, rfl⟩
  | succ n ih => obtain ⟨a, b⟩ := mo_keep ih.1; exact ⟨a, b.trans ih.2⟩
theorem mos_S (n : Nat) (K : Mm) : mos (n + 1) K = mos n (mo K) := by
  induction n with
  | zero => rfl
  | succ n ih => rw [mos, ih, mos]
/-- one more, one less -/
theorem cnt_add {P Q : Nat → Bool} {h n : Nat} (hn : h < n) (hP : P h = false) (hQ : Q h = true) (hq : ∀ q, ¬ q = h → Q q = P q) : cnt Q n = cnt P n + 1 := by
  induction n with
  | zero => omega
  | succ n ih =>
    rw [cnt, cnt]
    by_cases hh : h = n
    · subst hh
      rw [hP, hQ, cnt_c (P := Q) (Q := P) (fun p hp => hq p (by omega))]
      simp
    · rw [ih (by omega), hq n (fun q => hh q.symm)]
      omega
theorem cnt_mv {K : Mm} {h r : Nat} (hn : h < nn K) (hr : r < 8) (hh : K 2 h = nI (r + 1)) : cnt (inP (up2 K 2 h (nI r)) (nI r)) (nn K) = cnt (inP K (nI r)) (nn K) + 1 ∧ cnt (inP K (nI (r + 1))) (nn K) = cnt (inP (up2 K 2 h (nI r)) (nI (r + 1))) (nn K) + 1 := by
  have h1 : ¬ nI (r + 1) = nI r := nI_ne (by omega) (by omega) (by omega)
  constructor
  · refine cnt_add hn (by simp [inP, hh, h1]) (by simp [inP, up2_up]) (fun q hq => by simp [inP, up2_up, hq])
  · refine cnt_add hn (by simp [inP, up2_up]; exact fun q => h1 q.symm) (by simp [inP, hh]) (fun q hq => by simp [inP, up2_up, hq])
