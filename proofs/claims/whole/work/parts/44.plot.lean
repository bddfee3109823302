/-! THE REFERENCE'S SCAN OF ALL SETS: the best so far -/
def plB (P : Nat → Bool) (pop : Nat → Nat) : Nat → Int32
  | 0 => -1
  | i + 1 => if P i = true ∧ (plB P pop i = -1 ∨ pop i < pop (cl (plB P pop i))) then nI i else plB P pop i
theorem plB_spec (P : Nat → Bool) (pop : Nat → Nat) : ∀ i, i ≤ 4096 → (plB P pop i = -1 ∧ ∀ b, b < i → P b = false) ∨ ∃ b, b < i ∧ plB P pop i = nI b ∧ P b = true ∧ (∀ c, c < i → P c = true → pop b ≤ pop c) ∧ ∀ c, c < b → P c = true → pop b < pop c := by
  intro i
  induction i with
  | zero => intro _; exact Or.inl ⟨rfl, fun b h => absurd h (by omega)⟩
  | succ i ih =>
    intro hi
    rw [plB]
    rcases ih (by omega) with ⟨h1, h2⟩ | ⟨b, h1, h2, h3, h4, h5⟩
    · by_cases hp : P i = true
      · rw [if_pos ⟨hp, Or.inl h1⟩]
        refine Or.inr ⟨i, by omega, rfl, hp, fun c hc hpc => ?_, fun c hc hpc => ?_⟩
        · by_cases e : c = i
          · rw [e]; exact Nat.le_refl _
          · rw [h2 c (by omega)] at hpc; exact absurd hpc (by decide)
        · rw [h2 c hc] at hpc; exact absurd hpc (by decide)
      · rw [if_neg (fun q => hp q.1)]
        refine Or.inl ⟨h1, fun b hb => ?_⟩
        by_cases e : b = i
        · rw [e]; simpa using hp
        · exact h2 b (by omega)
    · have hc : cl (plB P pop i) = b := by rw [h2]; exact nI_clamp (by omega)
      have hm : ¬ plB P pop i = -1 := by rw [h2]; exact nI_m1 (by omega)
      rw [hc]
      by_cases hp : P i = true ∧ pop i < pop b
      · rw [if_pos ⟨hp.1, Or.inr hp.2⟩]
        refine Or.inr ⟨i, by omega, rfl, hp.1, fun c hc hpc => ?_, fun c hc hpc => ?_⟩
        · by_cases e : c = i
          · rw [e]; exact Nat.le_refl _
          · exact Nat.le_trans (Nat.le_of_lt hp.2) (h4 c (by omega) hpc)
        · exact Nat.lt_of_lt_of_le hp.2 (h4 c hc hpc)
      · rw [if_neg (fun q => q.2.elim hm (fun r => hp ⟨q.1, r⟩))]
        refine Or.inr ⟨b, by omega, h2, h3, fun c hc hpc => ?_, h5⟩
        by_cases e : c = i
        · subst e
          rcases Nat.lt_or_ge (pop c) (pop b) with q | q
          · exact absurd ⟨hpc, q⟩ hp
          · exact q
        · exact h4 c (by omega) hpc
theorem b_bsN {s n : Nat} (h : s < 2 ^ n) : bsN (fun q => s.testBit q) n = s := by
  apply Nat.eq_of_testBit_eq
  intro i
  rw [bsN_bit]
  by_cases hi : i < n
  · simp [hi]
  · have : s.testBit i = false := Nat.testBit_lt_two_pow (Nat.lt_of_lt_of_le h (Nat.pow_le_pow_right (by omega) (by omega)))
    simp [hi, this]
theorem pop_cnt {s n : Nat} (h : s < 2 ^ n) (hn : n ≤ 12) : popN s 12 = cnt (fun q => s.testBit q) n := by
  rw [show 12 = n + (12 - n) by omega, popN_more s n h]
  have e := popN_cnt (fun q => s.testBit q) n n (Nat.le_refl _)
  rwa [b_bsN h] at e
theorem cnt_mono {P Q : Nat → Bool} : ∀ (n : Nat), (∀ q, q < n → P q = true → Q q = true) → cnt P n ≤ cnt Q n := by
  intro n
  induction n with
  | zero => intro _; exact Nat.le_refl _
  | succ n ih =>
    intro h
    have a := ih (fun q hq => h q (by omega))
    have b := h n (by omega)
    rw [cnt, cnt]
    by_cases hp : P n = true
    · rw [if_pos hp, if_pos (b hp)]; omega
    · rw [if_neg hp]; split <;> omega
theorem plS_bit {K : Mm} {p s : Nat} (h12 : nn K ≤ 12) (hs : s < 4096) (h : plS K p s = true) : ∀ q, s.testBit q = true → q < nn K ∧ plP K p q = true := by
  intro q hq
  have h1 := of_decide_eq_true h
  have hq32 : q < 32 := by
    rcases Nat.lt_or_ge q 32 with x | x
    · exact x
    · have : s.testBit q = false := Nat.testBit_lt_two_pow (Nat.lt_of_lt_of_le hs (Nat.le_trans (by decide : 4096 ≤ 2 ^ 32) (Nat.pow_le_pow_right (by omega) x)))
      rw [this] at hq; exact absurd hq (by decide)
  have h2 : bt (nI s &&& (bset (nn K) (plP K p) ^^^ (-1))) q = false := by rw [h1]; exact b_0 q
  rw [b_and, b_xor, b_m1 q hq32] at h2
  have e1 : ∀ x, bt (nI x) q = x.testBit q := by
    intro x
    show (BitVec.ofNat 32 x).getLsbD q = _
    rw [BitVec.getLsbD_ofNat]
    simp [hq32]
  rw [bset, e1, e1, hq, bsN_bit] at h2
  by_cases a : q < nn K
  · refine ⟨a, ?_⟩
    cases b : plP K p q
    · simp [a, b] at h2
    · rfl
  · simp [a] at h2
theorem plS_le {K : Mm} {p s : Nat} (h12 : nn K ≤ 12) (hs : s < 4096) (h : plS K p s = true) : s ≤ plA K p := by
  have hb := plS_bit h12 hs h
  have e : s &&& plA K p = s := by
    apply Nat.eq_of_testBit_eq
    intro q
    rw [Nat.testBit_and]
    unfold plA
    rw [bsN_bit]
    cases hq : s.testBit q
    · rfl
    · obtain ⟨a, b⟩ := hb q hq
      simp [a, b]
  rw [← e]
  exact Nat.and_le_right
theorem pl_all (P : Nat → Bool) (n : Nat) : bsN P n ≤ bsN (fun _ => true) n := by
  have e : bsN P n &&& bsN (fun _ => true) n = bsN P n := by
    apply Nat.eq_of_testBit_eq
    intro q
    rw [Nat.testBit_and, bsN_bit, bsN_bit]
    cases P q <;> simp
  rw [← e]
  exact Nat.and_le_right
theorem plF_no {K : Mm} {p t : Nat} (h : ∀ sz, lpF K p t sz = -1) : ∀ f sz, plF K p t f sz = -1 := by
  intro f
  induction f with
  | zero => intro sz; rfl
  | succ f ih => intro sz; rw [plF, if_pos (h sz)]; exact ih (sz + 1)
theorem plF_at {K : Mm} {p t m b : Nat} (hb : b < 4096) (h1 : ∀ sz, sz < m → lpF K p t sz = -1) (h2 : lpF K p t m = nI b) : ∀ f sz, sz ≤ m → m < sz + f → plF K p t f sz = nI b := by
  intro f
  induction f with
  | zero => intro sz a c; omega
  | succ f ih =>
    intro sz a c
    rw [plF]
    by_cases e : sz = m
    · subst e; rw [h2, if_neg (nI_m1 (by omega))]
    · rw [if_pos (h1 sz (by omega))]; exact ih (sz + 1) (by omega) (by omega)
def plQ (K : Mm) (p t b : Nat) : Bool := plS K p b && plW K p t b
def plC (K : Mm) (b : Nat) : Nat := cnt (fun q => b.testBit q) (nn K)
theorem plot_eq {K : Mm} {p t : Nat} (h12 : nn K ≤ 12) : plF K p t (cnt (plP K p) (nn K) + 1) 0 = plB (plQ K p t) (plC K) (bsN (fun _ => true) (nn K) + 1) := by
  have hM := bsN_lt (fun _ => true) (nn K)
  have h4 : 2 ^ nn K ≤ 4096 := Nat.pow_le_pow_right (n := 2) (by omega) h12
  have hA : plA K p ≤ bsN (fun _ => true) (nn K) := pl_all _ _
  rcases plB_spec (plQ K p t) (plC K) (bsN (fun _ => true) (nn K) + 1) (by omega) with ⟨h1, h2⟩ | ⟨b, h1, h2, h3, h5, h6⟩
  · rw [h1]
    refine plF_no (fun sz => frst_no _ 0 (fun b x1 x2 => ?_)) _ _
    have := h2 b (by omega)
    unfold plQ at this
    cases hs : plS K p b
    · rfl
    · rw [hs] at this
      rw [Bool.true_and] at this
      simp [this]
  · rw [h2]
    have hq : plS K p b = true ∧ plW K p t b = true := by
      unfold plQ at h3
      exact Bool.and_eq_true_iff.mp h3
    have hb2 : b < 2 ^ nn K := by omega
    have hpc := pop_cnt hb2 h12
    have key : ∀ c, c ≤ plA K p → plS K p c = true → plW K p t c = true → plC K b ≤ plC K c ∧ (c < b → plC K b < plC K c) := fun c hc q1 q2 => by
      have hP : plQ K p t c = true := by unfold plQ; rw [q1, q2]; rfl
      exact ⟨h5 c (by omega) hP, fun q => h6 c q hP⟩
    refine plF_at (m := plC K b) (by omega) (fun sz hsz => frst_no _ 0 (fun c x1 x2 => ?_)) ?_ _ 0 (by omega) ?_
    · have hc2 : c < 2 ^ nn K := by omega
      have e := pop_cnt hc2 h12
      cases q1 : plS K p c
      · rfl
      · cases q2 : plW K p t c
        · simp
        · have := (key c (by omega) q1 q2).1
          have h9 : ¬ popN c 12 = sz := by rw [e]; unfold plC at this hsz; omega
          simp [h9]
    · refine frst_at (j := b) ?_ _ 0 (by omega) (by have := plS_le h12 (by omega) hq.1; omega) (fun c x1 x2 => ?_)
      · rw [hq.1, hq.2, hpc]; simp [plC]
      · have hc2 : c < 2 ^ nn K := by omega
        have e := pop_cnt hc2 h12
        have hbA := plS_le h12 (by omega) hq.1
        cases q1 : plS K p c
        · rfl
        · cases q2 : plW K p t c
          · simp
          · have := (key c (by omega) q1 q2).2 x2
            have h9 : ¬ popN c 12 = plC K b := by rw [e]; unfold plC at this ⊢; omega
            simp [h9]
    · have h7 : plC K b ≤ cnt (plP K p) (nn K) := cnt_mono _ (fun q hq2 hq3 => (plS_bit h12 (by omega) hq.1 q hq3).2)
      omega
theorem plB_or (P : Nat → Bool) (pop : Nat → Nat) {i : Nat} (hi : i ≤ 4096) : plB P pop i = -1 ∨ ∃ b, b < i ∧ plB P pop i = nI b := by
  rcases plB_spec P pop i hi with h | ⟨b, h1, h2, -⟩
  · exact Or.inl h.1
  · exact Or.inr ⟨b, h1, h2⟩
