/-! THE REFERENCE'S FRAMES AND ENDS -/
def F2 (σ σ' : Mm) : Prop := ∀ i, ¬ i = 50 → ¬ i = 52 → σ' i = σ i
def F3 (σ σ' : Mm) : Prop := ∀ i, ¬ i = 50 → ¬ i = 52 → ¬ i = 53 → σ' i = σ i
theorem F2.rf {σ : Mm} : F2 σ σ := fun _ _ _ => rfl
theorem F3.rf {σ : Mm} : F3 σ σ := fun _ _ _ _ => rfl
theorem F2.tr {σ σ1 σ2 : Mm} (a : F2 σ σ1) (b : F2 σ1 σ2) : F2 σ σ2 := fun i h k => (b i h k).trans (a i h k)
theorem F3.tr {σ σ1 σ2 : Mm} (a : F3 σ σ1) (b : F3 σ1 σ2) : F3 σ σ2 := fun i h k l => (b i h k l).trans (a i h k l)
theorem F3.f2 {σ σ1 σ2 : Mm} (a : F3 σ σ1) (b : F2 σ1 σ2) : F3 σ σ2 := fun i h k l => (b i h k).trans (a i h k l)
theorem F3.f1 {σ σ1 σ2 : Mm} {c : Nat} (a : F3 σ σ1) (b : F1 c σ1 σ2) (hc : c = 50 ∨ c = 52 ∨ c = 53) : F3 σ σ2 := fun i h k l => (b i (by omega)).trans (a i h k l)
theorem F2.f1 {σ σ1 σ2 : Mm} {c : Nat} (a : F2 σ σ1) (b : F1 c σ1 σ2) (hc : c = 50 ∨ c = 52) : F2 σ σ2 := fun i h k => (b i (by omega)).trans (a i h k)
theorem F3.up {σ σ1 : Mm} {c k : Nat} {v : Int32} (a : F3 σ σ1) (hc : c = 50 ∨ c = 52 ∨ c = 53) : F3 σ (up2 σ1 c k v) := fun i h1 h2 h3 => (up2_o (by omega)).trans (a i h1 h2 h3)
theorem F3.fm {σ σ1 : Mm} (a : F3 σ σ1) : FM σ σ1 := fun i h => a i (by omega) (by omega) (by omega)
theorem F2.f3 {σ σ1 : Mm} (a : F2 σ σ1) : F3 σ σ1 := fun i h k _ => a i h k
/-- the reference's object over changes of memory -/
theorem MR.now {σ σ' K2 : Mm} {A : As} (h : MR σ A) (hM : vM σ' 50 = K2) (hO : Ok K2) (hf : F3 σ σ') : MR σ' (K2, A.2) := by
  obtain ⟨K, L, g, F, tl, Bt, W, Z, N⟩ := A
  obtain ⟨⟨a1, a2⟩, ⟨b1, b2, b3⟩, c, ⟨⟨d1, d2⟩, d3⟩, s⟩ := h
  refine ⟨⟨hM, hO⟩, ⟨by rw [hf 49 (by omega) (by omega) (by omega)]; exact b1, b2, fun q => ⟨by rw [vM_o (hf 51 (by omega) (by omega) (by omega))]; exact (b3 q).1, (b3 q).2⟩⟩, fun q hq => by rw [hf 54 (by omega) (by omega) (by omega)]; exact c q hq, ⟨⟨by rw [hf 49 (by omega) (by omega) (by omega)]; exact d1, d2⟩, fun i hi => by rw [hf 55 (by omega) (by omega) (by omega)]; exact d3 i hi⟩, fun q hq => by rw [hf 56 (by omega) (by omega) (by omega), hf 57 (by omega) (by omega) (by omega), hf 58 (by omega) (by omega) (by omega)]; exact s q hq⟩
theorem MR.fd {σ : Mm} {A : As} {k : Nat} (h : MR σ A) (hk : k < 7) : MR (up2 σ 54 k (σ 54 k + 1)) (fd A k) := by
  obtain ⟨K, L, g, F, tl, Bt, W, Z, N⟩ := A
  obtain ⟨⟨a1, a2⟩, ⟨b1, b2, b3⟩, c, ⟨⟨d1, d2⟩, d3⟩, s⟩ := h
  refine ⟨⟨by rw [vM_o (up2_o (by omega))]; exact a1, a2⟩, ⟨by rw [up2_o (by omega)]; exact b1, b2, fun q => ⟨by rw [vM_o (up2_o (by omega))]; exact (b3 q).1, (b3 q).2⟩⟩, fun q hq => ?_, ⟨⟨by rw [up2_o (by omega)]; exact d1, d2⟩, fun i hi => by rw [up2_o (by omega)]; exact d3 i hi⟩, fun q hq => by rw [up2_o (by omega), up2_o (by omega), up2_o (by omega)]; exact s q hq⟩
  rw [up2_s, c k hk]
  unfold upd
  split
  · rfl
  · exact c q hq
theorem MR.ok {σ : Mm} {A : As} (h : MR σ A) : Ok A.1 := h.1.2
theorem fim_fd {σ : Mm} {A : As} {k : Nat} {f : Int32} {x : Int32 × As} (h : MR σ A) (hk : k < 7) (hx : x = (f, fd A k)) : f = x.1 ∧ MR (up2 σ 54 k (σ 54 k + 1)) x.2 ∧ FM σ (up2 σ 54 k (σ 54 k + 1)) := by
  subst hx; exact ⟨rfl, h.fd hk, FM.rf.up (by omega)⟩
theorem fim_rd {σ : Mm} {A : As} {v : Int32} {x : Int32 × As} (h : MR σ A) (hx : x = (v, A)) : v = x.1 ∧ MR σ x.2 ∧ FM σ σ := by
  subst hx; exact ⟨rfl, h, FM.rf⟩
theorem fim_now {σ σ' K2 : Mm} {A : As} {v : Int32} {x : Int32 × As} (h : MR σ A) (hM : vM σ' 50 = K2) (hO : Ok K2) (hf : F3 σ σ') (hx : x = (v, (K2, A.2))) : v = x.1 ∧ MR σ' x.2 ∧ FM σ σ' := by
  subst hx; exact ⟨rfl, h.now hM hO hf, hf.fm⟩
theorem fim_try {σ σ' : Mm} {A : As} {v : Int32} {x : Int32 × As} (h : MR σ A) (hM : vM σ' 50 = A.1) (hf : F3 σ σ') (hx : x = (v, A)) : v = x.1 ∧ MR σ' x.2 ∧ FM σ σ' := by
  subst hx; exact ⟨rfl, h.now hM h.1.2 hf, hf.fm⟩
theorem fim_tfd {σ σ' : Mm} {A : As} {k : Nat} {f : Int32} {x : Int32 × As} (h : MR σ A) (hM : vM σ' 50 = A.1) (hf : F3 σ σ') (hk : k < 7) (hx : x = (f, fd A k)) : f = x.1 ∧ MR (up2 σ' 54 k (σ' 54 k + 1)) x.2 ∧ FM σ (up2 σ' 54 k (σ' 54 k + 1)) := by
  subst hx; exact ⟨rfl, (h.now hM h.1.2 hf : MR σ' (A.1, A.2)).fd hk, hf.fm.up (by omega)⟩
/-- one place twice; two places -/
theorem up2_2 {K : Mm} {j p : Nat} {v w : Int32} : up2 (up2 K j p v) j p w = up2 K j p w := by
  funext a b
  simp only [up2_up]
  split <;> rfl
theorem up2_cm {K : Mm} {j p j' p' : Nat} {v w : Int32} (h : ¬ j = j' ∨ ¬ p = p') : up2 (up2 K j p v) j' p' w = up2 (up2 K j' p' w) j p v := by
  funext a b
  simp only [up2_up]
  by_cases h1 : a = j' ∧ b = p'
  · rw [if_pos h1, if_neg (by omega), if_pos h1]
  · rw [if_neg h1]
    by_cases h2 : a = j ∧ b = p
    · rw [if_pos h2, if_pos h2]
    · rw [if_neg h2, if_neg h2, if_neg h1]
theorem up2_bk {K : Mm} {j p : Nat} {v : Int32} : up2 (up2 K j p v) j p (K j p) = K := by rw [up2_2, up2_same]
theorem bear_c {K : Mm} {t : Nat} {q : Int32} : up2 (up2 K 7 t 0) 6 t q = up2 (up2 K 6 t q) 7 t 0 := up2_cm (Or.inl (by omega))
/-- what a month does to those OUT, and how many it turns out -/
theorem fl_out {r : Nat} (hr : r < 8) {p : Nat} : ∀ (f : Nat) (K : Mm), Ok K → (flR r f K 2 p = -1 ↔ K 2 p = -1) ∧ (∀ j q, ¬ j = 2 → flR r f K j q = K j q) := by
  intro f
  induction f with
  | zero => intro K _; exact ⟨Iff.rfl, fun _ _ _ => rfl⟩
  | succ f ih =>
    intro K hO
    rw [flR]
    split
    · next h =>
      have h12 := hO.1.2
      obtain ⟨h1, h2, h3⟩ := clamp_hr h12 h.2
      generalize (hrS K (inP K (nI (r + 1)))).toNatClampNeg = b at h1 h2 h3
      obtain ⟨a1, a2⟩ := ih (up2 K 2 b (nI r)) (hO.rank (by omega) ⟨Int32.le_trans (by decide) (nI_pos' (by omega)), nI_le (b := 7) (by omega) (by omega)⟩)
      have h4 : K 2 b = nI (r + 1) := of_decide_eq_true h3
      refine ⟨a1.trans ?_, fun j q hj => (a2 j q hj).trans (by rw [up2_up, if_neg (by omega)])⟩
      rw [up2_up]
      by_cases hp : p = b
      · subst hp
        rw [if_pos ⟨rfl, rfl⟩, h4]
        exact ⟨fun q => absurd q (nI_m1 (by omega)), fun q => absurd q (nI_m1 (by omega))⟩
      · rw [if_neg (by omega)]
    · exact ⟨Iff.rfl, fun _ _ _ => rfl⟩
theorem fa_out {p : Nat} : ∀ (r : Nat), r ≤ 7 → ∀ (K : Mm), Ok K → (flA r K 2 p = -1 ↔ K 2 p = -1) ∧ (∀ j q, ¬ j = 2 → flA r K j q = K j q) := by
  intro r
  induction r with
  | zero => intro _ K _; exact ⟨Iff.rfl, fun _ _ _ => rfl⟩
  | succ r ih =>
    intro h K hO
    obtain ⟨a, b⟩ := ih (by omega) K hO
    obtain ⟨c, d⟩ := fl_out (r := r) (p := p) (by omega) 13 _ (fa_keep r (by omega) K hO).1
    exact ⟨c.trans a, fun j q hj => (d j q hj).trans (b j q hj)⟩
theorem mo3_o {K : Mm} {j p : Nat} (hj : ¬ j = 3) : mo3 K j p = K j p := by
  unfold mo3
  split
  · unfold agK; rw [if_neg (fun q => hj q.1)]
  · rfl
theorem mo_out {K : Mm} (hO : Ok K) {p : Nat} (hp : p < nn K) : (mo K 2 p = -1 ↔ K 2 p = -1 ∨ trP K p = true) ∧ (K 2 p = -1 → mo K 5 p = K 5 p) ∧ mo K 0 2 = K 0 2 + nI (cnt (trP K) (nn K)) := by
  have h1 := mo1_keep hO
  obtain ⟨a, b⟩ := fa_out (p := p) 7 (by omega) (mo1 K) h1.1
  have e1 : mo1 K 2 p = -1 ↔ K 2 p = -1 ∨ trP K p = true := by
    unfold mo1 outK
    rw [up2_up, if_neg (by omega)]
    by_cases h : trP K p = true
    · rw [if_pos ⟨rfl, hp, h⟩]; exact ⟨fun _ => Or.inr h, fun _ => rfl⟩
    · rw [if_neg (fun q => h q.2.2)]; exact ⟨Or.inl, fun q => q.resolve_right h⟩
  have c1 : ∀ j q, ¬ j = 0 → mo K j q = mo3 (mo2 K) j q := fun j q hj => by unfold mo; rw [up2_up, if_neg (fun z => hj z.1)]
  have b5 := b 5 p (by omega)
  have b0 := b 0 2 (by omega)
  refine ⟨?_, ?_, ?_⟩
  · rw [c1 2 p (by omega), mo3_o (by omega)]
    unfold mo2
    generalize flA 7 (mo1 K) = X at a
    rw [show pyK X (nn K) 2 p = X 2 p from rfl]
    exact a.trans e1
  · intro h
    rw [c1 5 p (by omega), mo3_o (by omega)]
    have h9 := a.mpr (e1.mpr (Or.inl h))
    unfold mo2
    generalize flA 7 (mo1 K) = X at h9 b5
    unfold pyK
    rw [if_neg (fun q => q.2.2 h9), b5]
    rfl
  · unfold mo
    rw [up2_up, if_neg (by omega), mo3_o (by omega)]
    unfold mo2
    generalize flA 7 (mo1 K) = X at b0
    rw [show pyK X (nn K) 0 2 = X 0 2 from rfl, b0]
    rfl
theorem mos_out {K : Mm} (hO : Ok K) {p : Nat} (hp : p < nn K) (h : K 2 p = -1) : ∀ n, mos n K 2 p = -1 ∧ mos n K 5 p = K 5 p := by
  intro n
  induction n with
  | zero => exact ⟨h, rfl⟩
  | succ n ih =>
    obtain ⟨a, b⟩ := mos_keep hO n
    obtain ⟨c, d, -⟩ := mo_out a (p := p) (by omega)
    exact ⟨c.mpr (Or.inl ih.1), (d ih.1).trans ih.2⟩
theorem cnt_dis {P Q R : Nat → Bool} : ∀ (n : Nat), (∀ q, q < n → R q = (P q || Q q)) → (∀ q, q < n → ¬ (P q = true ∧ Q q = true)) → cnt R n = cnt P n + cnt Q n := by
  intro n
  induction n with
  | zero => intro _ _; rfl
  | succ n ih =>
    intro h1 h2
    have a := h1 n (by omega)
    have b := h2 n (by omega)
    rw [cnt, cnt, cnt, ih (fun q hq => h1 q (by omega)) (fun q hq => h2 q (by omega)), a]
    cases hP : P n <;> cases hQ : Q n <;> simp [hP, hQ] at b ⊢ <;> omega
theorem mos_turn {K : Mm} (hO : Ok K) : ∀ n, ∃ d, mos n K 0 2 = K 0 2 + nI d ∧ cnt (inP (mos n K) (-1)) (nn K) = cnt (inP K (-1)) (nn K) + d := by
  intro n
  induction n with
  | zero => exact ⟨0, by rw [show (nI 0 : Int32) = 0 from rfl, add0]; rfl, rfl⟩
  | succ n ih =>
    obtain ⟨d, h1, h2⟩ := ih
    obtain ⟨a, b⟩ := mos_keep hO n
    rw [mos]
    generalize mos n K = X at a b h1 h2
    by_cases h0 : 0 < nn K
    · have h3 := (mo_out a (p := 0) (by omega)).2.2
      refine ⟨d + cnt (trP X) (nn X), ?_, ?_⟩
      · rw [h3, h1, ← nI_add, Int32.add_assoc]
      · rw [cnt_dis (P := inP X (-1)) (Q := trP X) (R := inP (mo X) (-1)) (nn K) (fun q hq => ?_) (fun q hq => ?_), h2, b]
        · omega
        · have h4 := (mo_out a (p := q) (by omega)).1
          rw [Bool.eq_iff_iff]
          simp only [inP, decide_eq_true_eq, Bool.or_eq_true]
          exact h4
        · intro ⟨x1, x2⟩
          have x3 : X 2 q = -1 := of_decide_eq_true x1
          simp [trP, x3] at x2
    · have e0 : nn K = 0 := by omega
      refine ⟨d + cnt (trP X) (nn X), ?_, ?_⟩
      · have h1k := mo1_keep a
        obtain ⟨-, fb⟩ := fa_out (p := 0) 7 (by omega) (mo1 X) h1k.1
        have b0 := fb 0 2 (by omega)
        have h3 : mo X 0 2 = X 0 2 + nI (cnt (trP X) (nn X)) := by
          unfold mo
          rw [up2_up, if_neg (by omega), mo3_o (by omega)]
          unfold mo2
          generalize flA 7 (mo1 X) = Y at b0
          rw [show pyK Y (nn X) 0 2 = Y 0 2 from rfl, b0]
          rfl
        rw [h3, h1, ← nI_add, Int32.add_assoc]
      · rw [b]
        rw [e0] at h2 ⊢
        simp only [cnt] at h2 ⊢
        omega
theorem mos_13 {K : Mm} (hO : Ok K) (n : Nat) : ∃ d, d ≤ 12 ∧ mos n K 0 2 - K 0 2 = nI d := by
  obtain ⟨d, h1, h2⟩ := mos_turn hO n
  have h3 := cnt_le (inP (mos n K) (-1)) (nn K)
  have h12 := hO.1.2
  refine ⟨d, by omega, ?_⟩
  rw [h1]
  apply Int32.toBitVec_inj.mp
  rw [Int32.toBitVec_sub, Int32.toBitVec_add, BitVec.add_comm, BitVec.add_sub_cancel]
