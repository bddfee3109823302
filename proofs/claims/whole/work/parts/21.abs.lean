/-! WHAT AN OBJECT IS: the empire, the kept one, whether one is kept, findings, the tape's length and bytes, sheets: bits, sizes, numbers -/
abbrev As : Type := Mm × Mm × Int32 × (Nat → Int32) × Int32 × (Nat → Int32) × (Nat → Int32) × (Nat → Int32) × Mm
/-- the class's object holds it -/
def CR (σ : Mm) (A : As) : Prop := match A with
  | (K, L, g, F, tl, Bt, W, Z, N) => (Emp σ 13 K ∧ Ok K) ∧ (σ 0 2 = g ∧ (g = 0 ∨ g = 1) ∧ (g = 1 → Emp σ 25 L ∧ Ok L)) ∧ (∀ k, k < 7 → σ 1 k = F k) ∧ ((σ 3 1 = tl ∧ ∃ t, t ≤ 120 ∧ tl = nI t) ∧ ∀ i, i < 120 → σ 4 i = Bt i) ∧ ∀ s, s < 4 → (σ (5 + s) 1 = W s ∧ (W s = 0 ∨ W s = 8 ∨ W s = 16 ∨ W s = 32)) ∧ (σ (5 + s) 2 = Z s ∧ ∃ z, z ≤ 40 ∧ Z s = nI z) ∧ ∀ i, i < 40 → σ (9 + s) i = N s i
/-- the reference holds it -/
def MR (σ : Mm) (A : As) : Prop := match A with
  | (K, L, g, F, tl, Bt, W, Z, N) => (vM σ 50 = K ∧ Ok K) ∧ (σ 49 4 = g ∧ (g = 0 ∨ g = 1) ∧ (g = 1 → vM σ 51 = L ∧ Ok L)) ∧ (∀ k, k < 7 → σ 54 k = F k) ∧ ((σ 49 7 = tl ∧ ∃ t, t ≤ 120 ∧ tl = nI t) ∧ ∀ i, i < 120 → σ 55 i = Bt i) ∧ ∀ s, s < 4 → (σ 56 s = W s ∧ (W s = 0 ∨ W s = 8 ∨ W s = 16 ∨ W s = 32)) ∧ (σ 57 s = Z s ∧ ∃ z, z ≤ 40 ∧ Z s = nI z) ∧ ∀ i, i < 40 → σ 58 (40 * s + i) = N s i
/-- nothing of the reference has changed; nothing of the class's object has -/
def FC (σ σ' : Mm) : Prop := ∀ i, 49 ≤ i → σ' i = σ i
def FM (σ σ' : Mm) : Prop := ∀ i, i < 49 → σ' i = σ i
theorem FC.rf {σ : Mm} : FC σ σ := fun _ _ => rfl
theorem FM.rf {σ : Mm} : FM σ σ := fun _ _ => rfl
theorem FC.tr {σ σ1 σ2 : Mm} (a : FC σ σ1) (b : FC σ1 σ2) : FC σ σ2 := fun i h => (b i h).trans (a i h)
theorem FM.tr {σ σ1 σ2 : Mm} (a : FM σ σ1) (b : FM σ1 σ2) : FM σ σ2 := fun i h => (b i h).trans (a i h)
theorem FC.up {σ σ1 : Mm} {i k : Nat} {v : Int32} (a : FC σ σ1) (h : i < 49) : FC σ (up2 σ1 i k v) := fun j hj => (up2_o (by omega)).trans (a j hj)
theorem FM.up {σ σ1 : Mm} {i k : Nat} {v : Int32} (a : FM σ σ1) (h : 49 ≤ i) : FM σ (up2 σ1 i k v) := fun j hj => (up2_o (by omega)).trans (a j hj)
theorem Fr.fc {e : Nat} {σ σ' : Mm} (h : Fr e σ σ') (he : e + 12 ≤ 49) : FC σ σ' := fun i hi => h i (by omega)
/-- a finding told -/
def fd (A : As) (k : Nat) : As := match A with
  | (K, L, g, F, tl, Bt, W, Z, N) => (K, L, g, upd F k (F k + 1), tl, Bt, W, Z, N)
theorem Emp.eq {σ σ' : Mm} {e : Nat} {K : Mm} (h : Emp σ e K) (key : ∀ i, i < 12 → σ' (e + i) = σ (e + i)) : Emp σ' e K := by
  refine ⟨?_, fun r hr => by rw [key 9 (by omega)]; exact h.2 r hr⟩
  rw [← h.1]
  funext j p
  unfold vC
  by_cases hp : p < rng j
  · have hj : j < 11 := by
      rcases Nat.lt_or_ge j 11 with q | q
      · exact q
      · have : rng j = 0 := by unfold rng; rw [List.getD_eq_getElem?_getD, List.getElem?_eq_none (by simp; omega)]; rfl
        omega
    have k0 := key 0 (by omega)
    rw [Nat.add_zero] at k0
    by_cases h0 : j = 0
    · simp [hp, h0, k0]
    · by_cases h8 : j ≤ 8
      · simp [hp, h0, h8, key j (by omega)]
      · have k1 := key (j + 1) (by omega)
        rw [← Nat.add_assoc] at k1
        simp [hp, h0, h8, k1]
  · simp [hp]
theorem Emp.w {σ : Mm} {e i k : Nat} {K : Mm} {v : Int32} (h : Emp σ e K) (hd : i < e ∨ e + 12 ≤ i) : Emp (up2 σ i k v) e K := h.eq (fun j hj => up2_o (by omega))
/-- the class's object over changes of memory -/
theorem CR.eq {σ σ' : Mm} {A : As} (h : CR σ A) (he : ∀ i, i < 37 → σ' i = σ i) : CR σ' A := by
  obtain ⟨K, L, g, F, tl, Bt, W, Z, N⟩ := A
  obtain ⟨⟨a1, a2⟩, ⟨b1, b2, b3⟩, c, ⟨⟨d1, d2⟩, d3⟩, s⟩ := h
  refine ⟨⟨a1.eq (fun i hi => he _ (by omega)), a2⟩, ⟨by rw [he 0 (by omega)]; exact b1, b2, fun q => ⟨(b3 q).1.eq (fun i hi => he _ (by omega)), (b3 q).2⟩⟩, fun k hk => by rw [he 1 (by omega)]; exact c k hk, ⟨⟨by rw [he 3 (by omega)]; exact d1, d2⟩, fun i hi => by rw [he 4 (by omega)]; exact d3 i hi⟩, fun q hq => ?_⟩
  rw [he (5 + q) (by omega), he (9 + q) (by omega)]
  exact s q hq
theorem CR.trial {σ σ' : Mm} {A : As} (h : CR σ A) (hf : Fr 37 σ σ') : CR σ' A := h.eq (fun i hi => hf i (by omega))
theorem CR.fd {σ : Mm} {A : As} {k : Nat} (h : CR σ A) (hk : k < 7) : CR (up2 σ 1 k (σ 1 k + 1)) (fd A k) := by
  obtain ⟨K, L, g, F, tl, Bt, W, Z, N⟩ := A
  obtain ⟨⟨a1, a2⟩, ⟨b1, b2, b3⟩, c, ⟨⟨d1, d2⟩, d3⟩, s⟩ := h
  refine ⟨⟨a1.w (by omega), a2⟩, ⟨by rw [up2_o (by omega)]; exact b1, b2, fun q => ⟨(b3 q).1.w (by omega), (b3 q).2⟩⟩, fun q hq => ?_, ⟨⟨by rw [up2_o (by omega)]; exact d1, d2⟩, fun i hi => by rw [up2_o (by omega)]; exact d3 i hi⟩, fun q hq => by rw [up2_o (by omega), up2_o (by omega)]; exact s q hq⟩
  rw [up2_s, c k hk]
  unfold upd
  split
  · rfl
  · exact c q hq
theorem CR.now {σ σ' K2 : Mm} {A : As} (h : CR σ A) (hK : Emp σ' 13 K2) (hO : Ok K2) (hf : Fr 13 σ σ') : CR σ' (K2, A.2) := by
  obtain ⟨K, L, g, F, tl, Bt, W, Z, N⟩ := A
  obtain ⟨⟨a1, a2⟩, ⟨b1, b2, b3⟩, c, ⟨⟨d1, d2⟩, d3⟩, s⟩ := h
  refine ⟨⟨hK, hO⟩, ⟨by rw [hf 0 (by omega)]; exact b1, b2, fun q => ⟨(b3 q).1.fr hf (by omega), (b3 q).2⟩⟩, fun q hq => by rw [hf 1 (by omega)]; exact c q hq, ⟨⟨by rw [hf 3 (by omega)]; exact d1, d2⟩, fun i hi => by rw [hf 4 (by omega)]; exact d3 i hi⟩, fun q hq => by rw [hf (5 + q) (by omega), hf (9 + q) (by omega)]; exact s q hq⟩
/-- ends of calls -/
theorem fin_fd {σ : Mm} {A : As} {k : Nat} {f : Int32} {x : Int32 × As} (h : CR σ A) (hk : k < 7) (hx : x = (f, fd A k)) : f = x.1 ∧ CR (up2 σ 1 k (σ 1 k + 1)) x.2 ∧ FC σ (up2 σ 1 k (σ 1 k + 1)) := by
  subst hx; exact ⟨rfl, h.fd hk, FC.rf.up (by omega)⟩
theorem fin_rd {σ : Mm} {A : As} {v : Int32} {x : Int32 × As} (h : CR σ A) (hx : x = (v, A)) : v = x.1 ∧ CR σ x.2 ∧ FC σ σ := by
  subst hx; exact ⟨rfl, h, FC.rf⟩
theorem fin_now {σ σ' K2 : Mm} {A : As} {v : Int32} {x : Int32 × As} (h : CR σ A) (hK : Emp σ' 13 K2) (hO : Ok K2) (hf : Fr 13 σ σ') (hx : x = (v, (K2, A.2))) : v = x.1 ∧ CR σ' x.2 ∧ FC σ σ' := by
  subst hx; exact ⟨rfl, h.now hK hO hf, hf.fc (by omega)⟩
theorem fin_try {σ σ' : Mm} {A : As} {v : Int32} {x : Int32 × As} (h : CR σ A) (hf : Fr 37 σ σ') (hx : x = (v, A)) : v = x.1 ∧ CR σ' x.2 ∧ FC σ σ' := by
  subst hx; exact ⟨rfl, h.trial hf, hf.fc (by omega)⟩
theorem fin_tfd {σ σ' : Mm} {A : As} {k : Nat} {f : Int32} {x : Int32 × As} (h : CR σ A) (hf : Fr 37 σ σ') (hk : k < 7) (hx : x = (f, fd A k)) : f = x.1 ∧ CR (up2 σ' 1 k (σ' 1 k + 1)) x.2 ∧ FC σ (up2 σ' 1 k (σ' 1 k + 1)) := by
  subst hx; exact ⟨rfl, (h.trial hf).fd hk, (hf.fc (by omega)).up (by omega)⟩
theorem isE_13 : isE 13 := h13
theorem isE_25 : isE 25 := h25
theorem isE_37 : isE 37 := h37
