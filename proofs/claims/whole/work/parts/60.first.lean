/-! THE FIRST STATE: both objects hold the same -/
def K0 : Mm := vC iS 13
def A0 : As := (K0, K0, 0, zI, 0, zI, zI, zI, fun _ => zI)
theorem k0_b : ∀ j, j < 11 → ∀ p, p < 12 → vM iS 50 j p = vC iS 13 j p := by decide +kernel
theorem rng_le12 : ∀ j, j < 11 → rng j ≤ 12 := by decide +kernel
theorem vM0 : vM iS 50 = K0 := by
  funext j p
  by_cases hp : p < rng j
  · rcases Nat.lt_or_ge j 11 with hj | hj
    · exact k0_b j hj p (Nat.lt_of_lt_of_le hp (rng_le12 j hj))
    · rw [rng_big hj] at hp; omega
  · unfold K0 vM vC
    rw [if_neg hp, if_neg hp]
theorem nn0 : nn K0 = 0 := by decide +kernel
theorem Ok0 : Ok K0 := by
  refine ⟨⟨by decide +kernel, by rw [nn0]; omega⟩, fun p hp => by rw [nn0] at hp; omega, by decide +kernel, by decide +kernel, fun j p h => ?_, by decide +kernel⟩
  unfold K0 vC
  rw [if_neg (by omega)]
theorem Emp0 : Emp iS 13 K0 := ⟨rfl, fun r hr => by rw [nn0]; rfl⟩
theorem CR0 : CR iS A0 := by
  show CR iS (K0, K0, 0, zI, 0, zI, zI, zI, fun _ => zI)
  refine ⟨⟨Emp0, Ok0⟩, ⟨rfl, Or.inl rfl, fun h => absurd h (by decide)⟩, fun k hk => rfl, ⟨⟨rfl, 0, by omega, rfl⟩, fun i hi => rfl⟩, fun s hs => ?_⟩
  match s, hs with
  | 0, _ => exact ⟨⟨rfl, Or.inl rfl⟩, ⟨rfl, 0, by omega, rfl⟩, fun i hi => rfl⟩
  | 1, _ => exact ⟨⟨rfl, Or.inl rfl⟩, ⟨rfl, 0, by omega, rfl⟩, fun i hi => rfl⟩
  | 2, _ => exact ⟨⟨rfl, Or.inl rfl⟩, ⟨rfl, 0, by omega, rfl⟩, fun i hi => rfl⟩
  | 3, _ => exact ⟨⟨rfl, Or.inl rfl⟩, ⟨rfl, 0, by omega, rfl⟩, fun i hi => rfl⟩
  | s + 4, h => exact absurd h (by omega)
theorem MR0 : MR iS A0 := by
  show MR iS (K0, K0, 0, zI, 0, zI, zI, zI, fun _ => zI)
  exact ⟨⟨vM0, Ok0⟩, ⟨rfl, Or.inl rfl, fun h => absurd h (by decide)⟩, fun k hk => rfl, ⟨⟨rfl, 0, by omega, rfl⟩, fun i hi => rfl⟩, fun s hs => ⟨⟨rfl, Or.inl rfl⟩, ⟨rfl, 0, by omega, rfl⟩, fun i hi => rfl⟩⟩
theorem MR.fc {σ σ' : Mm} {A : As} (h : MR σ A) (hf : FC σ σ') : MR σ' A := by
  obtain ⟨K, L, g, F, tl, Bt, W, Z, N⟩ := A
  obtain ⟨⟨a1, a2⟩, ⟨b1, b2, b3⟩, c, ⟨⟨d1, d2⟩, d3⟩, s⟩ := h
  exact ⟨⟨(vM_o (hf 50 (by omega))).trans a1, a2⟩, ⟨by rw [hf 49 (by omega)]; exact b1, b2, fun q => ⟨(vM_o (hf 51 (by omega))).trans (b3 q).1, (b3 q).2⟩⟩, fun q hq => by rw [hf 54 (by omega)]; exact c q hq, ⟨⟨by rw [hf 49 (by omega)]; exact d1, d2⟩, fun i hi => by rw [hf 55 (by omega)]; exact d3 i hi⟩, fun q hq => by rw [hf 56 (by omega), hf 57 (by omega), hf 58 (by omega)]; exact s q hq⟩
theorem CR.fm {σ σ' : Mm} {A : As} (h : CR σ A) (hf : FM σ σ') : CR σ' A := h.eq (fun i hi => hf i (by omega))
/-- where the cells lie -/
def aUV (u v : Nat → Nat) : Nat → Nat := fun i => if i < 49 then u i else v (i - 49)
set_option maxHeartbeats 4000000 in
set_option maxRecDepth 100000 in
theorem wd_of (l : Launch) (D : va_G) (cI cS : ClassId) (z : Nat → Nat) {A : Nat → Prop} (u v : Nat → Nat) (H : Heap) (hP : va_P D vwCl (wX3 cI cS u ++ wX4 cI v) H) (hD : va_D A (wX3 cI cS u ++ wX4 cI v)) : va_P D vwCl (wd (l, D, cI, cS, aUV u v, z) iS) H ∧ va_D A (wd (l, D, cI, cS, aUV u v, z) iS) := by
  have hP2 := P_q (q0 := 2) (a := u 2) (N := 4) (cA := cS) (f := fun k => some (u (5 + k))) (g := fun k => some (aUV u v (5 + k))) hP rfl (fun j hj => by
    match j, hj with
    | 0, _ => rfl
    | 1, _ => rfl
    | 2, _ => rfl
    | 3, _ => rfl
    | j + 4, h => exact absurd h (by omega))
  have hD2 := hD.set (p := 2) (a := u 2) (e0 := .inl (cS, 4, .inr (.inr (.inr (.inr (fun k => some (u (5 + k)))))))) (e := .inl (cS, 4, .inr (.inr (.inr (.inr (fun k => some (aUV u v (5 + k)))))))) rfl
  exact ⟨hP2.sub (List.range 59) rfl, hD2.sub (List.range 59) (by decide +kernel) rfl⟩
