/-! TEXTS: B the bytes, t how many; a token is told by the place i from which on it is looked for -/
def qk (B : Nat → Int32) (t i : Nat) : Nat := if i < t then (if 97 ≤ B i ∧ B i ≤ 122 then 1 else if 48 ≤ B i ∧ B i ≤ 57 then 2 else if B i = 59 then 3 else 4) else 0
def qsk (B : Nat → Int32) (t : Nat) : Nat → Nat → Nat
  | 0, i => i
  | f + 1, i => if i < t ∧ B i = 32 then qsk B t f (i + 1) else i
/-- where it begins -/
def qS (B : Nat → Int32) (t i : Nat) : Nat := qsk B t (t - i) i
def qex (B : Nat → Int32) (t k : Nat) : Nat → Nat → Nat
  | 0, i => i
  | f + 1, i => if qk B t i = k then qex B t k f (i + 1) else i
def qX (B : Nat → Int32) (t k j : Nat) : Nat := qex B t k (t - j) j
/-- what it is: 0 the end, 1 a word, 2 a number, 3 a sign, 4 strange -/
def qK (B : Nat → Int32) (t i : Nat) : Nat := qk B t (qS B t i)
/-- where it ends -/
def qE (B : Nat → Int32) (t i : Nat) : Nat := if qK B t i = 0 then qS B t i else if qK B t i = 1 ∨ qK B t i = 2 then qX B t (qK B t i) (qS B t i + 1) else qS B t i + 1
def qvv (B : Nat → Int32) (s : Nat) : Nat → Int32
  | 0 => 0
  | n + 1 => if 9999 < qvv B s n then qvv B s n else qvv B s n * 10 + B (s + n) - 48
def qV (B : Nat → Int32) (t i : Nat) : Int32 := if qK B t i = 2 then qvv B (qS B t i) (qE B t i - qS B t i) else 0
section QQ
variable {B : Nat → Int32} {t i j k : Nat}
theorem qS_s (h : i < t) (h2 : B i = 32) : qS B t i = qS B t (i + 1) := by
  unfold qS
  rw [show t - i = (t - (i + 1)) + 1 by omega, qsk, if_pos ⟨h, h2⟩]
theorem qS_e (h : ¬ (i < t ∧ B i = 32)) : qS B t i = i := by
  unfold qS
  cases t - i with
  | zero => rfl
  | succ n => rw [qsk, if_neg h]
theorem qsk_ge : ∀ f i, i ≤ qsk B t f i ∧ qsk B t f i ≤ i + f := by
  intro f
  induction f with
  | zero => intro i; exact ⟨Nat.le_refl _, Nat.le_refl _⟩
  | succ f ih =>
    intro i
    rw [qsk]
    split
    · have := ih (i + 1); omega
    · omega
theorem qS_ge : i ≤ qS B t i := (qsk_ge _ _).1
theorem qS_le (h : i ≤ t) : qS B t i ≤ t := by
  have := (qsk_ge (B := B) (t := t) (t - i) i).2
  unfold qS
  omega
theorem qk_lt (h : ¬ qk B t j = 0) : j < t := by
  rcases Nat.lt_or_ge j t with h1 | h1
  · exact h1
  · unfold qk at h; rw [if_neg (by omega)] at h; exact absurd rfl h
theorem qk_ge (h : t ≤ j) : qk B t j = 0 := by unfold qk; rw [if_neg (by omega)]
theorem qk_le : qk B t j ≤ 4 := by unfold qk; (repeat' split) <;> omega
theorem qk_0 (h : qk B t j = 0) : t ≤ j := by
  rcases Nat.lt_or_ge j t with h1 | h1
  · unfold qk at h; rw [if_pos h1] at h; exfalso; revert h; (repeat' split) <;> simp
  · exact h1
theorem qX_s (hk : ¬ k = 0) (h : qk B t j = k) : qX B t k j = qX B t k (j + 1) := by
  have := qk_lt (B := B) (t := t) (j := j) (by rw [h]; exact hk)
  unfold qX
  rw [show t - j = (t - (j + 1)) + 1 by omega, qex, if_pos h]
theorem qX_e (h : ¬ qk B t j = k) : qX B t k j = j := by
  unfold qX
  cases t - j with
  | zero => rfl
  | succ n => rw [qex, if_neg h]
theorem qex_ge : ∀ f i, i ≤ qex B t k f i ∧ qex B t k f i ≤ i + f := by
  intro f
  induction f with
  | zero => intro i; exact ⟨Nat.le_refl _, Nat.le_refl _⟩
  | succ f ih =>
    intro i
    rw [qex]
    split
    · have := ih (i + 1); omega
    · omega
theorem qK_lt (h : ¬ qK B t i = 0) : qS B t i < t := qk_lt h
theorem qK_0 (h : qK B t i = 0) : t ≤ qS B t i := qk_0 h
theorem qE_0 (h : qK B t i = 0) : qE B t i = qS B t i := by unfold qE; rw [if_pos h]
theorem qE_12 (h : qK B t i = 1 ∨ qK B t i = 2) : qE B t i = qX B t (qK B t i) (qS B t i + 1) := by unfold qE; rw [if_neg (by omega), if_pos h]
theorem qE_34 (h : ¬ qK B t i = 0) (h2 : ¬ (qK B t i = 1 ∨ qK B t i = 2)) : qE B t i = qS B t i + 1 := by unfold qE; rw [if_neg h, if_neg h2]
theorem qE_gt (h : ¬ qK B t i = 0) : qS B t i < qE B t i := by
  unfold qE
  rw [if_neg h]
  split
  · have := (qex_ge (B := B) (t := t) (k := qK B t i) (t - (qS B t i + 1)) (qS B t i + 1)).1
    unfold qX
    omega
  · omega
theorem qE_ge : qS B t i ≤ qE B t i := by
  by_cases h : qK B t i = 0
  · rw [qE_0 h]; exact Nat.le_refl _
  · have := qE_gt h; omega
theorem qE_le (hi : i ≤ t) : qE B t i ≤ t := by
  have h0 := qS_le (B := B) hi
  unfold qE
  split
  · exact h0
  · next h =>
    have h1 := qK_lt h
    split
    · have := (qex_ge (B := B) (t := t) (k := qK B t i) (t - (qS B t i + 1)) (qS B t i + 1)).2
      unfold qX
      omega
    · omega
theorem qE_i : i ≤ qE B t i := Nat.le_trans (qS_ge (B := B) (t := t)) qE_ge
theorem qvv_st {s n : Nat} (h : 9999 < qvv B s n) : ∀ d, qvv B s (n + d) = qvv B s n := by
  intro d
  induction d with
  | zero => rfl
  | succ d ih => rw [← Nat.add_assoc, qvv, ih, if_pos h]
theorem qvv_en {s n m : Nat} (h : 9999 < qvv B s n) (hm : n ≤ m) : qvv B s n = qvv B s m := by rw [show m = n + (m - n) by omega, qvv_st h]
end QQ
/-- the word q; a number from a to b -/
def qW (B : Nat → Int32) (t i q : Nat) : Bool := decide (qK B t i = 1 ∧ qE B t i - qS B t i = (jByt.getD q []).length ∧ ∀ k, k < (jByt.getD q []).length → B (qS B t i + k) = (jByt.getD q []).getD k 0)
def qN (B : Nat → Int32) (t i : Nat) (a b : Int32) : Bool := decide (qK B t i = 2 ∧ a ≤ qV B t i ∧ qV B t i ≤ b)
/-- what an item does: the empire behind it, and the place of the next token; or none, and the place of the token that can't stand -/
def rk3 (B : Nat → Int32) (t : Nat) (K : Mm) (r i : Nat) : Option Mm × Nat := if qN B t i (nI (cnt (inP K (nI r)) (nn K))) 4 = true then (some (up2 K 8 r (qV B t i)), qE B t i) else (none, i)
def rk2 (B : Nat → Int32) (t : Nat) (K : Mm) (r i : Nat) : Option Mm × Nat := if qW B t i 1 = true then rk3 B t K r (qE B t i) else (none, i)
def rk1 (B : Nat → Int32) (t : Nat) (K : Mm) (i : Nat) : Option Mm × Nat := if qN B t i 0 7 = true then rk2 B t K (cl (qV B t i)) (qE B t i) else (none, i)
def lwR (B : Nat → Int32) (t : Nat) (K : Mm) (w i : Nat) : Option Mm × Nat := if qN B t i (jLeast.getD w 0) (jMost.getD w 0) = true then (some (up2 K 9 w (qV B t i)), qE B t i) else (none, i)
def dtR (B : Nat → Int32) (t q j p : Nat) (mm : Int32) (K : Mm) (i : Nat) : Option Mm × Nat := if qW B t i q = true then (if qN B t (qE B t i) 0 mm = true then (some (up2 K j p (qV B t (qE B t i))), qE B t (qE B t i)) else (none, qE B t i)) else (some K, i)
def bdR (x : Option Mm × Nat) (f : Mm → Nat → Option Mm × Nat) : Option Mm × Nat := match x with
  | (some K, i) => f K i
  | (none, i) => (none, i)
def psD (B : Nat → Int32) (t : Nat) (K : Mm) (p i : Nat) : Option Mm × Nat := bdR (bdR (bdR (dtR B t 13 3 p 99 K i) (dtR B t 14 4 p 3)) (dtR B t 15 5 p 9999)) (dtR B t 16 6 p (nI p - 1))
def ps2 (B : Nat → Int32) (t : Nat) (K : Mm) (kd : Int32) (i : Nat) : Option Mm × Nat := if qN B t i 0 7 = true ∧ nI (cnt (inP K (qV B t i)) (nn K)) < K 8 (cl (qV B t i)) then psD B t (adK K kd (qV B t i)) (nn K) (qE B t i) else (none, i)
def ps1 (B : Nat → Int32) (t : Nat) (K : Mm) (kd : Int32) (i : Nat) : Option Mm × Nat := if qW B t i 12 = true then ps2 B t K kd (qE B t i) else (none, i)
def kdH (B : Nat → Int32) (t i : Nat) : Int32 := if qW B t i 5 = true then 0 else if qW B t i 6 = true then 1 else if qW B t i 7 = true then 2 else if qW B t i 8 = true then 3 else if qW B t i 9 = true then 4 else if qW B t i 10 = true then 5 else if qW B t i 11 = true then 6 else -1
def lwH (B : Nat → Int32) (t i : Nat) : Int32 := if qW B t i 2 = true then 0 else if qW B t i 3 = true then 1 else if qW B t i 4 = true then 2 else -1
def psR (B : Nat → Int32) (t : Nat) (K : Mm) (kd : Int32) (i : Nat) : Option Mm × Nat := if 0 ≤ kd ∧ nn K < 12 then ps1 B t K kd (qE B t i) else (none, i)
def itR (B : Nat → Int32) (t : Nat) (K : Mm) (i : Nat) : Option Mm × Nat := if qW B t i 0 = true then rk1 B t K (qE B t i) else if 0 ≤ lwH B t i then lwR B t K (cl (lwH B t i)) (qE B t i) else psR B t K (kdH B t i) i
def txR (B : Nat → Int32) (t : Nat) : Nat → Nat → Mm → Nat → Option Mm × Int32
  | 0, _, _, i => (none, -1 - nI (qS B t i))
  | f + 1, n, K, i => match itR B t K i with
    | (none, j) => (none, -1 - nI (qS B t j))
    | (some K', j) => if qK B t j = 0 then (some K', nI n) else if qK B t j = 3 then txR B t f (n + 1) K' (qE B t j) else (none, -1 - nI (qS B t j))
def opText (A : As) : Int32 × As := match A with
  | (K, L, g, F, tl, Bt, W, Z, N) => ((txR Bt (cl tl) 121 1 K 0).2, ((txR Bt (cl tl) 121 1 K 0).1.getD K, L, g, F, 0, Bt, W, Z, N))
/-- what items keep -/
def gdR (t i : Nat) (x : Option Mm × Nat) : Prop := (i ≤ x.2 ∧ x.2 ≤ t) ∧ ∀ K, x.1 = some K → Ok K
theorem gd_no {t i j : Nat} (h1 : i ≤ j) (h2 : j ≤ t) : gdR t i (none, j) := ⟨⟨h1, h2⟩, fun _ h => nomatch h⟩
theorem gd_yes {t i j : Nat} {K : Mm} (h : Ok K) (h1 : i ≤ j) (h2 : j ≤ t) : gdR t i (some K, j) := ⟨⟨h1, h2⟩, fun _ e => Option.some.inj e ▸ h⟩
theorem gdR.mo {t i j : Nat} {x : Option Mm × Nat} (h : gdR t j x) (hi : i ≤ j) : gdR t i x := ⟨⟨Nat.le_trans hi h.1.1, h.1.2⟩, h.2⟩
theorem qN_g {B : Nat → Int32} {t i : Nat} {a b : Int32} (h : qN B t i a b = true) : a ≤ qV B t i ∧ qV B t i ≤ b := (of_decide_eq_true h).2
theorem qN_7 {B : Nat → Int32} {t i : Nat} (h : qN B t i 0 7 = true) : ∃ r, r < 8 ∧ qV B t i = nI r := by
  obtain ⟨r, h1, h2⟩ := i_nat (M := 7) (n := 7) (by decide) (qN_g h)
  exact ⟨r, by omega, h2⟩
theorem gd_rk3 {B : Nat → Int32} {t : Nat} {K : Mm} {r i : Nat} (hO : Ok K) (hr : r < 8) (hi : i ≤ t) : gdR t i (rk3 B t K r i) := by
  unfold rk3
  split
  · next h =>
    have h1 := qN_g h
    have hc := cnt_le (inP K (nI r)) (nn K)
    have h12 := hO.1.2
    exact gd_yes (hO.seats hr ⟨Int32.le_trans (nI_pos' (by omega)) h1.1, h1.2⟩) qE_i (qE_le hi)
  · exact gd_no (Nat.le_refl _) hi
theorem gd_rk1 {B : Nat → Int32} {t : Nat} {K : Mm} {i : Nat} (hO : Ok K) (hi : i ≤ t) : gdR t i (rk1 B t K i) := by
  unfold rk1
  split
  · next h =>
    obtain ⟨r, hr, er⟩ := qN_7 h
    rw [er, show cl (nI r) = r from nI_clamp (by omega)]
    have hE := qE_le (B := B) hi
    have hE2 := qE_le (B := B) hE
    refine gdR.mo ?_ (qE_i (B := B) (t := t))
    unfold rk2
    split
    · exact (gd_rk3 hO hr hE2).mo qE_i
    · exact gd_no (Nat.le_refl _) hE
  · exact gd_no (Nat.le_refl _) hi
theorem gd_lw {B : Nat → Int32} {t : Nat} {K : Mm} {w i : Nat} (hO : Ok K) (hw : w < 3) (hi : i ≤ t) : gdR t i (lwR B t K w i) := by
  unfold lwR
  split
  · next h =>
    have h1 := qN_g h
    refine gd_yes (hO.laws hw (fun e => ?_)) qE_i (qE_le hi)
    subst e
    exact h1
  · exact gd_no (Nat.le_refl _) hi
theorem gd_dt {B : Nat → Int32} {t q j p : Nat} {mm : Int32} {K : Mm} {i : Nat} (hO : Ok K) (hi : i ≤ t) (hU : ∀ v, 0 ≤ v → v ≤ mm → Ok (up2 K j p v)) : gdR t i (dtR B t q j p mm K i) := by
  have hE := qE_le (B := B) hi
  have hE2 := qE_le (B := B) hE
  unfold dtR
  split
  · split
    · next h =>
      have h1 := qN_g h
      exact gd_yes (hU _ h1.1 h1.2) (Nat.le_trans (qE_i (B := B) (t := t)) qE_i) hE2
    · exact gd_no qE_i hE
  · exact gd_yes hO (Nat.le_refl _) hi
def gdX (t i : Nat) (P : Mm → Prop) (x : Option Mm × Nat) : Prop := (i ≤ x.2 ∧ x.2 ≤ t) ∧ ∀ K, x.1 = some K → P K
theorem gx_bd {t i : Nat} {P Q : Mm → Prop} {x : Option Mm × Nat} {f : Mm → Nat → Option Mm × Nat} (h : gdX t i P x) (hf : ∀ K j, P K → j ≤ t → gdX t j Q (f K j)) : gdX t i Q (bdR x f) := by
  obtain ⟨o, j⟩ := x
  cases o with
  | none => exact ⟨h.1, fun _ e => nomatch e⟩
  | some K =>
    have := hf K j (h.2 K rfl) h.1.2
    exact ⟨⟨Nat.le_trans h.1.1 this.1.1, this.1.2⟩, this.2⟩
theorem gx_dt {B : Nat → Int32} {t q j p : Nat} {mm : Int32} {K : Mm} {i : Nat} {P : Mm → Prop} (hO : P K) (hi : i ≤ t) (hU : ∀ v, 0 ≤ v → v ≤ mm → P (up2 K j p v)) : gdX t i P (dtR B t q j p mm K i) := by
  have hE := qE_le (B := B) hi
  have hE2 := qE_le (B := B) hE
  unfold dtR
  split
  · split
    · next h =>
      have h1 := qN_g h
      exact ⟨⟨Nat.le_trans (qE_i (B := B) (t := t)) qE_i, hE2⟩, fun _ e => Option.some.inj e ▸ hU _ h1.1 h1.2⟩
    · exact ⟨⟨qE_i, hE⟩, fun _ e => nomatch e⟩
  · exact ⟨⟨Nat.le_refl _, hi⟩, fun _ e => Option.some.inj e ▸ hO⟩
theorem lt_m1 {p : Nat} (hp : p < 12) {v : Int32} (h0 : 0 ≤ v) (h : v ≤ nI p - 1) : v < nI (p + 1) := by
  obtain ⟨k, hk, rfl⟩ := nI_of (fun h9 => Int32.not_le.mpr h9 h0 : ¬ v < 0)
  have e : (nI p - 1).toInt = (p : Int) - 1 := by
    rw [Int32.toInt_sub, nI_toInt (by omega), show (1 : Int32).toInt = 1 from rfl]
    exact Int.bmod_eq_of_le (by omega) (by omega)
  rw [Int32.le_iff_toInt_le, e, nI_toInt hk] at h
  exact (nI_ltI hk (by omega)).mpr (by omega)
theorem gd_psD {B : Nat → Int32} {t : Nat} {K : Mm} {p i : Nat} (hO : Ok K) (h0 : K 0 0 = nI (p + 1)) (hp : p < 12) (hi : i ≤ t) : gdR t i (psD B t K p i) := by
  have key : gdX t i (fun X => Ok X ∧ X 0 0 = nI (p + 1)) (psD B t K p i) := by
    unfold psD
    refine gx_bd (P := fun X => Ok X ∧ X 0 0 = nI (p + 1)) (gx_bd (P := fun X => Ok X ∧ X 0 0 = nI (p + 1)) (gx_bd (P := fun X => Ok X ∧ X 0 0 = nI (p + 1)) (gx_dt ⟨hO, h0⟩ hi (fun v a b => ⟨hO.age hp ⟨a, b⟩, ?_⟩)) (fun X j hX hj => gx_dt hX hj (fun v a b => ⟨hX.1.house hp, ?_⟩))) (fun X j hX hj => gx_dt hX hj (fun v a b => ⟨hX.1.gold hp ⟨a, b⟩, ?_⟩))) (fun X j hX hj => gx_dt hX hj (fun v a b => ⟨hX.1.grudge hp ⟨Int32.le_trans (by decide) a, by rw [hX.2]; exact lt_m1 hp a b⟩, ?_⟩))
    · rw [up2_up, if_neg (by omega)]; exact h0
    · rw [up2_up, if_neg (by omega)]; exact hX.2
    · rw [up2_up, if_neg (by omega)]; exact hX.2
    · rw [up2_up, if_neg (by omega)]; exact hX.2
  exact ⟨key.1, fun X e => (key.2 X e).1⟩
theorem Ok_ad {K : Mm} {kd : Int32} {r : Nat} (hO : Ok K) (hn : nn K < 12) (hk : 0 ≤ kd ∧ kd ≤ 6) (hr : r < 8) : Ok (adK K kd (nI r)) := (Ok_nw hO (by omega) hk).rank (by omega) (rk_rg (by omega))
theorem ad_00 {K : Mm} {kd r : Int32} (hO : Ok K) : adK K kd r 0 0 = nI (nn K + 1) := by
  unfold adK
  rw [up2_up, if_neg (by omega), nw_00, hO.1.1, nI_1]
theorem gd_ps1 {B : Nat → Int32} {t : Nat} {K : Mm} {kd : Int32} {i : Nat} (hO : Ok K) (hn : nn K < 12) (hk : 0 ≤ kd ∧ kd ≤ 6) (hi : i ≤ t) : gdR t i (ps1 B t K kd i) := by
  have hE := qE_le (B := B) hi
  have hE2 := qE_le (B := B) hE
  unfold ps1
  split
  · refine gdR.mo ?_ (qE_i (B := B) (t := t))
    unfold ps2
    split
    · next h =>
      obtain ⟨r, hr, er⟩ := qN_7 h.1
      rw [er]
      exact (gd_psD (Ok_ad hO hn hk hr) (ad_00 hO) hn hE2).mo qE_i
    · exact gd_no (Nat.le_refl _) hE
  · exact gd_no (Nat.le_refl _) hi
theorem kdH_6 (B : Nat → Int32) (t i : Nat) : kdH B t i ≤ 6 := by unfold kdH; (repeat' split) <;> decide
theorem lwH_or (B : Nat → Int32) (t i : Nat) : lwH B t i = 0 ∨ lwH B t i = 1 ∨ lwH B t i = 2 ∨ lwH B t i = -1 := by
  unfold lwH
  split
  · exact Or.inl rfl
  · split
    · exact Or.inr (Or.inl rfl)
    · split
      · exact Or.inr (Or.inr (Or.inl rfl))
      · exact Or.inr (Or.inr (Or.inr rfl))
theorem gd_it {B : Nat → Int32} {t : Nat} {K : Mm} {i : Nat} (hO : Ok K) (hi : i ≤ t) : gdR t i (itR B t K i) := by
  have hE := qE_le (B := B) hi
  unfold itR
  split
  · exact (gd_rk1 hO hE).mo qE_i
  · split
    · next h =>
      refine gdR.mo (gd_lw hO ?_ hE) qE_i
      rcases lwH_or B t i with e | e | e | e
      · rw [e]; decide
      · rw [e]; decide
      · rw [e]; decide
      · rw [e] at h; exact absurd h (by decide)
    · unfold psR
      split
      · next h => exact (gd_ps1 hO h.2 ⟨h.1, kdH_6 _ _ _⟩ hE).mo qE_i
      · exact gd_no (Nat.le_refl _) hi
/-- at the end of the tape no item can stand -/
theorem qW_0 {B : Nat → Int32} {t i q : Nat} (h : qK B t i = 0) : qW B t i q = false := by unfold qW; rw [decide_eq_false]; omega
theorem it_end {B : Nat → Int32} {t : Nat} {K : Mm} {i : Nat} (h : qK B t i = 0) : itR B t K i = (none, i) := by
  unfold itR psR
  rw [show lwH B t i = -1 by unfold lwH; simp [qW_0 h], show kdH B t i = -1 by unfold kdH; simp [qW_0 h], qW_0 h]
  simp
theorem tx_end {B : Nat → Int32} {t : Nat} {K : Mm} {i f n : Nat} (h : t ≤ i) : txR B t (f + 1) n K i = (none, -1 - nI (qS B t i)) := by
  rw [txR, it_end (qk_ge (Nat.le_trans h qS_ge))]
theorem tx_no {B : Nat → Int32} {t : Nat} {K : Mm} {i j f n : Nat} (h : itR B t K i = (none, j)) : txR B t (f + 1) n K i = (none, -1 - nI (qS B t j)) := by rw [txR, h]
theorem tx_ok {B : Nat → Int32} {t : Nat} {K K' : Mm} {i j f n : Nat} (h : itR B t K i = (some K', j)) (h2 : qK B t j = 0) : txR B t (f + 1) n K i = (some K', nI n) := by rw [txR, h]; simp only [h2, if_true]
theorem tx_go {B : Nat → Int32} {t : Nat} {K K' : Mm} {i j f n : Nat} (h : itR B t K i = (some K', j)) (h2 : qK B t j = 3) : txR B t (f + 1) n K i = txR B t f (n + 1) K' (qE B t j) := by rw [txR, h]; simp [h2]
theorem tx_bad {B : Nat → Int32} {t : Nat} {K K' : Mm} {i j f n : Nat} (h : itR B t K i = (some K', j)) (h2 : ¬ qK B t j = 0) (h3 : ¬ qK B t j = 3) : txR B t (f + 1) n K i = (none, -1 - nI (qS B t j)) := by rw [txR, h]; simp [h2, h3]
/-- the class's memory: its Tape's token -/
def Tp (σ : Mm) (B : Nat → Int32) (t : Nat) : Prop := σ 3 1 = nI t ∧ t ≤ 120 ∧ ∀ k, k < 120 → σ 4 k = B k
def ts (σ : Mm) (a b c d : Int32) : Mm := fun i k => if i = 3 then (if k = 2 then a else if k = 3 then b else if k = 4 then c else if k = 5 then d else σ i k) else σ i k
def tk (σ : Mm) (B : Nat → Int32) (t i : Nat) : Mm := ts σ (nI (qS B t i)) (nI (qE B t i)) (nI (qK B t i)) (qV B t i)
section TS
variable {σ : Mm} {a b c d x : Int32} {i k : Nat} {B : Nat → Int32} {t : Nat}
theorem ts_o (h : ¬ i = 3) : ts σ a b c d i = σ i := by funext k; simp [ts, h]
theorem ts_1 : ts σ a b c d 3 1 = σ 3 1 := rfl
theorem ts_2 : ts σ a b c d 3 2 = a := rfl
theorem ts_3 : ts σ a b c d 3 3 = b := rfl
theorem ts_4 : ts σ a b c d 3 4 = c := rfl
theorem ts_5 : ts σ a b c d 3 5 = d := rfl
theorem ts_w2 : up2 (ts σ a b c d) 3 2 x = ts σ x b c d := by funext i k; simp only [up2_up, ts]; grind
theorem ts_w3 : up2 (ts σ a b c d) 3 3 x = ts σ a x c d := by funext i k; simp only [up2_up, ts]; grind
theorem ts_w4 : up2 (ts σ a b c d) 3 4 x = ts σ a b x d := by funext i k; simp only [up2_up, ts]; grind
theorem ts_w5 : up2 (ts σ a b c d) 3 5 x = ts σ a b c x := by funext i k; simp only [up2_up, ts]; grind
theorem ts_self : ts σ (σ 3 2) (σ 3 3) (σ 3 4) (σ 3 5) = σ := by funext i k; simp only [ts]; grind
theorem ts_com (h : ¬ i = 3) : up2 (ts σ a b c d) i k x = ts (up2 σ i k x) a b c d := by funext i k; simp only [up2_up, ts]; grind
theorem tk_1 {j : Nat} : tk σ B t j 3 1 = σ 3 1 := rfl
theorem tk_2 {j : Nat} : tk σ B t j 3 2 = nI (qS B t j) := rfl
theorem tk_3 {j : Nat} : tk σ B t j 3 3 = nI (qE B t j) := rfl
theorem tk_4 {j : Nat} : tk σ B t j 3 4 = nI (qK B t j) := rfl
theorem tk_5 {j : Nat} : tk σ B t j 3 5 = qV B t j := rfl
theorem tk_mk {s e q : Nat} {v : Int32} (hs : qS B t i = s) (he : qE B t i = e) (hk : qK B t i = q) (hv : v = qV B t i) : ts σ (nI s) (nI e) (nI q) v = tk σ B t i := by subst hs; subst he; subst hk; subst hv; rfl
theorem tk_com (h : ¬ i = 3) {j : Nat} : up2 (tk σ B t j) i k x = tk (up2 σ i k x) B t j := ts_com h
theorem tk_o {j : Nat} (h : ¬ i = 3) : tk σ B t j i = σ i := ts_o h
theorem Tp.ts (h : Tp σ B t) : Tp (ts σ a b c d) B t := ⟨h.1, h.2.1, fun k hk => by rw [ts_o (by omega)]; exact h.2.2 k hk⟩
theorem Tp.tk (h : Tp σ B t) {j : Nat} : Tp (tk σ B t j) B t := Tp.ts h
theorem Tp.up (h : Tp σ B t) (hi : 5 ≤ i) : Tp (up2 σ i k x) B t := ⟨by rw [up2_o (by omega)]; exact h.1, h.2.1, fun q hq => by rw [up2_o (by omega)]; exact h.2.2 q hq⟩
theorem Tp.fr {σ2 : Mm} (h : Tp σ B t) (hf : Fr 37 σ σ2) : Tp σ2 B t := ⟨by rw [hf 3 (by omega)]; exact h.1, h.2.1, fun q hq => by rw [hf 4 (by omega)]; exact h.2.2 q hq⟩
theorem tk_fr {σ2 : Mm} {j : Nat} (hf : Fr 37 (tk σ B t j) σ2) : σ2 = tk σ2 B t j := by
  have h := hf 3 (by omega)
  funext i k
  unfold tk ts
  by_cases hi : i = 3
  · subst hi
    rw [h]
    unfold tk ts
    grind
  · rw [if_neg hi]
theorem fr_tk {σ2 : Mm} {j : Nat} (hf : Fr 37 (tk σ B t j) σ2) : ∀ i, ¬ i = 3 → (i < 37 ∨ 49 ≤ i) → σ2 i = σ i := fun i h1 h2 => (hf i (by omega)).trans (tk_o h1)
theorem Emp.tk {K : Mm} (h : Emp σ 37 K) {j : Nat} : Emp (tk σ B t j) 37 K := h.eq (fun q hq => tk_o (by omega))
end TS
theorem qmin {s t : Nat} (h : s ≤ t) (ht : t ≤ 120) : (if nI t < nI (s + 1) then nI t else nI (s + 1)) = nI (if s < t then s + 1 else t) := by
  by_cases h1 : s < t
  · rw [if_neg (fun q => by have := (nI_ltI (by omega) (by omega)).mp q; omega), if_pos h1]
  · rw [if_pos ((nI_ltI (by omega) (by omega)).mpr (by omega)), if_neg h1]
/-- nothing but the trial and the Tape's token has changed -/
def Ft (σ σ' : Mm) : Prop := ∀ i, ¬ i = 3 → (i < 37 ∨ 49 ≤ i) → σ' i = σ i
theorem Ft.rf {σ : Mm} : Ft σ σ := fun _ _ _ => rfl
theorem Ft.tr {σ σ1 σ2 : Mm} (a : Ft σ σ1) (b : Ft σ1 σ2) : Ft σ σ2 := fun i h k => (b i h k).trans (a i h k)
theorem Ft.up {σ σ1 : Mm} {i k : Nat} {v : Int32} (a : Ft σ σ1) (h1 : 37 ≤ i) (h2 : i < 49) : Ft σ (up2 σ1 i k v) := fun j h3 h4 => (up2_o (by omega)).trans (a j h3 h4)
theorem Ft.fr {σ σ1 σ2 : Mm} {B : Nat → Int32} {t j : Nat} (a : Ft σ σ1) (h : Fr 37 (tk σ1 B t j) σ2) : Ft σ σ2 := a.tr (fr_tk h)
/-- the end of an item's call: what it answers -/
def TR (B : Nat → Int32) (t : Nat) (σ : Mm) (x : Option Mm × Nat) (rr : Int32) (σ2 : Mm) : Prop := ∃ τ j, σ2 = tk τ B t j ∧ Ft σ τ ∧ Tp τ B t ∧ ((∃ K, x = (some K, j) ∧ rr = 1 ∧ Emp τ 37 K) ∨ (x = (none, j) ∧ rr = 0))
theorem TR.no {B : Nat → Int32} {t : Nat} {σ τ : Mm} {x : Option Mm × Nat} {j : Nat} (hf : Ft σ τ) (hT : Tp τ B t) (h : x = (none, j)) : TR B t σ x 0 (tk τ B t j) := ⟨τ, j, rfl, hf, hT, Or.inr ⟨h, rfl⟩⟩
theorem TR.yes {B : Nat → Int32} {t : Nat} {σ τ K : Mm} {x : Option Mm × Nat} {j : Nat} (hf : Ft σ τ) (hT : Tp τ B t) (hE : Emp τ 37 K) (h : x = (some K, j)) : TR B t σ x 1 (tk τ B t j) := ⟨τ, j, rfl, hf, hT, Or.inl ⟨K, h, rfl, hE⟩⟩
theorem TR.nb {B : Nat → Int32} {t : Nat} {σ σ2 : Mm} {x : Option Mm × Nat} {r : Int32} (h : TR B t σ x r σ2) : narrow .boolean (.int r) = .int r := by
  obtain ⟨τ, j, h1, h2, h3, ⟨K, h4, h5, h6⟩ | ⟨h4, h5⟩⟩ := h
  · rw [h5]; rfl
  · rw [h5]; rfl
theorem TR.eq {B : Nat → Int32} {t : Nat} {σ σ' σ2 : Mm} {x y : Option Mm × Nat} {r : Int32} (h : TR B t σ x r σ2) (hf : Ft σ' σ) (he : y = x) : TR B t σ' y r σ2 := by
  subst he
  obtain ⟨τ, j, h1, h2, h3, h4⟩ := h
  exact ⟨τ, j, h1, hf.tr h2, h3, h4⟩
theorem tx_all {B : Nat → Int32} {t : Nat} (ht : t ≤ 120) : ∀ (f n : Nat) (K : Mm) (i : Nat), Ok K → i ≤ t → n + f ≤ 1000 → (∃ K' r, txR B t f n K i = (some K', r) ∧ Ok K' ∧ ¬ r < 0) ∨ (∃ r, txR B t f n K i = (none, r) ∧ r < 0) := by
  have hneg : ∀ j, j ≤ t → (-1 : Int32) - nI (qS B t j) < 0 := fun j hj => by
    have := qS_le (B := B) hj
    rw [Int32.lt_iff_toInt_lt, Int32.toInt_sub, nI_toInt (by omega), show (-1 : Int32).toInt = -1 from rfl, show (0 : Int32).toInt = 0 from rfl, Int.bmod_eq_of_le (by omega) (by omega)]
    omega
  intro f
  induction f with
  | zero => intro n K i hO hi hn; exact Or.inr ⟨_, rfl, hneg i hi⟩
  | succ f ih =>
    intro n K i hO hi hn
    have hg := gd_it (B := B) hO hi
    rcases hx : itR B t K i with ⟨o, j⟩
    rw [hx] at hg
    cases o with
    | none => exact Or.inr ⟨_, tx_no hx, hneg j hg.1.2⟩
    | some K' =>
      by_cases h0 : qK B t j = 0
      · exact Or.inl ⟨K', nI n, tx_ok hx h0, hg.2 K' rfl, nI_pos (by omega)⟩
      · by_cases h3 : qK B t j = 3
        · rw [tx_go hx h3]; exact ih (n + 1) K' (qE B t j) (hg.2 K' rfl) (qE_le hg.1.2) (by omega)
        · exact Or.inr ⟨_, tx_bad hx h0 h3, hneg j hg.1.2⟩
theorem fin_tx {σ τ K L K2 : Mm} {g : Int32} {F : Nat → Int32} {tl : Int32} {Bt W Z : Nat → Int32} {N : Mm} (h : CR σ (K, L, g, F, tl, Bt, W, Z, N)) (hf : ∀ i, ¬ i = 3 → (i < 13 ∨ (25 ≤ i ∧ i < 37) ∨ 49 ≤ i) → τ i = σ i) (hK : Emp τ 13 K2) (hO : Ok K2) : CR (up2 τ 3 1 0) (K2, L, g, F, 0, Bt, W, Z, N) ∧ FC σ (up2 τ 3 1 0) := by
  obtain ⟨⟨a1, a2⟩, ⟨b1, b2, b3⟩, c, ⟨⟨d1, d2⟩, d3⟩, s⟩ := h
  refine ⟨⟨⟨hK.w (by omega), hO⟩, ⟨by rw [up2_o (by omega), hf 0 (by omega) (by omega)]; exact b1, b2, fun q => ⟨((b3 q).1.eq (fun i hi => hf _ (by omega) (by omega))).w (by omega), (b3 q).2⟩⟩, fun q hq => by rw [up2_o (by omega), hf 1 (by omega) (by omega)]; exact c q hq, ⟨⟨by rw [up2_up, if_pos ⟨rfl, rfl⟩], 0, by omega, rfl⟩, fun i hi => by rw [up2_o (by omega), hf 4 (by omega) (by omega)]; exact d3 i hi⟩, fun q hq => by rw [up2_o (by omega), up2_o (by omega), hf (5 + q) (by omega) (by omega), hf (9 + q) (by omega) (by omega)]; exact s q hq⟩, ?_⟩
  intro i hi
  rw [up2_o (by omega)]
  exact hf i (by omega) (by omega)
