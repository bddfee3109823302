/-! THE REFERENCE'S TEXTS: its memory with a token; bd: its flag 'bad' -/
def q3 (B : Nat → Int32) (t i : Nat) : Nat := if qK B t i = 4 then 3 else qK B t i
theorem q3_c (B : Nat → Int32) (t i : Nat) : (q3 B t i = 0 ↔ qK B t i = 0) ∧ (q3 B t i = 1 ↔ qK B t i = 1) ∧ (q3 B t i = 2 ↔ qK B t i = 2) ∧ (q3 B t i = 3 ↔ (qK B t i = 3 ∨ qK B t i = 4)) ∧ q3 B t i ≤ 3 := by
  have : qK B t i ≤ 4 := qk_le
  unfold q3
  split <;> omega
def mS (σ : Mm) (a b c d e : Int32) : Mm := fun i k => if i = 49 then (if k = 8 then a else if k = 9 then b else if k = 10 then c else if k = 11 then d else if k = 12 then e else σ i k) else σ i k
def mq (σ : Mm) (B : Nat → Int32) (t i : Nat) (bd : Int32) : Mm := mS σ (nI (q3 B t i)) (nI (qS B t i)) (nI (qE B t i)) (qV B t i) bd
def Mp (σ : Mm) (B : Nat → Int32) (t : Nat) : Prop := σ 49 7 = nI t ∧ t ≤ 120 ∧ ∀ k, k < 120 → σ 55 k = B k
section MS
variable {σ : Mm} {a b c d e x bd : Int32} {i k j : Nat} {B : Nat → Int32} {t : Nat}
theorem mS_o (h : ¬ i = 49) : mS σ a b c d e i = σ i := by funext k; simp [mS, h]
theorem mS_4 : mS σ a b c d e 49 4 = σ 49 4 := rfl
theorem mS_8 : mS σ a b c d e 49 8 = a := rfl
theorem mS_9 : mS σ a b c d e 49 9 = b := rfl
theorem mS_10 : mS σ a b c d e 49 10 = c := rfl
theorem mS_11 : mS σ a b c d e 49 11 = d := rfl
theorem mS_12 : mS σ a b c d e 49 12 = e := rfl
theorem mS_w8 : up2 (mS σ a b c d e) 49 8 x = mS σ x b c d e := by funext i k; simp only [up2_up, mS]; grind
theorem mS_w9 : up2 (mS σ a b c d e) 49 9 x = mS σ a x c d e := by funext i k; simp only [up2_up, mS]; grind
theorem mS_w10 : up2 (mS σ a b c d e) 49 10 x = mS σ a b x d e := by funext i k; simp only [up2_up, mS]; grind
theorem mS_w11 : up2 (mS σ a b c d e) 49 11 x = mS σ a b c x e := by funext i k; simp only [up2_up, mS]; grind
theorem mS_w12 : up2 (mS σ a b c d e) 49 12 x = mS σ a b c d x := by funext i k; simp only [up2_up, mS]; grind
theorem mq_w12 : up2 (mq σ B t j bd) 49 12 x = mq σ B t j x := mS_w12
theorem mS_self : mS σ (σ 49 8) (σ 49 9) (σ 49 10) (σ 49 11) (σ 49 12) = σ := by funext i k; simp only [mS]; grind
theorem mS_com (h : ¬ i = 49) : up2 (mS σ a b c d e) i k x = mS (up2 σ i k x) a b c d e := by funext i k; simp only [up2_up, mS]; grind
theorem mq_com (h : ¬ i = 49) : up2 (mq σ B t j bd) i k x = mq (up2 σ i k x) B t j bd := mS_com h
theorem mq_o (h : ¬ i = 49) : mq σ B t j bd i = σ i := mS_o h
theorem mq_4 : mq σ B t j bd 49 4 = σ 49 4 := rfl
theorem mq_8 : mq σ B t j bd 49 8 = nI (q3 B t j) := rfl
theorem mq_9 : mq σ B t j bd 49 9 = nI (qS B t j) := rfl
theorem mq_10 : mq σ B t j bd 49 10 = nI (qE B t j) := rfl
theorem mq_11 : mq σ B t j bd 49 11 = qV B t j := rfl
theorem mq_12 : mq σ B t j bd 49 12 = bd := rfl
theorem mq_mk {s e1 q : Nat} {v : Int32} (hs : qS B t i = s) (he : qE B t i = e1) (hk : q3 B t i = q) (hv : v = qV B t i) : mS σ (nI q) (nI s) (nI e1) v bd = mq σ B t i bd := by subst hs; subst he; subst hk; subst hv; rfl
theorem Mp.mS (h : Mp σ B t) : Mp (mS σ a b c d e) B t := ⟨h.1, h.2.1, fun k hk => by rw [mS_o (by omega)]; exact h.2.2 k hk⟩
theorem Mp.mq (h : Mp σ B t) : Mp (mq σ B t j bd) B t := Mp.mS h
theorem Mp.up (h : Mp σ B t) (h1 : ¬ i = 49) (h2 : ¬ i = 55) : Mp (up2 σ i k x) B t := ⟨by rw [up2_o (by omega)]; exact h.1, h.2.1, fun q hq => by rw [up2_o (by omega)]; exact h.2.2 q hq⟩
theorem Mp.f1 {σ2 : Mm} (h : Mp σ B t) (hf : F1 50 σ σ2) : Mp σ2 B t := ⟨by rw [hf 49 (by omega)]; exact h.1, h.2.1, fun q hq => by rw [hf 55 (by omega)]; exact h.2.2 q hq⟩
theorem mq_f1 {σ2 : Mm} (hf : F1 50 (mq σ B t j bd) σ2) : σ2 = mq σ2 B t j bd := by
  have h := hf 49 (by omega)
  funext i k
  unfold mq mS
  by_cases hi : i = 49
  · subst hi
    rw [h]
    unfold mq mS
    grind
  · rw [if_neg hi]
theorem vM_mq : vM (mq σ B t j bd) 50 = vM σ 50 := vM_o (mq_o (by omega))
end MS
/-- nothing but the reference's row and its token has changed -/
def Fm (σ σ' : Mm) : Prop := (∀ i, ¬ i = 49 → ¬ i = 50 → σ' i = σ i) ∧ σ' 49 4 = σ 49 4
theorem Fm.rf {σ : Mm} : Fm σ σ := ⟨fun _ _ _ => rfl, rfl⟩
theorem Fm.tr {σ σ1 σ2 : Mm} (a : Fm σ σ1) (b : Fm σ1 σ2) : Fm σ σ2 := ⟨fun i h k => (b.1 i h k).trans (a.1 i h k), b.2.trans a.2⟩
theorem Fm.up {σ σ1 : Mm} {k : Nat} {v : Int32} (a : Fm σ σ1) : Fm σ (up2 σ1 50 k v) := ⟨fun i h1 h2 => (up2_o (by omega)).trans (a.1 i h1 h2), by rw [up2_o (by omega)]; exact a.2⟩
theorem Fm.f1 {σ σ1 σ2 : Mm} {B : Nat → Int32} {t j : Nat} {bd : Int32} (a : Fm σ σ1) (h : F1 50 (mq σ1 B t j bd) σ2) : Fm σ σ2 := ⟨fun i h1 h2 => ((h i h2).trans (mq_o h1)).trans (a.1 i h1 h2), by rw [h 49 (by omega)]; exact a.2⟩
/-- the end of an item -/
def MTR (B : Nat → Int32) (t : Nat) (σ : Mm) (x : Option Mm × Nat) (σ2 : Mm) : Prop := ∃ τ j bd, σ2 = mq τ B t j bd ∧ Fm σ τ ∧ Mp τ B t ∧ ((∃ K, x = (some K, j) ∧ bd = 0 ∧ vM τ 50 = K) ∨ (x = (none, j) ∧ bd = 1))
theorem MTR.no {B : Nat → Int32} {t : Nat} {σ τ : Mm} {x : Option Mm × Nat} {j : Nat} (hf : Fm σ τ) (hT : Mp τ B t) (h : x = (none, j)) : MTR B t σ x (mq τ B t j 1) := ⟨τ, j, 1, rfl, hf, hT, Or.inr ⟨h, rfl⟩⟩
theorem MTR.yes {B : Nat → Int32} {t : Nat} {σ τ K : Mm} {x : Option Mm × Nat} {j : Nat} (hf : Fm σ τ) (hT : Mp τ B t) (hM : vM τ 50 = K) (h : x = (some K, j)) : MTR B t σ x (mq τ B t j 0) := ⟨τ, j, 0, rfl, hf, hT, Or.inl ⟨K, h, rfl, hM⟩⟩
theorem MTR.yes1 {B : Nat → Int32} {t : Nat} {σ σ1 τ K : Mm} {x : Option Mm × Nat} {j : Nat} (hf : Fm σ σ1) (hT : Mp σ1 B t) (h1 : F1 50 (mq σ1 B t j 0) τ) (hM : vM τ 50 = K) (h : x = (some K, j)) : MTR B t σ x τ := ⟨τ, j, 0, mq_f1 h1, hf.f1 h1, Mp.f1 (Mp.mq hT) h1, Or.inl ⟨K, h, rfl, hM⟩⟩
theorem MTR.eq {B : Nat → Int32} {t : Nat} {σ σ' σ2 : Mm} {x y : Option Mm × Nat} (h : MTR B t σ x σ2) (hf : Fm σ' σ) (he : y = x) : MTR B t σ' y σ2 := by
  subst he
  obtain ⟨τ, j, bd, h1, h2, h3, h4⟩ := h
  exact ⟨τ, j, bd, h1, hf.tr h2, h3, h4⟩
theorem qk_w {B : Nat → Int32} {t j : Nat} (h : j < t ∧ (97 ≤ B j ∧ B j ≤ 122)) : qk B t j = 1 := by unfold qk; rw [if_pos h.1, if_pos h.2]
theorem qk_nw {B : Nat → Int32} {t j : Nat} (h : ¬ (j < t ∧ (97 ≤ B j ∧ B j ≤ 122))) : ¬ qk B t j = 1 := by
  unfold qk
  by_cases h1 : j < t
  · rw [if_pos h1, if_neg (fun q => h ⟨h1, q⟩)]
    (repeat' split) <;> omega
  · rw [if_neg h1]; omega
theorem qk_n {B : Nat → Int32} {t j : Nat} (h : j < t ∧ (48 ≤ B j ∧ B j ≤ 57)) : qk B t j = 2 := by
  unfold qk
  rw [if_pos h.1, if_neg (fun q => absurd (Int32.le_trans q.1 h.2.2) (by decide)), if_pos h.2]
theorem qk_nn {B : Nat → Int32} {t j : Nat} (h : ¬ (j < t ∧ (48 ≤ B j ∧ B j ≤ 57))) : ¬ qk B t j = 2 := by
  unfold qk
  by_cases h1 : j < t
  · rw [if_pos h1]
    by_cases h2 : 97 ≤ B j ∧ B j ≤ 122
    · rw [if_pos h2]; omega
    · rw [if_neg h2, if_neg (fun q => h ⟨h1, q⟩)]
      split <;> omega
  · rw [if_neg h1]; omega
theorem qk_59 {B : Nat → Int32} {t j : Nat} (h : qk B t j = 3 ∨ qk B t j = 4) : qk B t j = 3 ↔ B j = 59 := by
  have h1 : j < t := qk_lt (B := B) (by omega)
  unfold qk at h ⊢
  rw [if_pos h1] at h ⊢
  by_cases h2 : 97 ≤ B j ∧ B j ≤ 122
  · rw [if_pos h2] at h; omega
  · rw [if_neg h2] at h ⊢
    by_cases h3 : 48 ≤ B j ∧ B j ≤ 57
    · rw [if_pos h3] at h; omega
    · rw [if_neg h3] at h ⊢
      by_cases h4 : B j = 59
      · simp [h4]
      · simp [h4]
theorem qW_eq {B : Nat → Int32} {t i q q' : Nat} (h : jByt.getD q' [] = jByt.getD q []) : qW B t i q' = qW B t i q := by unfold qW; rw [h]
theorem dt_t {B : Nat → Int32} {t q j p : Nat} {mm : Int32} {K : Mm} {i : Nat} (h1 : qW B t i q = true) (h2 : qN B t (qE B t i) 0 mm = true) : dtR B t q j p mm K i = (some (up2 K j p (qV B t (qE B t i))), qE B t (qE B t i)) := by unfold dtR; rw [if_pos h1, if_pos h2]
theorem dt_u {B : Nat → Int32} {t q j p : Nat} {mm v : Int32} {K : Mm} {i : Nat} (h1 : ¬ qW B t i q = true) (h2 : K j p = v) : dtR B t q j p mm K i = (some (up2 K j p v), i) := by unfold dtR; rw [if_neg h1, ← h2, up2_same]
theorem dt_b {B : Nat → Int32} {t q j p : Nat} {mm : Int32} {K : Mm} {i : Nat} (h1 : qW B t i q = true) (h2 : ¬ qN B t (qE B t i) 0 mm = true) : dtR B t q j p mm K i = (none, qE B t i) := by unfold dtR; rw [if_pos h1, if_neg h2]
theorem bdR_s {K : Mm} {i : Nat} {f : Mm → Nat → Option Mm × Nat} : bdR (some K, i) f = f K i := rfl
theorem bdR_n {i : Nat} {f : Mm → Nat → Option Mm × Nat} : bdR (none, i) f = (none, i) := rfl
theorem ad_n {K : Mm} {kd r : Int32} : adK K kd r 3 (nn K) = 30 ∧ adK K kd r 4 (nn K) = 0 ∧ adK K kd r 5 (nn K) = 100 ∧ adK K kd r 6 (nn K) = -1 := by
  unfold adK nwK
  refine ⟨?_, ?_, ?_, ?_⟩ <;> simp [up2_up]
set_option maxHeartbeats 4000000 in
set_option maxRecDepth 100000 in
theorem c_X4_isByte (E : En) (σ : Mm) (B : Nat → Int32) (t : Nat) (hP : Mp σ B t) (j : Nat) (hj : j ≤ 120) (lo1 hi1 : Int32) : CtI E yX4_isByte cX4_isByte 4 (some .boolean) 1 25 [.ref (eA E 49), .int (nI j), .int lo1, .int hi1] σ (fun rr σ2 => σ2 = σ ∧ rr = b2 (j < t ∧ (lo1 ≤ B j ∧ B j ≤ hi1))) := by
  have ht := hP.2.1
  refine CtI.of (by decide +kernel) (Nat.le_of_ble_eq_true rfl) (fun p e0 s m below meth c C hr hlk => ?_)
  refine gx_lv (lv' := [(0, .ref (eA E 49)), (1, .int (nI j)), (2, .int lo1), (3, .int hi1)]) rfl ?_
  refine gx_iload_n C dX4_isByte_0 (by rfl) (by rfl) ?_
  refine gx_aload_n C dX4_isByte_1 (by rfl) (by rfl) ?_
  refine gx_geti (k := 7) C ck4 (by rfl) (by rfl) (by decide) fl_X4_198 dX4_isByte_2 ?_
  refine gx_st (st' := [.int (nI t), .int (nI j)]) (by rw [hP.1]) ?_
  refine gx_icmp_ge (tgt := 29) C dX4_isByte_5 (by decide) (fun h1 => ?_) (fun h1 => ?_)
  ·
    have h1 := (nI_leI (a := t) (b := j) (by omega) (by omega)).mp h1
    refine gx_iconst (v := 0) C dX4_isByte_29 (by decide) ?_
    exact gx_iret C hr hlk (by first | rfl | exact nb_b2 _) ⟨rfl, b2_f (fun q9 => by first | exact absurd q9.1 (by omega) | exact absurd q9.2 (by assumption))⟩ dX4_isByte_30
  ·
    have h1 := (not_congr (nI_leI (a := t) (b := j) (by omega) (by omega))).mp h1
    refine gx_aload_n C dX4_isByte_8 (by rfl) (by rfl) ?_
    refine gx_getr (j := 55) (k := 6) C ck4 (by rfl) (by rfl) (by decide) fl_X4_25 dX4_isByte_9 ?_
    refine gx_iload_n C dX4_isByte_12 (by rfl) (by rfl) ?_
    refine gx_ialdN (k := j) C (by rfl) rfl (by omega) (by decide) dX4_isByte_13 ?_
    refine gx_st (st' := [.int (B j)]) (by rw [hP.2.2 j (by omega)]) ?_
    refine gx_i2l C dX4_isByte_14 ?_
    refine gx_iload_n C dX4_isByte_15 (by rfl) (by rfl) ?_
    refine gx_i2l C dX4_isByte_16 ?_
    refine gx_iload_n C dX4_isByte_17 (by rfl) (by rfl) ?_
    refine gx_i2l C dX4_isByte_18 ?_
    refine gx_callSI (As := [.long ((B j).toInt64), .long lo1.toInt64, .long hi1.toInt64]) (rest := []) C (c_X4_in E σ (B j) lo1 hi1 ((B j).toInt64) lo1.toInt64 hi1.toInt64 (by first | rfl | decide) (by first | rfl | decide) (by first | rfl | decide)) z_X4_in (by rfl) ml_X4_45 (by rfl) (Nat.le_of_ble_eq_true rfl) ⟨Nat.le_of_ble_eq_true rfl, Nat.le_of_ble_eq_true rfl⟩ dX4_isByte_19 (fun r2 σ2 w2 => ?_)
    obtain ⟨u1, u2⟩ := w2; rw [u1, u2]; clear u1 u2
    refine gx_if_eq (tgt := 29) C dX4_isByte_22 (by decide) (fun h3 => ?_) (fun h3 => ?_)
    ·
      have h3 := b2_z.mp h3
      refine gx_iconst (v := 0) C dX4_isByte_29 (by decide) ?_
      exact gx_iret C hr hlk (by first | rfl | exact nb_b2 _) ⟨rfl, b2_f (fun q9 => by first | exact absurd q9.1 (by omega) | exact absurd q9.2 (by assumption))⟩ dX4_isByte_30
    ·
      have h3 := b2_nz.mp h3
      refine gx_iconst (v := 1) C dX4_isByte_25 (by decide) ?_
      refine gx_goto (tgt := 30) C dX4_isByte_26 (by decide) ?_
      exact gx_iret C hr hlk (by first | rfl | exact nb_b2 _) ⟨rfl, b2_t ⟨by omega, by assumption⟩⟩ dX4_isByte_30
set_option maxHeartbeats 4000000 in
set_option maxRecDepth 100000 in
theorem c_X4_token (E : En) (σ : Mm) (B : Nat → Int32) (t : Nat) (hP : Mp σ B t) (a1 b1 : Int32) (i : Nat) (hi : i ≤ t) (d1 bd : Int32) : CtV E yX4_token cX4_token 1 none 2 48 [.ref (eA E 49)] (mS σ a1 b1 (nI i) d1 bd) (fun σ2 => σ2 = mq σ B t i bd) := by
  have ht := hP.2.1
  refine CtV.of (by decide +kernel) (Nat.le_of_ble_eq_true rfl) (fun p e0 s m below meth c C hr hlk => ?_)
  refine gx_lv (lv' := [(0, .ref (eA E 49))]) rfl ?_
  refine gx_aload_n C dX4_token_0 (by rfl) (by rfl) ?_
  refine gx_aload_n C dX4_token_1 (by rfl) (by rfl) ?_
  refine gx_geti (k := 10) C ck4 (by rfl) (by rfl) (by decide) fl_X4_202 dX4_token_2 ?_
  refine gx_st (st' := [.int (nI i), .ref (eA E 49)]) (by rw [mS_10]) ?_
  refine gx_puti (k := 9) C ck4 (by rfl) (by rfl) (by decide) (by rfl) rfl rfl fl_X4_205 dX4_token_5 ?_
  refine gx_mm (σ' := mS σ a1 (nI i) (nI i) d1 bd) mS_w9 ?_
  have loop8 : ∀ (f : Nat) (s0 : Nat), t + 1 ≤ s0 + f → s0 ≤ t → qS B t s0 = qS B t i → Gx E p e0 (rmF 2 48) s m ([.ref (eA E 49)] : List Value).toArray below meth c (MQ below (va_Qv (fun σ2 => σ2 = mq σ B t i bd) (WQ E) (AA E s.heap.size)) ([.ref (eA E 49)] : List Value).toArray s 0 0 (AA E s.heap.size)) 1 8 [(0, .ref (eA E 49))] [] (mS σ a1 (nI s0) (nI i) d1 bd) := by
    intro f
    induction f with
    | zero => intro s0 hf hs0 hq; exact absurd hf (by omega)
    | succ f ih8 =>
      intro s0 hf hs0 hq
      refine gx_aload_n C dX4_token_8 (by rfl) (by rfl) ?_
      refine gx_aload_n C dX4_token_9 (by rfl) (by rfl) ?_
      refine gx_geti (k := 9) C ck4 (by rfl) (by rfl) (by decide) fl_X4_205 dX4_token_10 ?_
      refine gx_st (st' := [.int (nI s0), .ref (eA E 49)]) (by rw [mS_9]) ?_
      refine gx_bipush (v := 32) C dX4_token_13 (by decide) ?_
      refine gx_bipush (v := 32) C dX4_token_15 (by decide) ?_
      refine gx_callVI (As := [.int (nI s0), .int 32, .int 32]) (rest := []) C (c_X4_isByte E (mS σ a1 (nI s0) (nI i) d1 bd) B t (Mp.mS hP) s0 (by omega) 32 32) z_X4_isByte ck4 (by rfl) (by rfl) ml_X4_208 (by rfl) (Nat.le_of_ble_eq_true rfl) ⟨Nat.le_of_ble_eq_true rfl, Nat.le_of_ble_eq_true rfl⟩ dX4_token_17 (fun r1 σ1 w1 => ?_)
      obtain ⟨u1, u2⟩ := w1; rw [u1, u2]; clear u1 u2
      refine gx_if_eq (tgt := 36) C dX4_token_20 (by decide) (fun h2 => ?_) (fun h2 => ?_)
      ·
        have h2 := b2_z.mp h2
        have h32 := h2
        have hs : qS B t i = s0 := by rw [← hq, qS_e (fun q9 => h32 ⟨q9.1, by rw [q9.2]; decide, by rw [q9.2]; decide⟩)]
        have hk : qK B t i = qk B t s0 := by unfold qK; rw [hs]
        have h3 := q3_c B t i
        have hq4 : qk B t s0 ≤ 4 := qk_le
        refine gx_aload_n C dX4_token_36 (by rfl) (by rfl) ?_
        refine gx_aload_n C dX4_token_37 (by rfl) (by rfl) ?_
        refine gx_geti (k := 9) C ck4 (by rfl) (by rfl) (by decide) fl_X4_205 dX4_token_38 ?_
        refine gx_st (st' := [.int (nI s0), .ref (eA E 49)]) (by rw [mS_9]) ?_
        refine gx_puti (k := 10) C ck4 (by rfl) (by rfl) (by decide) (by rfl) rfl rfl fl_X4_202 dX4_token_41 ?_
        refine gx_mm (σ' := mS σ a1 (nI s0) (nI s0) d1 bd) mS_w10 ?_
        refine gx_aload_n C dX4_token_44 (by rfl) (by rfl) ?_
        refine gx_iconst (v := 0) C dX4_token_45 (by decide) ?_
        refine gx_puti (k := 11) C ck4 (by rfl) (by rfl) (by decide) (by rfl) rfl rfl fl_X4_212 dX4_token_46 ?_
        refine gx_mm (σ' := mS σ a1 (nI s0) (nI s0) 0 bd) mS_w11 ?_
        refine gx_aload_n C dX4_token_49 (by rfl) (by rfl) ?_
        refine gx_aload_n C dX4_token_50 (by rfl) (by rfl) ?_
        refine gx_geti (k := 9) C ck4 (by rfl) (by rfl) (by decide) fl_X4_205 dX4_token_51 ?_
        refine gx_st (st' := [.int (nI s0), .ref (eA E 49)]) (by rw [mS_9]) ?_
        refine gx_aload_n C dX4_token_54 (by rfl) (by rfl) ?_
        refine gx_geti (k := 7) C ck4 (by rfl) (by rfl) (by decide) fl_X4_198 dX4_token_55 ?_
        refine gx_st (st' := [.int (nI t), .int (nI s0), .ref (eA E 49)]) (by rw [(Mp.mS hP).1]) ?_
        refine gx_icmp_ne (tgt := 65) C dX4_token_58 (by decide) (fun h3 => ?_) (fun h3 => ?_)
        ·
          have h3 := (not_congr (nI_eq (a := s0) (b := t) (by omega) (by omega))).mp h3
          have hsl : s0 < t := by omega
          have hnz : ¬ qk B t s0 = 0 := fun q9 => by have := qk_0 q9; omega
          refine gx_aload_n C dX4_token_65 (by rfl) (by rfl) ?_
          refine gx_aload_n C dX4_token_66 (by rfl) (by rfl) ?_
          refine gx_geti (k := 9) C ck4 (by rfl) (by rfl) (by decide) fl_X4_205 dX4_token_67 ?_
          refine gx_st (st' := [.int (nI s0), .ref (eA E 49), .ref (eA E 49)]) (by rw [mS_9]) ?_
          refine gx_bipush (v := 97) C dX4_token_70 (by decide) ?_
          refine gx_bipush (v := 122) C dX4_token_72 (by decide) ?_
          refine gx_callVI (As := [.int (nI s0), .int 97, .int 122]) (rest := [.ref (eA E 49)]) C (c_X4_isByte E (mS σ a1 (nI s0) (nI s0) 0 bd) B t (Mp.mS hP) s0 (by omega) 97 122) z_X4_isByte ck4 (by rfl) (by rfl) ml_X4_208 (by rfl) (Nat.le_of_ble_eq_true rfl) ⟨Nat.le_of_ble_eq_true rfl, Nat.le_of_ble_eq_true rfl⟩ dX4_token_74 (fun r4 σ4 w4 => ?_)
          obtain ⟨u1, u2⟩ := w4; rw [u1, u2]; clear u1 u2
          refine gx_if_eq (tgt := 84) C dX4_token_77 (by decide) (fun h5 => ?_) (fun h5 => ?_)
          ·
            have h5 := b2_z.mp h5
            have hn1 := qk_nw h5
            refine gx_aload_n C dX4_token_84 (by rfl) (by rfl) ?_
            refine gx_aload_n C dX4_token_85 (by rfl) (by rfl) ?_
            refine gx_geti (k := 9) C ck4 (by rfl) (by rfl) (by decide) fl_X4_205 dX4_token_86 ?_
            refine gx_st (st' := [.int (nI s0), .ref (eA E 49), .ref (eA E 49)]) (by rw [mS_9]) ?_
            refine gx_bipush (v := 48) C dX4_token_89 (by decide) ?_
            refine gx_bipush (v := 57) C dX4_token_91 (by decide) ?_
            refine gx_callVI (As := [.int (nI s0), .int 48, .int 57]) (rest := [.ref (eA E 49)]) C (c_X4_isByte E (mS σ a1 (nI s0) (nI s0) 0 bd) B t (Mp.mS hP) s0 (by omega) 48 57) z_X4_isByte ck4 (by rfl) (by rfl) ml_X4_208 (by rfl) (Nat.le_of_ble_eq_true rfl) ⟨Nat.le_of_ble_eq_true rfl, Nat.le_of_ble_eq_true rfl⟩ dX4_token_93 (fun r6 σ6 w6 => ?_)
            obtain ⟨u1, u2⟩ := w6; rw [u1, u2]; clear u1 u2
            refine gx_if_eq (tgt := 103) C dX4_token_96 (by decide) (fun h7 => ?_) (fun h7 => ?_)
            ·
              have h7 := b2_z.mp h7
              have hn2 := qk_nn h7
              refine gx_iconst (v := 3) C dX4_token_103 (by decide) ?_
              refine gx_puti (k := 8) C ck4 (by rfl) (by rfl) (by decide) (by rfl) rfl rfl fl_X4_215 dX4_token_104 ?_
              refine gx_mm (σ' := mS σ 3 (nI s0) (nI s0) 0 bd) mS_w8 ?_
              refine gx_aload_n C dX4_token_107 (by rfl) (by rfl) ?_
              refine gx_geti (k := 8) C ck4 (by rfl) (by rfl) (by decide) fl_X4_215 dX4_token_108 ?_
              refine gx_st (st' := [.int 3]) (by rw [mS_8]) ?_
              refine gx_iconst (v := 3) C dX4_token_111 (by decide) ?_
              refine gx_icmp_ne (tgt := 125) C dX4_token_112 (by decide) (fun h8 => ?_) (fun h8 => ?_)
              ·
                exact absurd h8 (by decide)
              ·
                clear h8
                refine gx_aload_n C dX4_token_115 (by rfl) (by rfl) ?_
                refine gx_dup C (by rfl) dX4_token_116 ?_
                refine gx_geti (k := 10) C ck4 (by rfl) (by rfl) (by decide) fl_X4_202 dX4_token_117 ?_
                refine gx_st (st' := [.int (nI s0), .ref (eA E 49)]) (by rw [mS_10]) ?_
                refine gx_iconst (v := 1) C dX4_token_120 (by decide) ?_
                refine gx_iadd C dX4_token_121 ?_
                refine gx_st (st' := [.int (nI (s0 + 1)), .ref (eA E 49)]) (by rw [show (nI s0) + 1 = nI (s0 + 1) from nI_add s0 1]) ?_
                refine gx_puti (k := 10) C ck4 (by rfl) (by rfl) (by decide) (by rfl) rfl rfl fl_X4_202 dX4_token_122 ?_
                refine gx_mm (σ' := mS σ 3 (nI s0) (nI (s0 + 1)) 0 bd) mS_w10 ?_
                refine gx_aload_n C dX4_token_125 (by rfl) (by rfl) ?_
                refine gx_geti (k := 8) C ck4 (by rfl) (by rfl) (by decide) fl_X4_215 dX4_token_126 ?_
                refine gx_st (st' := [.int 3]) (by rw [mS_8]) ?_
                refine gx_iconst (v := 1) C dX4_token_129 (by decide) ?_
                refine gx_icmp_ne (tgt := 161) C dX4_token_130 (by decide) (fun h9 => ?_) (fun h9 => ?_)
                ·
                  clear h9
                  refine gx_aload_n C dX4_token_161 (by rfl) (by rfl) ?_
                  refine gx_geti (k := 8) C ck4 (by rfl) (by rfl) (by decide) fl_X4_215 dX4_token_162 ?_
                  refine gx_st (st' := [.int 3]) (by rw [mS_8]) ?_
                  refine gx_iconst (v := 2) C dX4_token_165 (by decide) ?_
                  refine gx_icmp_ne (tgt := 238) C dX4_token_166 (by decide) (fun h10 => ?_) (fun h10 => ?_)
                  ·
                    clear h10
                    exact gx_vret C hr hlk (mq_mk (q := 3) hs (by rw [qE_34 (by omega) (by omega), hs]) (by omega) (by unfold qV; rw [if_neg (by omega)])) dX4_token_238
                  ·
                    exact absurd h10 (by decide)
                ·
                  exact absurd h9 (by decide)
            ·
              have h7 := b2_nz.mp h7
              have hkk : qk B t s0 = 2 := qk_n h7
              refine gx_iconst (v := 2) C dX4_token_99 (by decide) ?_
              refine gx_goto (tgt := 104) C dX4_token_100 (by decide) ?_
              refine gx_puti (k := 8) C ck4 (by rfl) (by rfl) (by decide) (by rfl) rfl rfl fl_X4_215 dX4_token_104 ?_
              refine gx_mm (σ' := mS σ 2 (nI s0) (nI s0) 0 bd) mS_w8 ?_
              refine gx_aload_n C dX4_token_107 (by rfl) (by rfl) ?_
              refine gx_geti (k := 8) C ck4 (by rfl) (by rfl) (by decide) fl_X4_215 dX4_token_108 ?_
              refine gx_st (st' := [.int 2]) (by rw [mS_8]) ?_
              refine gx_iconst (v := 3) C dX4_token_111 (by decide) ?_
              refine gx_icmp_ne (tgt := 125) C dX4_token_112 (by decide) (fun h11 => ?_) (fun h11 => ?_)
              ·
                clear h11
                refine gx_aload_n C dX4_token_125 (by rfl) (by rfl) ?_
                refine gx_geti (k := 8) C ck4 (by rfl) (by rfl) (by decide) fl_X4_215 dX4_token_126 ?_
                refine gx_st (st' := [.int 2]) (by rw [mS_8]) ?_
                refine gx_iconst (v := 1) C dX4_token_129 (by decide) ?_
                refine gx_icmp_ne (tgt := 161) C dX4_token_130 (by decide) (fun h14 => ?_) (fun h14 => ?_)
                ·
                  clear h14
                  have loop161 : ∀ (g : Nat) (n : Nat), t + 1 ≤ s0 + n + g → s0 + n ≤ t → qX B t 2 (s0 + n) = qE B t i → Gx E p e0 (rmF 2 48) s m ([.ref (eA E 49)] : List Value).toArray below meth c (MQ below (va_Qv (fun σ2 => σ2 = mq σ B t i bd) (WQ E) (AA E s.heap.size)) ([.ref (eA E 49)] : List Value).toArray s 0 0 (AA E s.heap.size)) 1 161 [(0, .ref (eA E 49))] [] (mS σ 2 (nI s0) (nI (s0 + n)) (qvv B s0 n) bd) := by
                    intro g
                    induction g with
                    | zero => intro n hg hj hX; exact absurd hg (by omega)
                    | succ g ih161 =>
                      intro n hg hj hX
                      refine gx_aload_n C dX4_token_161 (by rfl) (by rfl) ?_
                      refine gx_geti (k := 8) C ck4 (by rfl) (by rfl) (by decide) fl_X4_215 dX4_token_162 ?_
                      refine gx_st (st' := [.int 2]) (by rw [mS_8]) ?_
                      refine gx_iconst (v := 2) C dX4_token_165 (by decide) ?_
                      refine gx_icmp_ne (tgt := 238) C dX4_token_166 (by decide) (fun h15 => ?_) (fun h15 => ?_)
                      ·
                        exact absurd h15 (by decide)
                      ·
                        clear h15
                        refine gx_aload_n C dX4_token_169 (by rfl) (by rfl) ?_
                        refine gx_aload_n C dX4_token_170 (by rfl) (by rfl) ?_
                        refine gx_geti (k := 10) C ck4 (by rfl) (by rfl) (by decide) fl_X4_202 dX4_token_171 ?_
                        refine gx_st (st' := [.int (nI (s0 + n)), .ref (eA E 49)]) (by rw [mS_10]) ?_
                        refine gx_bipush (v := 48) C dX4_token_174 (by decide) ?_
                        refine gx_bipush (v := 57) C dX4_token_176 (by decide) ?_
                        refine gx_callVI (As := [.int (nI (s0 + n)), .int 48, .int 57]) (rest := []) C (c_X4_isByte E (mS σ 2 (nI s0) (nI (s0 + n)) (qvv B s0 n) bd) B t (Mp.mS hP) (s0 + n) (by omega) 48 57) z_X4_isByte ck4 (by rfl) (by rfl) ml_X4_208 (by rfl) (Nat.le_of_ble_eq_true rfl) ⟨Nat.le_of_ble_eq_true rfl, Nat.le_of_ble_eq_true rfl⟩ dX4_token_178 (fun r16 σ16 w16 => ?_)
                        obtain ⟨u1, u2⟩ := w16; rw [u1, u2]; clear u1 u2
                        refine gx_if_eq (tgt := 238) C dX4_token_181 (by decide) (fun h17 => ?_) (fun h17 => ?_)
                        ·
                          have h17 := b2_z.mp h17
                          have hb9 := h17
                          exact gx_vret C hr hlk (mq_mk (q := 2) hs (show qE B t i = s0 + n by rw [← hX, qX_e (qk_nn hb9)]) (by omega) (by unfold qV; rw [if_pos (by omega), hs, show qE B t i = s0 + n by rw [← hX, qX_e (qk_nn hb9)], Nat.add_sub_cancel_left])) dX4_token_238
                        ·
                          have h17 := b2_nz.mp h17
                          have hb9 := h17
                          refine gx_aload_n C dX4_token_184 (by rfl) (by rfl) ?_
                          refine gx_aload_n C dX4_token_185 (by rfl) (by rfl) ?_
                          refine gx_geti (k := 11) C ck4 (by rfl) (by rfl) (by decide) fl_X4_212 dX4_token_186 ?_
                          refine gx_st (st' := [.int (qvv B s0 n), .ref (eA E 49)]) (by rw [mS_11]) ?_
                          refine gx_sipush (v := 9999) C dX4_token_189 (by decide) ?_
                          refine gx_icmp_le (tgt := 202) C dX4_token_192 (by decide) (fun h18 => ?_) (fun h18 => ?_)
                          ·
                            have hv9 := h18
                            refine gx_bipush (v := 10) C dX4_token_202 (by decide) ?_
                            refine gx_aload_n C dX4_token_204 (by rfl) (by rfl) ?_
                            refine gx_geti (k := 11) C ck4 (by rfl) (by rfl) (by decide) fl_X4_212 dX4_token_205 ?_
                            refine gx_st (st' := [.int (qvv B s0 n), .int 10, .ref (eA E 49)]) (by rw [mS_11]) ?_
                            refine gx_imul C dX4_token_208 ?_
                            refine gx_aload_n C dX4_token_209 (by rfl) (by rfl) ?_
                            refine gx_getr (j := 55) (k := 6) C ck4 (by rfl) (by rfl) (by decide) fl_X4_25 dX4_token_210 ?_
                            refine gx_aload_n C dX4_token_213 (by rfl) (by rfl) ?_
                            refine gx_geti (k := 10) C ck4 (by rfl) (by rfl) (by decide) fl_X4_202 dX4_token_214 ?_
                            refine gx_st (st' := [.int (nI (s0 + n)), .ref (eA E 55), .int (10 * (qvv B s0 n)), .ref (eA E 49)]) (by rw [mS_10]) ?_
                            refine gx_ialdN (k := (s0 + n)) C (by rfl) rfl (by omega) (by decide) dX4_token_217 ?_
                            refine gx_st (st' := [.int (B (s0 + n)), .int (10 * (qvv B s0 n)), .ref (eA E 49)]) (by rw [(Mp.mS hP).2.2 (s0 + n) (by omega)]) ?_
                            refine gx_iadd C dX4_token_218 ?_
                            refine gx_bipush (v := 48) C dX4_token_219 (by decide) ?_
                            refine gx_isub C dX4_token_221 ?_
                            refine gx_puti (k := 11) C ck4 (by rfl) (by rfl) (by decide) (by rfl) rfl rfl fl_X4_212 dX4_token_222 ?_
                            refine gx_mm (σ' := mS σ 2 (nI s0) (nI (s0 + n)) (((10 * (qvv B s0 n)) + (B (s0 + n))) - 48) bd) mS_w11 ?_
                            refine gx_aload_n C dX4_token_225 (by rfl) (by rfl) ?_
                            refine gx_dup C (by rfl) dX4_token_226 ?_
                            refine gx_geti (k := 10) C ck4 (by rfl) (by rfl) (by decide) fl_X4_202 dX4_token_227 ?_
                            refine gx_st (st' := [.int (nI (s0 + n)), .ref (eA E 49)]) (by rw [mS_10]) ?_
                            refine gx_iconst (v := 1) C dX4_token_230 (by decide) ?_
                            refine gx_iadd C dX4_token_231 ?_
                            refine gx_st (st' := [.int (nI (s0 + n + 1)), .ref (eA E 49)]) (by rw [show (nI (s0 + n)) + 1 = nI (s0 + n + 1) from nI_add (s0 + n) 1]) ?_
                            refine gx_puti (k := 10) C ck4 (by rfl) (by rfl) (by decide) (by rfl) rfl rfl fl_X4_202 dX4_token_232 ?_
                            refine gx_mm (σ' := mS σ 2 (nI s0) (nI (s0 + n + 1)) (((10 * (qvv B s0 n)) + (B (s0 + n))) - 48) bd) mS_w10 ?_
                            refine gx_goto (tgt := 161) C dX4_token_235 (by decide) ?_
                            refine gx_mm (σ' := mS σ 2 (nI s0) (nI (s0 + (n + 1))) (qvv B s0 (n + 1)) bd) (by rw [qvv, if_neg (Int32.not_lt.mpr hv9), Int32.mul_comm]; rfl) ?_
                            exact ih161 (n + 1) (by omega) (by omega) ((qX_s (by omega) (qk_n hb9)).symm.trans hX)
                          ·
                            have hv9 := h18
                            refine gx_aload_n C dX4_token_195 (by rfl) (by rfl) ?_
                            refine gx_geti (k := 11) C ck4 (by rfl) (by rfl) (by decide) fl_X4_212 dX4_token_196 ?_
                            refine gx_st (st' := [.int (qvv B s0 n), .ref (eA E 49)]) (by rw [mS_11]) ?_
                            refine gx_goto (tgt := 222) C dX4_token_199 (by decide) ?_
                            refine gx_puti (k := 11) C ck4 (by rfl) (by rfl) (by decide) (by rfl) rfl rfl fl_X4_212 dX4_token_222 ?_
                            refine gx_mm (σ' := mS σ 2 (nI s0) (nI (s0 + n)) (qvv B s0 n) bd) mS_w11 ?_
                            refine gx_aload_n C dX4_token_225 (by rfl) (by rfl) ?_
                            refine gx_dup C (by rfl) dX4_token_226 ?_
                            refine gx_geti (k := 10) C ck4 (by rfl) (by rfl) (by decide) fl_X4_202 dX4_token_227 ?_
                            refine gx_st (st' := [.int (nI (s0 + n)), .ref (eA E 49)]) (by rw [mS_10]) ?_
                            refine gx_iconst (v := 1) C dX4_token_230 (by decide) ?_
                            refine gx_iadd C dX4_token_231 ?_
                            refine gx_st (st' := [.int (nI (s0 + n + 1)), .ref (eA E 49)]) (by rw [show (nI (s0 + n)) + 1 = nI (s0 + n + 1) from nI_add (s0 + n) 1]) ?_
                            refine gx_puti (k := 10) C ck4 (by rfl) (by rfl) (by decide) (by rfl) rfl rfl fl_X4_202 dX4_token_232 ?_
                            refine gx_mm (σ' := mS σ 2 (nI s0) (nI (s0 + n + 1)) (qvv B s0 n) bd) mS_w10 ?_
                            refine gx_goto (tgt := 161) C dX4_token_235 (by decide) ?_
                            refine gx_mm (σ' := mS σ 2 (nI s0) (nI (s0 + (n + 1))) (qvv B s0 (n + 1)) bd) (by rw [qvv, if_pos (Int32.not_le.mp hv9)]; rfl) ?_
                            exact ih161 (n + 1) (by omega) (by omega) ((qX_s (by omega) (qk_n hb9)).symm.trans hX)
                  exact loop161 (t + 1) 0 (by omega) (by omega) (by rw [qE_12 (by omega), hs, hk, hkk, Nat.add_zero, ← qX_s (by omega) hkk])
                ·
                  exact absurd h14 (by decide)
              ·
                exact absurd h11 (by decide)
          ·
            have h5 := b2_nz.mp h5
            have hkk : qk B t s0 = 1 := qk_w h5
            refine gx_iconst (v := 1) C dX4_token_80 (by decide) ?_
            refine gx_goto (tgt := 104) C dX4_token_81 (by decide) ?_
            refine gx_puti (k := 8) C ck4 (by rfl) (by rfl) (by decide) (by rfl) rfl rfl fl_X4_215 dX4_token_104 ?_
            refine gx_mm (σ' := mS σ 1 (nI s0) (nI s0) 0 bd) mS_w8 ?_
            refine gx_aload_n C dX4_token_107 (by rfl) (by rfl) ?_
            refine gx_geti (k := 8) C ck4 (by rfl) (by rfl) (by decide) fl_X4_215 dX4_token_108 ?_
            refine gx_st (st' := [.int 1]) (by rw [mS_8]) ?_
            refine gx_iconst (v := 3) C dX4_token_111 (by decide) ?_
            refine gx_icmp_ne (tgt := 125) C dX4_token_112 (by decide) (fun h19 => ?_) (fun h19 => ?_)
            ·
              clear h19
              have loop125 : ∀ (g : Nat) (j : Nat), t + 1 ≤ j + g → j ≤ t → s0 ≤ j → qX B t 1 j = qE B t i → Gx E p e0 (rmF 2 48) s m ([.ref (eA E 49)] : List Value).toArray below meth c (MQ below (va_Qv (fun σ2 => σ2 = mq σ B t i bd) (WQ E) (AA E s.heap.size)) ([.ref (eA E 49)] : List Value).toArray s 0 0 (AA E s.heap.size)) 1 125 [(0, .ref (eA E 49))] [] (mS σ 1 (nI s0) (nI j) 0 bd) := by
                intro g
                induction g with
                | zero => intro j hg hj hsj hX; exact absurd hg (by omega)
                | succ g ih125 =>
                  intro j hg hj hsj hX
                  refine gx_aload_n C dX4_token_125 (by rfl) (by rfl) ?_
                  refine gx_geti (k := 8) C ck4 (by rfl) (by rfl) (by decide) fl_X4_215 dX4_token_126 ?_
                  refine gx_st (st' := [.int 1]) (by rw [mS_8]) ?_
                  refine gx_iconst (v := 1) C dX4_token_129 (by decide) ?_
                  refine gx_icmp_ne (tgt := 161) C dX4_token_130 (by decide) (fun h20 => ?_) (fun h20 => ?_)
                  ·
                    exact absurd h20 (by decide)
                  ·
                    clear h20
                    refine gx_aload_n C dX4_token_133 (by rfl) (by rfl) ?_
                    refine gx_aload_n C dX4_token_134 (by rfl) (by rfl) ?_
                    refine gx_geti (k := 10) C ck4 (by rfl) (by rfl) (by decide) fl_X4_202 dX4_token_135 ?_
                    refine gx_st (st' := [.int (nI j), .ref (eA E 49)]) (by rw [mS_10]) ?_
                    refine gx_bipush (v := 97) C dX4_token_138 (by decide) ?_
                    refine gx_bipush (v := 122) C dX4_token_140 (by decide) ?_
                    refine gx_callVI (As := [.int (nI j), .int 97, .int 122]) (rest := []) C (c_X4_isByte E (mS σ 1 (nI s0) (nI j) 0 bd) B t (Mp.mS hP) j (by omega) 97 122) z_X4_isByte ck4 (by rfl) (by rfl) ml_X4_208 (by rfl) (Nat.le_of_ble_eq_true rfl) ⟨Nat.le_of_ble_eq_true rfl, Nat.le_of_ble_eq_true rfl⟩ dX4_token_142 (fun r21 σ21 w21 => ?_)
                    obtain ⟨u1, u2⟩ := w21; rw [u1, u2]; clear u1 u2
                    refine gx_if_eq (tgt := 161) C dX4_token_145 (by decide) (fun h22 => ?_) (fun h22 => ?_)
                    ·
                      have h22 := b2_z.mp h22
                      have hb9 := h22
                      refine gx_aload_n C dX4_token_161 (by rfl) (by rfl) ?_
                      refine gx_geti (k := 8) C ck4 (by rfl) (by rfl) (by decide) fl_X4_215 dX4_token_162 ?_
                      refine gx_st (st' := [.int 1]) (by rw [mS_8]) ?_
                      refine gx_iconst (v := 2) C dX4_token_165 (by decide) ?_
                      refine gx_icmp_ne (tgt := 238) C dX4_token_166 (by decide) (fun h23 => ?_) (fun h23 => ?_)
                      ·
                        clear h23
                        exact gx_vret C hr hlk (mq_mk (q := 1) hs (by rw [← hX, qX_e (qk_nw hb9)]) (by omega) (by unfold qV; rw [if_neg (by omega)])) dX4_token_238
                      ·
                        exact absurd h23 (by decide)
                    ·
                      have h22 := b2_nz.mp h22
                      have hb9 := h22
                      refine gx_aload_n C dX4_token_148 (by rfl) (by rfl) ?_
                      refine gx_dup C (by rfl) dX4_token_149 ?_
                      refine gx_geti (k := 10) C ck4 (by rfl) (by rfl) (by decide) fl_X4_202 dX4_token_150 ?_
                      refine gx_st (st' := [.int (nI j), .ref (eA E 49)]) (by rw [mS_10]) ?_
                      refine gx_iconst (v := 1) C dX4_token_153 (by decide) ?_
                      refine gx_iadd C dX4_token_154 ?_
                      refine gx_st (st' := [.int (nI (j + 1)), .ref (eA E 49)]) (by rw [show (nI j) + 1 = nI (j + 1) from nI_add j 1]) ?_
                      refine gx_puti (k := 10) C ck4 (by rfl) (by rfl) (by decide) (by rfl) rfl rfl fl_X4_202 dX4_token_155 ?_
                      refine gx_mm (σ' := mS σ 1 (nI s0) (nI (j + 1)) 0 bd) mS_w10 ?_
                      refine gx_goto (tgt := 125) C dX4_token_158 (by decide) ?_
                      exact ih125 (j + 1) (by omega) (by omega) (by omega) ((qX_s (by omega) (qk_w hb9)).symm.trans hX)
              exact loop125 (t + 1) s0 (by omega) (by omega) (by omega) (by rw [qE_12 (by omega), hs, hk, hkk, ← qX_s (by omega) hkk])
            ·
              exact absurd h19 (by decide)
        ·
          have h3 := (nI_eq (a := s0) (b := t) (by omega) (by omega)).mp h3
          have hkk : qk B t s0 = 0 := qk_ge (by omega)
          refine gx_iconst (v := 0) C dX4_token_61 (by decide) ?_
          refine gx_goto (tgt := 104) C dX4_token_62 (by decide) ?_
          refine gx_puti (k := 8) C ck4 (by rfl) (by rfl) (by decide) (by rfl) rfl rfl fl_X4_215 dX4_token_104 ?_
          refine gx_mm (σ' := mS σ 0 (nI s0) (nI s0) 0 bd) mS_w8 ?_
          refine gx_aload_n C dX4_token_107 (by rfl) (by rfl) ?_
          refine gx_geti (k := 8) C ck4 (by rfl) (by rfl) (by decide) fl_X4_215 dX4_token_108 ?_
          refine gx_st (st' := [.int 0]) (by rw [mS_8]) ?_
          refine gx_iconst (v := 3) C dX4_token_111 (by decide) ?_
          refine gx_icmp_ne (tgt := 125) C dX4_token_112 (by decide) (fun h24 => ?_) (fun h24 => ?_)
          ·
            clear h24
            refine gx_aload_n C dX4_token_125 (by rfl) (by rfl) ?_
            refine gx_geti (k := 8) C ck4 (by rfl) (by rfl) (by decide) fl_X4_215 dX4_token_126 ?_
            refine gx_st (st' := [.int 0]) (by rw [mS_8]) ?_
            refine gx_iconst (v := 1) C dX4_token_129 (by decide) ?_
            refine gx_icmp_ne (tgt := 161) C dX4_token_130 (by decide) (fun h26 => ?_) (fun h26 => ?_)
            ·
              clear h26
              refine gx_aload_n C dX4_token_161 (by rfl) (by rfl) ?_
              refine gx_geti (k := 8) C ck4 (by rfl) (by rfl) (by decide) fl_X4_215 dX4_token_162 ?_
              refine gx_st (st' := [.int 0]) (by rw [mS_8]) ?_
              refine gx_iconst (v := 2) C dX4_token_165 (by decide) ?_
              refine gx_icmp_ne (tgt := 238) C dX4_token_166 (by decide) (fun h27 => ?_) (fun h27 => ?_)
              ·
                clear h27
                exact gx_vret C hr hlk (mq_mk (q := 0) hs (by rw [qE_0 (by omega), hs]) (by omega) (by unfold qV; rw [if_neg (by omega)])) dX4_token_238
              ·
                exact absurd h27 (by decide)
            ·
              exact absurd h26 (by decide)
          ·
            exact absurd h24 (by decide)
      ·
        have h2 := b2_nz.mp h2
        have h32 := h2
        refine gx_aload_n C dX4_token_23 (by rfl) (by rfl) ?_
        refine gx_dup C (by rfl) dX4_token_24 ?_
        refine gx_geti (k := 9) C ck4 (by rfl) (by rfl) (by decide) fl_X4_205 dX4_token_25 ?_
        refine gx_st (st' := [.int (nI s0), .ref (eA E 49)]) (by rw [mS_9]) ?_
        refine gx_iconst (v := 1) C dX4_token_28 (by decide) ?_
        refine gx_iadd C dX4_token_29 ?_
        refine gx_st (st' := [.int (nI (s0 + 1)), .ref (eA E 49)]) (by rw [show (nI s0) + 1 = nI (s0 + 1) from nI_add s0 1]) ?_
        refine gx_puti (k := 9) C ck4 (by rfl) (by rfl) (by decide) (by rfl) rfl rfl fl_X4_205 dX4_token_30 ?_
        refine gx_mm (σ' := mS σ a1 (nI (s0 + 1)) (nI i) d1 bd) mS_w9 ?_
        refine gx_goto (tgt := 8) C dX4_token_33 (by decide) ?_
        exact ih8 (s0 + 1) (by omega) (by omega) ((qS_s (by omega) (Int32.le_antisymm h32.2.2 h32.2.1)).symm.trans hq)
  exact loop8 (t + 1) i (by omega) (by omega) rfl
theorem c_X4_token2 (E : En) (σ : Mm) (B : Nat → Int32) (t : Nat) (hP : Mp σ B t) (i : Nat) (hi : i ≤ t) (bd : Int32) : CtV E yX4_token cX4_token 1 none 2 48 [.ref (eA E 49)] (mq σ B t i bd) (fun σ2 => σ2 = mq σ B t (qE B t i) bd) := c_X4_token E σ B t hP (nI (q3 B t i)) (nI (qS B t i)) (qE B t i) (qE_le hi) (qV B t i) bd
set_option maxHeartbeats 4000000 in
set_option maxRecDepth 100000 in
theorem c_X4_isWord (E : En) (σ : Mm) (B : Nat → Int32) (t : Nat) (hP : Mp σ B t) (i : Nat) (hi : i ≤ t) (q : Nat) (hq : q < 34) : CtI E yX4_isWord cX4_isWord 4 (some .boolean) 4 85 [.ref (eA E 49), .ref (eZ E (100 + q))] (mq σ B t i 0) (fun rr σ2 => σ2 = mq σ B t i 0 ∧ rr = b2 (qW B t i q = true)) := by
  have ht := hP.2.1
  have hlen := jB_len q hq
  have hge := qE_ge (B := B) (t := t) (i := i)
  have hle := qE_le (B := B) hi
  have h3 := q3_c B t i
  refine CtI.of (by decide +kernel) (Nat.le_of_ble_eq_true rfl) (fun p e0 s m below meth c C hr hlk => ?_)
  refine gx_lv (lv' := [(0, .ref (eA E 49)), (1, .ref (eZ E (100 + q)))]) rfl ?_
  refine gx_aload_n C dX4_isWord_0 (by rfl) (by rfl) ?_
  refine gx_geti (k := 12) C ck4 (by rfl) (by rfl) (by decide) fl_X4_218 dX4_isWord_1 ?_
  refine gx_st (st' := [.int 0]) (by rw [mq_12]) ?_
  refine gx_if_ne (tgt := 35) C dX4_isWord_4 (by decide) (fun h1 => ?_) (fun h1 => ?_)
  ·
    exact absurd h1 (by decide)
  ·
    clear h1
    refine gx_aload_n C dX4_isWord_7 (by rfl) (by rfl) ?_
    refine gx_geti (k := 8) C ck4 (by rfl) (by rfl) (by decide) fl_X4_215 dX4_isWord_8 ?_
    refine gx_st (st' := [.int (nI (q3 B t i))]) (by rw [mq_8]) ?_
    refine gx_iconst (v := 1) C dX4_isWord_11 (by decide) ?_
    refine gx_icmp_ne (tgt := 35) C dX4_isWord_12 (by decide) (fun h2 => ?_) (fun h2 => ?_)
    ·
      have h2 := (not_congr (nI_eq (a := (q3 B t i)) (b := 1) (by omega) (by omega))).mp h2
      refine gx_iconst (v := 0) C dX4_isWord_35 (by decide) ?_
      refine gx_istore_n (lv2 := [(2, .int 0), (0, .ref (eA E 49)), (1, .ref (eZ E (100 + q)))]) C dX4_isWord_36 (by rfl) (by decide) rfl ?_
      refine gx_iconst (v := 0) C dX4_isWord_37 (by decide) ?_
      refine gx_istore_n (lv2 := [(3, .int 0), (2, .int 0), (0, .ref (eA E 49)), (1, .ref (eZ E (100 + q)))]) C dX4_isWord_38 (by rfl) (by decide) rfl ?_
      refine gx_iload_n C dX4_isWord_39 (by rfl) (by rfl) ?_
      refine gx_if_eq (tgt := 82) C dX4_isWord_40 (by decide) (fun h3 => ?_) (fun h3 => ?_)
      ·
        clear h3
        refine gx_iload_n C dX4_isWord_82 (by rfl) (by rfl) ?_
        exact gx_iret C hr hlk (by first | rfl | exact nb_b2 _) ⟨rfl, b2_f (fun q9 => by have q8 := of_decide_eq_true q9; first | exact absurd q8.1 (by omega) | exact absurd q8.2.1 (by omega) | exact absurd (q8.2.2 k0 (by omega)) (by assumption))⟩ dX4_isWord_83
      ·
        exact absurd h3 (by decide)
    ·
      have h2 := (nI_eq (a := (q3 B t i)) (b := 1) (by omega) (by omega)).mp h2
      refine gx_aload_n C dX4_isWord_15 (by rfl) (by rfl) ?_
      refine gx_geti (k := 10) C ck4 (by rfl) (by rfl) (by decide) fl_X4_202 dX4_isWord_16 ?_
      refine gx_st (st' := [.int (nI (qE B t i))]) (by rw [mq_10]) ?_
      refine gx_aload_n C dX4_isWord_19 (by rfl) (by rfl) ?_
      refine gx_geti (k := 9) C ck4 (by rfl) (by rfl) (by decide) fl_X4_205 dX4_isWord_20 ?_
      refine gx_st (st' := [.int (nI (qS B t i)), .int (nI (qE B t i))]) (by rw [mq_9]) ?_
      refine gx_isub C dX4_isWord_23 ?_
      refine gx_st (st' := [.int (nI (qE B t i - qS B t i))]) (by rw [show (nI (qE B t i)) - (nI (qS B t i)) = nI (qE B t i - qS B t i) from pk_sub (by omega)]) ?_
      refine gx_aload_n C dX4_isWord_24 (by rfl) (by rfl) ?_
      refine gx_callTI (As := []) (rest := [.int (nI (qE B t i - qS B t i))]) C (by omega) (c_J0_length_8abf5 E (mq σ B t i 0) q (by omega)) z_J0_length_8abf5 (by rfl) ml_X4_222 (by rfl) (Nat.le_of_ble_eq_true rfl) ⟨Nat.le_of_ble_eq_true rfl, Nat.le_of_ble_eq_true rfl⟩ dX4_isWord_25 (fun r4 σ4 w4 => ?_)
      obtain ⟨u1, u2⟩ := w4; rw [u1, u2]; clear u1 u2
      refine gx_icmp_ne (tgt := 35) C dX4_isWord_28 (by decide) (fun h5 => ?_) (fun h5 => ?_)
      ·
        have h5 := (not_congr (nI_eq (a := (qE B t i - qS B t i)) (b := ((jByt.getD q []).length)) (by omega) (by omega))).mp h5
        refine gx_iconst (v := 0) C dX4_isWord_35 (by decide) ?_
        refine gx_istore_n (lv2 := [(2, .int 0), (0, .ref (eA E 49)), (1, .ref (eZ E (100 + q)))]) C dX4_isWord_36 (by rfl) (by decide) rfl ?_
        refine gx_iconst (v := 0) C dX4_isWord_37 (by decide) ?_
        refine gx_istore_n (lv2 := [(3, .int 0), (2, .int 0), (0, .ref (eA E 49)), (1, .ref (eZ E (100 + q)))]) C dX4_isWord_38 (by rfl) (by decide) rfl ?_
        refine gx_iload_n C dX4_isWord_39 (by rfl) (by rfl) ?_
        refine gx_if_eq (tgt := 82) C dX4_isWord_40 (by decide) (fun h6 => ?_) (fun h6 => ?_)
        ·
          clear h6
          refine gx_iload_n C dX4_isWord_82 (by rfl) (by rfl) ?_
          exact gx_iret C hr hlk (by first | rfl | exact nb_b2 _) ⟨rfl, b2_f (fun q9 => by have q8 := of_decide_eq_true q9; first | exact absurd q8.1 (by omega) | exact absurd q8.2.1 (by omega) | exact absurd (q8.2.2 k0 (by omega)) (by assumption))⟩ dX4_isWord_83
        ·
          exact absurd h6 (by decide)
      ·
        have h5 := (nI_eq (a := (qE B t i - qS B t i)) (b := ((jByt.getD q []).length)) (by omega) (by omega)).mp h5
        refine gx_iconst (v := 1) C dX4_isWord_31 (by decide) ?_
        refine gx_goto (tgt := 36) C dX4_isWord_32 (by decide) ?_
        refine gx_istore_n (lv2 := [(2, .int 1), (0, .ref (eA E 49)), (1, .ref (eZ E (100 + q)))]) C dX4_isWord_36 (by rfl) (by decide) rfl ?_
        refine gx_iconst (v := 0) C dX4_isWord_37 (by decide) ?_
        refine gx_istore_n (lv2 := [(3, .int 0), (2, .int 1), (0, .ref (eA E 49)), (1, .ref (eZ E (100 + q)))]) C dX4_isWord_38 (by rfl) (by decide) rfl ?_
        have loop39 : ∀ (kf k0 : Nat), k0 ≤ (jByt.getD q []).length → (jByt.getD q []).length < k0 + kf → (∀ b, b < k0 → B (qS B t i + b) = (jByt.getD q []).getD b 0) → Gx E p e0 (rmF 4 85) s m ([.ref (eA E 49), .ref (eZ E (100 + q))] : List Value).toArray below meth c (MQ below (va_Qi (fun rr σ2 => σ2 = mq σ B t i 0 ∧ rr = b2 (qW B t i q = true)) (WQ E) (AA E s.heap.size)) ([.ref (eA E 49), .ref (eZ E (100 + q))] : List Value).toArray s 0 0 (AA E s.heap.size)) 4 39 [(0, .ref (eA E 49)), (1, .ref (eZ E (100 + q))), (2, .int 1), (3, .int (nI k0))] [] (mq σ B t i 0) := by
          intro kf
          induction kf with
          | zero => intro k0 q1 q2; exact absurd q2 (by omega)
          | succ kf ih39 =>
            intro k0 a39 b39 hal
            refine gx_iload_n C dX4_isWord_39 (by rfl) (by rfl) ?_
            refine gx_if_eq (tgt := 82) C dX4_isWord_40 (by decide) (fun h7 => ?_) (fun h7 => ?_)
            ·
              exact absurd h7 (by decide)
            ·
              clear h7
              refine gx_iload_n C dX4_isWord_43 (by rfl) (by rfl) ?_
              refine gx_aload_n C dX4_isWord_44 (by rfl) (by rfl) ?_
              refine gx_callTI (As := []) (rest := [.int (nI k0)]) C (by omega) (c_J0_length_8abf5 E (mq σ B t i 0) q (by omega)) z_J0_length_8abf5 (by rfl) ml_X4_222 (by rfl) (Nat.le_of_ble_eq_true rfl) ⟨Nat.le_of_ble_eq_true rfl, Nat.le_of_ble_eq_true rfl⟩ dX4_isWord_45 (fun r8 σ8 w8 => ?_)
              obtain ⟨u1, u2⟩ := w8; rw [u1, u2]; clear u1 u2
              refine gx_icmp_ge (tgt := 82) C dX4_isWord_48 (by decide) (fun h9 => ?_) (fun h9 => ?_)
              ·
                have h9 := (nI_leI (a := ((jByt.getD q []).length)) (b := k0) (by omega) (by omega)).mp h9
                refine gx_iload_n C dX4_isWord_82 (by rfl) (by rfl) ?_
                exact gx_iret C hr hlk (by first | rfl | exact nb_b2 _) ⟨rfl, b2_t (decide_eq_true ⟨by omega, by omega, fun b hb => hal b (by omega)⟩)⟩ dX4_isWord_83
              ·
                have h9 := (not_congr (nI_leI (a := ((jByt.getD q []).length)) (b := k0) (by omega) (by omega))).mp h9
                refine gx_aload_n C dX4_isWord_51 (by rfl) (by rfl) ?_
                refine gx_getr (j := 55) (k := 6) C ck4 (by rfl) (by rfl) (by decide) fl_X4_25 dX4_isWord_52 ?_
                refine gx_aload_n C dX4_isWord_55 (by rfl) (by rfl) ?_
                refine gx_geti (k := 9) C ck4 (by rfl) (by rfl) (by decide) fl_X4_205 dX4_isWord_56 ?_
                refine gx_st (st' := [.int (nI (qS B t i)), .ref (eA E 55)]) (by rw [mq_9]) ?_
                refine gx_iload_n C dX4_isWord_59 (by rfl) (by rfl) ?_
                refine gx_iadd C dX4_isWord_60 ?_
                refine gx_st (st' := [.int (nI (qS B t i + k0)), .ref (eA E 55)]) (by rw [show (nI (qS B t i)) + (nI k0) = nI (qS B t i + k0) from nI_add (qS B t i) k0]) ?_
                refine gx_ialdN (k := (qS B t i + k0)) C (by rfl) rfl (by omega) (by decide) dX4_isWord_61 ?_
                refine gx_st (st' := [.int (B (qS B t i + k0))]) (by rw [(Mp.mq hP).2.2 (qS B t i + k0) (by omega)]) ?_
                refine gx_aload_n C dX4_isWord_62 (by rfl) (by rfl) ?_
                refine gx_iload_n C dX4_isWord_63 (by rfl) (by rfl) ?_
                refine gx_callTI (As := [.int (nI k0)]) (rest := [.int (B (qS B t i + k0))]) C (by omega) (c_J0_charAt_5068e E (mq σ B t i 0) q (by omega) k0 (by omega)) z_J0_charAt_5068e (by rfl) ml_X4_227 (by rfl) (Nat.le_of_ble_eq_true rfl) ⟨Nat.le_of_ble_eq_true rfl, Nat.le_of_ble_eq_true rfl⟩ dX4_isWord_64 (fun r10 σ10 w10 => ?_)
                obtain ⟨u1, u2⟩ := w10; rw [u1, u2]; clear u1 u2
                refine gx_icmp_ne (tgt := 74) C dX4_isWord_67 (by decide) (fun h11 => ?_) (fun h11 => ?_)
                ·
                  refine gx_iconst (v := 0) C dX4_isWord_74 (by decide) ?_
                  refine gx_istore_n (lv2 := [(2, .int 0), (0, .ref (eA E 49)), (1, .ref (eZ E (100 + q))), (3, .int (nI k0))]) C dX4_isWord_75 (by rfl) (by decide) rfl ?_
                  refine gx_iinc (v := nI (k0 + 1)) (lv2 := [(3, .int (nI (k0 + 1))), (2, .int 0), (0, .ref (eA E 49)), (1, .ref (eZ E (100 + q)))]) C dX4_isWord_76 (by rfl) (by exact nI_p1 _) (by decide) rfl ?_
                  refine gx_goto (tgt := 39) C dX4_isWord_79 (by decide) ?_
                  refine gx_iload_n C dX4_isWord_39 (by rfl) (by rfl) ?_
                  refine gx_if_eq (tgt := 82) C dX4_isWord_40 (by decide) (fun h14 => ?_) (fun h14 => ?_)
                  ·
                    clear h14
                    refine gx_iload_n C dX4_isWord_82 (by rfl) (by rfl) ?_
                    exact gx_iret C hr hlk (by first | rfl | exact nb_b2 _) ⟨rfl, b2_f (fun q9 => by have q8 := of_decide_eq_true q9; first | exact absurd q8.1 (by omega) | exact absurd q8.2.1 (by omega) | exact absurd (q8.2.2 k0 (by omega)) (by assumption))⟩ dX4_isWord_83
                  ·
                    exact absurd h14 (by decide)
                ·
                  refine gx_iconst (v := 1) C dX4_isWord_70 (by decide) ?_
                  refine gx_goto (tgt := 75) C dX4_isWord_71 (by decide) ?_
                  refine gx_istore_n (lv2 := [(2, .int 1), (0, .ref (eA E 49)), (1, .ref (eZ E (100 + q))), (3, .int (nI k0))]) C dX4_isWord_75 (by rfl) (by decide) rfl ?_
                  refine gx_iinc (v := nI (k0 + 1)) (lv2 := [(3, .int (nI (k0 + 1))), (2, .int 1), (0, .ref (eA E 49)), (1, .ref (eZ E (100 + q)))]) C dX4_isWord_76 (by rfl) (by exact nI_p1 _) (by decide) rfl ?_
                  refine gx_goto (tgt := 39) C dX4_isWord_79 (by decide) ?_
                  refine gx_sub [2, 3, 1, 0] (lv' := [(0, .ref (eA E 49)), (1, .ref (eZ E (100 + q))), (2, .int 1), (3, .int (nI (k0 + 1)))]) rfl ?_
                  exact ih39 (k0 + 1) (by omega) (by omega) (lt_s hal (by assumption))
        refine gx_sub [2, 3, 1, 0] (lv' := [(0, .ref (eA E 49)), (1, .ref (eZ E (100 + q))), (2, .int 1), (3, .int 0)]) rfl ?_
        refine gx_lv (lv' := [(0, .ref (eA E 49)), (1, .ref (eZ E (100 + q))), (2, .int 1), (3, .int (nI 0))]) (by rfl) ?_
        exact loop39 ((jByt.getD q []).length + 1) 0 (by omega) (by omega) (fun b y => absurd y (by omega))
set_option maxHeartbeats 4000000 in
set_option maxRecDepth 100000 in
theorem c_X4_isWord_b (E : En) (σ : Mm) (B : Nat → Int32) (t : Nat) (hP : Mp σ B t) (i : Nat) (hi : i ≤ t) (q : Nat) (hq : q < 34) : CtI E yX4_isWord cX4_isWord 4 (some .boolean) 0 0 [.ref (eA E 49), .ref (eZ E (100 + q))] (mq σ B t i 1) (fun rr σ2 => σ2 = mq σ B t i 1 ∧ rr = 0) := by
  have ht := hP.2.1
  have hlen := jB_len q hq
  have hge := qE_ge (B := B) (t := t) (i := i)
  have hle := qE_le (B := B) hi
  have h3 := q3_c B t i
  refine CtI.of (by decide +kernel) (Nat.le_of_ble_eq_true rfl) (fun p e0 s m below meth c C hr hlk => ?_)
  refine gx_lv (lv' := [(0, .ref (eA E 49)), (1, .ref (eZ E (100 + q)))]) rfl ?_
  refine gx_aload_n C dX4_isWord_0 (by rfl) (by rfl) ?_
  refine gx_geti (k := 12) C ck4 (by rfl) (by rfl) (by decide) fl_X4_218 dX4_isWord_1 ?_
  refine gx_st (st' := [.int 1]) (by rw [mq_12]) ?_
  refine gx_if_ne (tgt := 35) C dX4_isWord_4 (by decide) (fun h1 => ?_) (fun h1 => ?_)
  ·
    clear h1
    refine gx_iconst (v := 0) C dX4_isWord_35 (by decide) ?_
    refine gx_istore_n (lv2 := [(2, .int 0), (0, .ref (eA E 49)), (1, .ref (eZ E (100 + q)))]) C dX4_isWord_36 (by rfl) (by decide) rfl ?_
    refine gx_iconst (v := 0) C dX4_isWord_37 (by decide) ?_
    refine gx_istore_n (lv2 := [(3, .int 0), (2, .int 0), (0, .ref (eA E 49)), (1, .ref (eZ E (100 + q)))]) C dX4_isWord_38 (by rfl) (by decide) rfl ?_
    refine gx_iload_n C dX4_isWord_39 (by rfl) (by rfl) ?_
    refine gx_if_eq (tgt := 82) C dX4_isWord_40 (by decide) (fun h2 => ?_) (fun h2 => ?_)
    ·
      clear h2
      refine gx_iload_n C dX4_isWord_82 (by rfl) (by rfl) ?_
      exact gx_iret C hr hlk (by first | rfl | exact nb_b2 _) ⟨rfl, rfl⟩ dX4_isWord_83
    ·
      exact absurd h2 (by decide)
  ·
    exact absurd h1 (by decide)
