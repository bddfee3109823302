/-! one who is OUT stays so -/
theorem out_py {K : Mm} {i q : Nat} : pyK K i 2 q = K 2 q := by simp [pyK]
theorem out_ag {K : Mm} {i q : Nat} : agK K i 2 q = K 2 q := by simp [agK]
theorem out_fl {r q : Nat} (hr : r < 8) : ∀ (f : Nat) (K : Mm), Ok K → K 2 q = -1 → flR r f K 2 q = -1 := by
  intro f
  induction f with
  | zero => intro K _ h; exact h
  | succ f ih =>
    intro K hO h
    rw [flR]
    split
    · next h1 =>
      obtain ⟨x1, x2, x3⟩ := clamp_hr hO.1.2 h1.2
      have h12 := hO.1.2
      refine ih _ (hO.rank (by omega) (rk_rg hr)) ?_
      rw [up2_up, if_neg]
      · exact h
      · intro h2
        rw [← h2.2] at x3
        simp only [inP, h] at x3
        exact m1_nI (by omega) (of_decide_eq_true x3)
    · exact h
theorem out_fa {q : Nat} : ∀ (r : Nat), r ≤ 7 → ∀ (K : Mm), Ok K → K 2 q = -1 → flA r K 2 q = -1 := by
  intro r
  induction r with
  | zero => intro _ K _ h; exact h
  | succ r ih =>
    intro hr K hO h
    exact out_fl (by omega) 13 _ (fa_keep r (by omega) K hO).1 (ih (by omega) K hO h)
theorem out_mo {K : Mm} {q : Nat} (hO : Ok K) (h : K 2 q = -1) : mo K 2 q = -1 := by
  have h1 : mo1 K 2 q = -1 := by
    unfold mo1
    rw [up2_up, if_neg (by omega)]
    unfold outK
    split
    · rfl
    · exact h
  have h2 : mo2 K 2 q = -1 := by
    unfold mo2
    rw [out_py]
    exact out_fa 7 (by omega) _ (mo1_keep hO).1 h1
  unfold mo
  rw [up2_up, if_neg (by omega)]
  unfold mo3
  split
  · rw [out_ag]; exact h2
  · exact h2
theorem out_mos {K : Mm} {q : Nat} (hO : Ok K) {i : Nat} (h : mos i K 2 q = -1) : ∀ n, i ≤ n → mos n K 2 q = -1 := by
  intro n
  induction n with
  | zero => intro hi; rw [show i = 0 by omega] at h; exact h
  | succ n ih =>
    intro hi
    by_cases h1 : i = n + 1
    · rw [← h1]; exact h
    · exact out_mo (mos_keep hO n).1 (ih (by omega))
set_option maxHeartbeats 4000000 in
set_option maxRecDepth 100000 in
theorem c_X0_goMonth (E : En) (σ : Mm) (e : Nat) (he : isE e) (K : Mm) (hK : Emp σ e K) (hO : Ok K) : CtV E yX0_goMonth cX0_goMonth 1 none 4 94 [.ref (eA E e)] σ (fun σ2 => Emp σ2 e (mo K) ∧ Fr e σ σ2) := by
  obtain ⟨⟨hn, h12⟩, hpp, hlw, hsp, hz0⟩ := id hO
  refine CtV.of (by decide +kernel) (Nat.le_of_ble_eq_true rfl) (fun p e0 s m below meth c C hr hlk => ?_)
  refine gx_lv (lv' := [(0, .ref (eA E e))]) rfl ?_
  refine gx_aload_n C dX0_goMonth_0 (by rfl) (by rfl) ?_
  refine gx_aload_n C dX0_goMonth_1 (by rfl) (by rfl) ?_
  refine gx_callVI (As := []) (rest := [.ref (eA E e)]) C (c_X0_falling E σ e he K hK hO) z_X0_falling ck0 (sh_e he) (by rfl) ml_X0_127 (by rfl) (Nat.le_of_ble_eq_true rfl) ⟨Nat.le_of_ble_eq_true rfl, Nat.le_of_ble_eq_true rfl⟩ dX0_goMonth_2 (fun r1 σ1 w1 => ?_)
  obtain ⟨u1, u2⟩ := w1; rw [u1, u2]; clear u1 u2
  refine gx_callVV (As := [.int (bset (nn K) (trP K))]) (rest := []) C (c_X0_turnOut E σ e he K hK hO (trP K)) z_X0_turnOut ck0 (sh_e he) (by rfl) ml_X0_130 (by rfl) (Nat.le_of_ble_eq_true rfl) ⟨Nat.le_of_ble_eq_true rfl, Nat.le_of_ble_eq_true rfl⟩ dX0_goMonth_5 (fun σ2 w2 => ?_)
  obtain ⟨hK2, hF2⟩ := w2
  obtain ⟨X2, eX2⟩ : ∃ X, X = up2 (outK K (trP K) (nn K)) 0 2 (K 0 2 + nI (cnt (trP K) (nn K))) := ⟨_, rfl⟩
  rw [← eX2] at hK2
  have hO2 : Ok X2 := by rw [eX2]; exact (mo1_keep hO).1
  have h122 := hO2.1.2
  refine gx_aload_n C dX0_goMonth_8 (by rfl) (by rfl) ?_
  refine gx_callVV (As := []) (rest := []) C (c_X0_fillSeats E σ2 e he X2 hK2 hO2) z_X0_fillSeats ck0 (sh_e he) (by rfl) ml_X0_134 (by rfl) (Nat.le_of_ble_eq_true rfl) ⟨Nat.le_of_ble_eq_true rfl, Nat.le_of_ble_eq_true rfl⟩ dX0_goMonth_9 (fun σ3 w3 => ?_)
  obtain ⟨hK3, hF3⟩ := w3
  obtain ⟨X3, eX3⟩ : ∃ X, X = flA 7 X2 := ⟨_, rfl⟩
  rw [← eX3] at hK3
  have hO3 : Ok X3 := by rw [eX3]; exact (fa_keep 7 (by omega) _ hO2).1
  have h123 := hO3.1.2
  refine gx_aload_n C dX0_goMonth_12 (by rfl) (by rfl) ?_
  refine gx_callVV (As := []) (rest := []) C (c_X0_pay E σ3 e he X3 hK3 hO3) z_X0_pay ck0 (sh_e he) (by rfl) ml_X0_137 (by rfl) (Nat.le_of_ble_eq_true rfl) ⟨Nat.le_of_ble_eq_true rfl, Nat.le_of_ble_eq_true rfl⟩ dX0_goMonth_13 (fun σ4 w4 => ?_)
  obtain ⟨hK4, hF4⟩ := w4
  obtain ⟨X4, eX4⟩ : ∃ X, X = pyK X3 (nn X3) := ⟨_, rfl⟩
  rw [← eX4] at hK4
  have hO4 : Ok X4 := by rw [eX4]; exact (Ok_py hO3 _ (Nat.le_refl _))
  have h124 := hO4.1.2
  refine gx_aload_n C dX0_goMonth_16 (by rfl) (by rfl) ?_
  refine gx_geti (k := 12) C ck0 (sh_e he) (by rfl) (by decide) fl_X0_61 dX0_goMonth_17 ?_
  refine gx_st (st' := [.int (X4 0 1)]) (by rw [hK4.m]) ?_
  refine gx_bipush (v := 12) C dX0_goMonth_20 (by decide) ?_
  refine gx_irem C (by decide) dX0_goMonth_22 ?_
  refine gx_bipush (v := 11) C dX0_goMonth_23 (by decide) ?_
  refine gx_icmp_ne (tgt := 32) C dX0_goMonth_25 (by decide) (fun h5 => ?_) (fun h5 => ?_)
  ·
    refine gx_aload_n C dX0_goMonth_32 (by rfl) (by rfl) ?_
    refine gx_dup C (by rfl) dX0_goMonth_33 ?_
    refine gx_geti (k := 12) C ck0 (sh_e he) (by rfl) (by decide) fl_X0_61 dX0_goMonth_34 ?_
    refine gx_st (st' := [.int (X4 0 1), .ref (eA E e)]) (by rw [hK4.m]) ?_
    refine gx_iconst (v := 1) C dX0_goMonth_37 (by decide) ?_
    refine gx_iadd C dX0_goMonth_38 ?_
    refine gx_puti (k := 12) C ck0 (sh_e he) (by rfl) (by decide) (by rfl) rfl rfl fl_X0_61 dX0_goMonth_39 ?_
    exact gx_vret C hr hlk ⟨by have m1 : mo1 K = X2 := (by rw [eX2, mo1]); have m0 : nn X3 = nn K := (by rw [eX3, (fa_keep 7 (by omega) _ hO2).2, ← m1, (mo1_keep hO).2]); have m2 : mo2 K = X4 := (by rw [mo2, m1, ← eX3, eX4, m0]); have m3 : mo3 X4 = X4 := (by rw [mo3, if_neg (by assumption)]); rw [mo, m2, m3]; exact hK4.um, ((((Fr.rf).tr hF2).tr hF3).tr hF4).up (by omega) (by omega)⟩ dX0_goMonth_42
  ·
    refine gx_aload_n C dX0_goMonth_28 (by rfl) (by rfl) ?_
    refine gx_callVV (As := []) (rest := []) C (c_X0_growOlder E σ4 e he X4 hK4 hO4) z_X0_growOlder ck0 (sh_e he) (by rfl) ml_X0_140 (by rfl) (Nat.le_of_ble_eq_true rfl) ⟨Nat.le_of_ble_eq_true rfl, Nat.le_of_ble_eq_true rfl⟩ dX0_goMonth_29 (fun σ6 w6 => ?_)
    obtain ⟨hK6, hF6⟩ := w6
    obtain ⟨X6, eX6⟩ : ∃ X, X = agK X4 (nn X4) := ⟨_, rfl⟩
    rw [← eX6] at hK6
    have hO6 : Ok X6 := by rw [eX6]; exact (Ok_ag hO4 _ (Nat.le_refl _))
    have h126 := hO6.1.2
    refine gx_aload_n C dX0_goMonth_32 (by rfl) (by rfl) ?_
    refine gx_dup C (by rfl) dX0_goMonth_33 ?_
    refine gx_geti (k := 12) C ck0 (sh_e he) (by rfl) (by decide) fl_X0_61 dX0_goMonth_34 ?_
    refine gx_st (st' := [.int (X6 0 1), .ref (eA E e)]) (by rw [hK6.m]) ?_
    refine gx_iconst (v := 1) C dX0_goMonth_37 (by decide) ?_
    refine gx_iadd C dX0_goMonth_38 ?_
    refine gx_puti (k := 12) C ck0 (sh_e he) (by rfl) (by decide) (by rfl) rfl rfl fl_X0_61 dX0_goMonth_39 ?_
    exact gx_vret C hr hlk ⟨by have m1 : mo1 K = X2 := (by rw [eX2, mo1]); have m0 : nn X3 = nn K := (by rw [eX3, (fa_keep 7 (by omega) _ hO2).2, ← m1, (mo1_keep hO).2]); have m2 : mo2 K = X4 := (by rw [mo2, m1, ← eX3, eX4, m0]); have m3 : mo3 X4 = X6 := (by rw [mo3, if_pos (by assumption), eX6]); rw [mo, m2, m3]; exact hK6.um, (((((Fr.rf).tr hF2).tr hF3).tr hF4).tr hF6).up (by omega) (by omega)⟩ dX0_goMonth_42
set_option maxHeartbeats 4000000 in
set_option maxRecDepth 100000 in
theorem c_X0_pass (E : En) (σ : Mm) (e : Nat) (he : isE e) (K : Mm) (hK : Emp σ e K) (hO : Ok K) (t : Nat) (ht : t ≤ 120) : CtI E yX0_pass cX0_pass 4 (some .int) 5 114 [.ref (eA E e), .int (nI t)] σ (fun rr σ2 => rr = mos t K 0 2 - K 0 2 ∧ Emp σ2 e (mos t K) ∧ Fr e σ σ2) := by
  obtain ⟨⟨hn, h12⟩, hpp, hlw, hsp, hz0⟩ := id hO
  refine CtI.of (by decide +kernel) (Nat.le_of_ble_eq_true rfl) (fun p e0 s m below meth c C hr hlk => ?_)
  refine gx_lv (lv' := [(0, .ref (eA E e)), (1, .int (nI t))]) rfl ?_
  refine gx_aload_n C dX0_pass_0 (by rfl) (by rfl) ?_
  refine gx_geti (k := 13) C ck0 (sh_e he) (by rfl) (by decide) fl_X0_64 dX0_pass_1 ?_
  refine gx_st (st' := [.int (K 0 2)]) (by rw [hK.t]) ?_
  refine gx_istore_n (lv2 := [(2, .int (K 0 2)), (0, .ref (eA E e)), (1, .int (nI t))]) C dX0_pass_4 (by rfl) (by decide) rfl ?_
  refine gx_iconst (v := 0) C dX0_pass_5 (by decide) ?_
  refine gx_istore_n (lv2 := [(3, .int 0), (2, .int (K 0 2)), (0, .ref (eA E e)), (1, .int (nI t))]) C dX0_pass_6 (by rfl) (by decide) rfl ?_
  have loop7 : ∀ (kf i7 : Nat), i7 ≤ t → t < i7 + kf → ∀ τ : Mm, (Emp τ e (mos i7 K)) → (Fr e σ τ) → Gx E p e0 (rmF 5 114) s m ([.ref (eA E e), .int (nI t)] : List Value).toArray below meth c (MQ below (va_Qi (fun rr σ2 => rr = mos t K 0 2 - K 0 2 ∧ Emp σ2 e (mos t K) ∧ Fr e σ σ2) (WQ E) (AA E s.heap.size)) ([.ref (eA E e), .int (nI t)] : List Value).toArray s 0 0 (AA E s.heap.size)) 4 7 [(0, .ref (eA E e)), (1, .int (nI t)), (2, .int (K 0 2)), (3, .int (nI i7))] [] τ := by
    intro kf
    induction kf with
    | zero => intro i7 q1 q2; exact absurd q2 (by omega)
    | succ kf ih7 =>
      intro i7 a7 b7 τ hKt hFt
      refine gx_iload_n C dX0_pass_7 (by rfl) (by rfl) ?_
      refine gx_iload_n C dX0_pass_8 (by rfl) (by rfl) ?_
      refine gx_icmp_ge (tgt := 22) C dX0_pass_9 (by decide) (fun h1 => ?_) (fun h1 => ?_)
      ·
        have h1 := (nI_leI (a := t) (b := i7) (by omega) (by omega)).mp h1
        refine gx_aload_n C dX0_pass_22 (by rfl) (by rfl) ?_
        refine gx_geti (k := 13) C ck0 (sh_e he) (by rfl) (by decide) fl_X0_64 dX0_pass_23 ?_
        refine gx_st (st' := [.int ((mos i7 K) 0 2)]) (by rw [hKt.t]) ?_
        refine gx_iload_n C dX0_pass_26 (by rfl) (by rfl) ?_
        refine gx_isub C dX0_pass_27 ?_
        exact gx_iret C hr hlk rfl (by have q1 : i7 = t := (by omega); rw [q1] at hKt; rw [← hKt.t, q1, hKt.t]; exact ⟨rfl, hKt, hFt⟩) dX0_pass_28
      ·
        have h1 := (not_congr (nI_leI (a := t) (b := i7) (by omega) (by omega))).mp h1
        refine gx_aload_n C dX0_pass_12 (by rfl) (by rfl) ?_
        refine gx_callVV (As := []) (rest := []) C (c_X0_goMonth E τ e he (mos i7 K) hKt ((mos_keep hO i7).1)) z_X0_goMonth ck0 (sh_e he) (by rfl) ml_X0_124 (by rfl) (Nat.le_of_ble_eq_true rfl) ⟨Nat.le_of_ble_eq_true rfl, Nat.le_of_ble_eq_true rfl⟩ dX0_pass_13 (fun σ2 w2 => ?_)
        obtain ⟨hK2, hF2⟩ := w2
        obtain ⟨X2, eX2⟩ : ∃ X, X = mo (mos i7 K) := ⟨_, rfl⟩
        rw [← eX2] at hK2
        have hO2 : Ok X2 := by rw [eX2]; exact (mo_keep ((mos_keep hO i7).1)).1
        have h122 := hO2.1.2
        refine gx_iinc (v := nI (i7 + 1)) (lv2 := [(3, .int (nI (i7 + 1))), (0, .ref (eA E e)), (1, .int (nI t)), (2, .int (K 0 2))]) C dX0_pass_16 (by rfl) (by exact nI_p1 _) (by decide) rfl ?_
        refine gx_goto (tgt := 7) C dX0_pass_19 (by decide) ?_
        refine gx_sub [1, 2, 3, 0] (lv' := [(0, .ref (eA E e)), (1, .int (nI t)), (2, .int (K 0 2)), (3, .int (nI (i7 + 1)))]) rfl ?_
        exact ih7 (i7 + 1) (by omega) (by omega) σ2 (by rw [mos, ← eX2]; exact hK2) (hFt.tr hF2)
  refine gx_sub [2, 3, 1, 0] (lv' := [(0, .ref (eA E e)), (1, .int (nI t)), (2, .int (K 0 2)), (3, .int 0)]) rfl ?_
  refine gx_lv (lv' := [(0, .ref (eA E e)), (1, .int (nI t)), (2, .int (K 0 2)), (3, .int (nI 0))]) (by rfl) ?_
  exact loop7 (t + 1) 0 (by omega) (by omega) σ hK Fr.rf
set_option maxHeartbeats 4000000 in
set_option maxRecDepth 100000 in
theorem c_X0_keeps (E : En) (σ : Mm) (e : Nat) (he : isE e) (K : Mm) (hK : Emp σ e K) (hO : Ok K) (q : Nat) (hq : q < 12) (t : Nat) (ht : t ≤ 120) : CtI E yX0_keeps cX0_keeps 4 (some .boolean) 5 114 [.ref (eA E e), .int (nI q), .int (nI t)] σ (fun rr σ2 => rr = b2 (¬ mos t K 2 q = -1) ∧ (∃ K2, Emp σ2 e K2 ∧ Ok K2 ∧ nn K2 = nn K) ∧ Fr e σ σ2) := by
  obtain ⟨⟨hn, h12⟩, hpp, hlw, hsp, hz0⟩ := id hO
  refine CtI.of (by decide +kernel) (Nat.le_of_ble_eq_true rfl) (fun p e0 s m below meth c C hr hlk => ?_)
  refine gx_lv (lv' := [(0, .ref (eA E e)), (1, .int (nI q)), (2, .int (nI t))]) rfl ?_
  refine gx_iconst (v := 0) C dX0_keeps_0 (by decide) ?_
  refine gx_istore_n (lv2 := [(3, .int 0), (0, .ref (eA E e)), (1, .int (nI q)), (2, .int (nI t))]) C dX0_keeps_1 (by rfl) (by decide) rfl ?_
  have loop2 : ∀ (kf i2 : Nat), i2 ≤ t → t < i2 + kf → ∀ τ : Mm, (Emp τ e (mos i2 K)) → (Fr e σ τ) → Gx E p e0 (rmF 5 114) s m ([.ref (eA E e), .int (nI q), .int (nI t)] : List Value).toArray below meth c (MQ below (va_Qi (fun rr σ2 => rr = b2 (¬ mos t K 2 q = -1) ∧ (∃ K2, Emp σ2 e K2 ∧ Ok K2 ∧ nn K2 = nn K) ∧ Fr e σ σ2) (WQ E) (AA E s.heap.size)) ([.ref (eA E e), .int (nI q), .int (nI t)] : List Value).toArray s 0 0 (AA E s.heap.size)) 4 2 [(0, .ref (eA E e)), (1, .int (nI q)), (2, .int (nI t)), (3, .int (nI i2))] [] τ := by
    intro kf
    induction kf with
    | zero => intro i2 q1 q2; exact absurd q2 (by omega)
    | succ kf ih2 =>
      intro i2 a2 b2 τ hKt hFt
      refine gx_iload_n C dX0_keeps_2 (by rfl) (by rfl) ?_
      refine gx_iload_n C dX0_keeps_3 (by rfl) (by rfl) ?_
      refine gx_icmp_ge (tgt := 27) C dX0_keeps_4 (by decide) (fun h1 => ?_) (fun h1 => ?_)
      ·
        have h1 := (nI_leI (a := t) (b := i2) (by omega) (by omega)).mp h1
        refine gx_aload_n C dX0_keeps_27 (by rfl) (by rfl) ?_
        refine gx_getr (j := e + 2) (k := 1) C ck0 (sh_e he) (by rfl) (by decide) fl_X0_15 dX0_keeps_28 ?_
        refine gx_iload_n C dX0_keeps_31 (by rfl) (by rfl) ?_
        refine gx_ialdN (k := q) C (sh_e2 he) rfl (by omega) (by decide) dX0_keeps_32 ?_
        refine gx_st (st' := [.int ((mos i2 K) 2 q)]) (by rw [hKt.r2 (p := q) (by omega)]) ?_
        refine gx_iconst (v := (-1)) C dX0_keeps_33 (by decide) ?_
        refine gx_icmp_eq (tgt := 41) C dX0_keeps_34 (by decide) (fun h2 => ?_) (fun h2 => ?_)
        ·
          refine gx_iconst (v := 0) C dX0_keeps_41 (by decide) ?_
          exact gx_iret C hr hlk (by first | rfl | exact nb_b2 _) ⟨b2_f (fun q9 => q9 (out_mos hO (by assumption) t (by omega))), ⟨_, hKt, (mos_keep hO i2).1, (mos_keep hO i2).2⟩, hFt⟩ dX0_keeps_42
        ·
          refine gx_iconst (v := 1) C dX0_keeps_37 (by decide) ?_
          refine gx_goto (tgt := 42) C dX0_keeps_38 (by decide) ?_
          exact gx_iret C hr hlk (by first | rfl | exact nb_b2 _) ⟨(by first | exact b2_t (fun q9 => absurd q9 (by first | assumption | (rw [show t = i2 by omega]; assumption))) | exact absurd ‹mos i2 K 2 q = -1› (by assumption)), ⟨_, hKt, (mos_keep hO i2).1, (mos_keep hO i2).2⟩, hFt⟩ dX0_keeps_42
      ·
        have h1 := (not_congr (nI_leI (a := t) (b := i2) (by omega) (by omega))).mp h1
        refine gx_aload_n C dX0_keeps_7 (by rfl) (by rfl) ?_
        refine gx_getr (j := e + 2) (k := 1) C ck0 (sh_e he) (by rfl) (by decide) fl_X0_15 dX0_keeps_8 ?_
        refine gx_iload_n C dX0_keeps_11 (by rfl) (by rfl) ?_
        refine gx_ialdN (k := q) C (sh_e2 he) rfl (by omega) (by decide) dX0_keeps_12 ?_
        refine gx_st (st' := [.int ((mos i2 K) 2 q)]) (by rw [hKt.r2 (p := q) (by omega)]) ?_
        refine gx_iconst (v := (-1)) C dX0_keeps_13 (by decide) ?_
        refine gx_icmp_eq (tgt := 27) C dX0_keeps_14 (by decide) (fun h3 => ?_) (fun h3 => ?_)
        ·
          refine gx_aload_n C dX0_keeps_27 (by rfl) (by rfl) ?_
          refine gx_getr (j := e + 2) (k := 1) C ck0 (sh_e he) (by rfl) (by decide) fl_X0_15 dX0_keeps_28 ?_
          refine gx_iload_n C dX0_keeps_31 (by rfl) (by rfl) ?_
          refine gx_ialdN (k := q) C (sh_e2 he) rfl (by omega) (by decide) dX0_keeps_32 ?_
          refine gx_st (st' := [.int ((mos i2 K) 2 q)]) (by rw [hKt.r2 (p := q) (by omega)]) ?_
          refine gx_iconst (v := (-1)) C dX0_keeps_33 (by decide) ?_
          refine gx_icmp_eq (tgt := 41) C dX0_keeps_34 (by decide) (fun h4 => ?_) (fun h4 => ?_)
          ·
            refine gx_iconst (v := 0) C dX0_keeps_41 (by decide) ?_
            exact gx_iret C hr hlk (by first | rfl | exact nb_b2 _) ⟨b2_f (fun q9 => q9 (out_mos hO (by assumption) t (by omega))), ⟨_, hKt, (mos_keep hO i2).1, (mos_keep hO i2).2⟩, hFt⟩ dX0_keeps_42
          ·
            refine gx_iconst (v := 1) C dX0_keeps_37 (by decide) ?_
            refine gx_goto (tgt := 42) C dX0_keeps_38 (by decide) ?_
            exact gx_iret C hr hlk (by first | rfl | exact nb_b2 _) ⟨(by first | exact b2_t (fun q9 => absurd q9 (by first | assumption | (rw [show t = i2 by omega]; assumption))) | exact absurd ‹mos i2 K 2 q = -1› (by assumption)), ⟨_, hKt, (mos_keep hO i2).1, (mos_keep hO i2).2⟩, hFt⟩ dX0_keeps_42
        ·
          refine gx_aload_n C dX0_keeps_17 (by rfl) (by rfl) ?_
          refine gx_callVV (As := []) (rest := []) C (c_X0_goMonth E τ e he (mos i2 K) hKt ((mos_keep hO i2).1)) z_X0_goMonth ck0 (sh_e he) (by rfl) ml_X0_124 (by rfl) (Nat.le_of_ble_eq_true rfl) ⟨Nat.le_of_ble_eq_true rfl, Nat.le_of_ble_eq_true rfl⟩ dX0_keeps_18 (fun σ5 w5 => ?_)
          obtain ⟨hK5, hF5⟩ := w5
          obtain ⟨X5, eX5⟩ : ∃ X, X = mo (mos i2 K) := ⟨_, rfl⟩
          rw [← eX5] at hK5
          have hO5 : Ok X5 := by rw [eX5]; exact (mo_keep ((mos_keep hO i2).1)).1
          have h125 := hO5.1.2
          refine gx_iinc (v := nI (i2 + 1)) (lv2 := [(3, .int (nI (i2 + 1))), (0, .ref (eA E e)), (1, .int (nI q)), (2, .int (nI t))]) C dX0_keeps_21 (by rfl) (by exact nI_p1 _) (by decide) rfl ?_
          refine gx_goto (tgt := 2) C dX0_keeps_24 (by decide) ?_
          refine gx_sub [1, 2, 3, 0] (lv' := [(0, .ref (eA E e)), (1, .int (nI q)), (2, .int (nI t)), (3, .int (nI (i2 + 1)))]) rfl ?_
          exact ih2 (i2 + 1) (by omega) (by omega) σ5 (by rw [mos, ← eX5]; exact hK5) (hFt.tr hF5)
  refine gx_sub [1, 2, 3, 0] (lv' := [(0, .ref (eA E e)), (1, .int (nI q)), (2, .int (nI t)), (3, .int 0)]) rfl ?_
  refine gx_lv (lv' := [(0, .ref (eA E e)), (1, .int (nI q)), (2, .int (nI t)), (3, .int (nI 0))]) (by rfl) ?_
  exact loop2 (t + 1) 0 (by omega) (by omega) σ hK Fr.rf
/-- those of a set below i take o as grudge -/
def rsK (K : Mm) (S : Nat → Bool) (o : Int32) (i : Nat) : Mm := fun j p => if j = 6 ∧ p < i ∧ S p = true then o else if j = 7 ∧ p < i ∧ S p = true then 0 else K j p
theorem rsK_0 (K : Mm) (S : Nat → Bool) (o : Int32) : rsK K S o 0 = K := by funext j p; simp [rsK]
theorem rsK_t {K : Mm} {S : Nat → Bool} {o : Int32} {i : Nat} (h : S i = true) : up2 (up2 (rsK K S o i) 6 i o) 7 i 0 = rsK K S o (i + 1) := by
  funext j p
  rw [up2_up, up2_up]
  unfold rsK
  by_cases hp : p = i
  · subst hp
    by_cases h7 : j = 7
    · subst h7; simp [h]
    · by_cases h6 : j = 6
      · subst h6; simp [h]
      · simp [h7, h6]
  · have h1 : (p < i + 1) = (p < i) := by simp; omega
    simp [hp, h1]
theorem rsK_f {K : Mm} {S : Nat → Bool} {o : Int32} {i : Nat} (h : S i = false) : rsK K S o i = rsK K S o (i + 1) := by
  funext j p
  unfold rsK
  by_cases hp : p = i
  · subst hp; simp [h]
  · have h1 : (p < i + 1) = (p < i) := by simp; omega
    simp [h1]
theorem nn_rs (K : Mm) (S : Nat → Bool) (o : Int32) (i : Nat) : nn (rsK K S o i) = nn K := rfl
theorem Ok_rs {K : Mm} {S : Nat → Bool} {o : Int32} (hO : Ok K) (ho : -1 ≤ o ∧ o < K 0 0) : ∀ i, i ≤ 12 → Ok (rsK K S o i) := by
  intro i
  induction i with
  | zero => intro _; rw [rsK_0]; exact hO
  | succ i ih =>
    intro hi
    by_cases h : S i = true
    · rw [← rsK_t h]; exact ((ih (by omega)).grudge (by omega) ho).gift (by omega)
    · rw [← rsK_f (by simpa using h)]; exact ih (by omega)
theorem Emp.fr {σ σ' : Mm} {e e2 : Nat} {K : Mm} (h : Emp σ e K) (hf : Fr e2 σ σ') (hd : e + 12 ≤ e2 ∨ e2 + 12 ≤ e) : Emp σ' e K := by
  have key : ∀ i, i < 12 → σ' (e + i) = σ (e + i) := fun i hi => hf (e + i) (by omega)
  refine ⟨?_, fun r hr => by rw [key 9 (by omega)]; exact h.2 r hr⟩
  rw [← h.1]
  funext j p
  unfold vC
  by_cases hp : p < rng j
  · have hj : j < 11 := by
      rcases Nat.lt_or_ge j 11 with q | q
      · exact q
      · have : rng j = 0 := by unfold rng; rw [List.getD_eq_getElem?_getD, List.getElem?_eq_none (by simp; omega)]; rfl
        omega
    have k0 := key 0 (by omega)
    rw [Nat.add_zero] at k0
    by_cases h0 : j = 0
    · simp [hp, h0, k0]
    · by_cases h8 : j ≤ 8
      · simp [hp, h0, h8, key j (by omega)]
      · have k1 := key (j + 1) (by omega)
        rw [← Nat.add_assoc] at k1
        simp [hp, h0, h8, k1]
  · simp [hp]
set_option maxHeartbeats 4000000 in
set_option maxRecDepth 100000 in
theorem c_X0_resentAll (E : En) (σ : Mm) (e : Nat) (he : isE e) (K : Mm) (hK : Emp σ e K) (hO : Ok K) (P : Nat → Bool) (v : Int32) (hv : -1 ≤ v ∧ v < K 0 0) : CtV E yX0_resentAll cX0_resentAll 4 none 1 22 [.ref (eA E e), .int (bset (nn K) P), .int v] σ (fun σ2 => Emp σ2 e (rsK K P v (nn K)) ∧ Fr e σ σ2) := by
  obtain ⟨⟨hn, h12⟩, hpp, hlw, hsp, hz0⟩ := id hO
  refine CtV.of (by decide +kernel) (Nat.le_of_ble_eq_true rfl) (fun p e0 s m below meth c C hr hlk => ?_)
  refine gx_lv (lv' := [(0, .ref (eA E e)), (1, .int (bset (nn K) P)), (2, .int v)]) rfl ?_
  refine gx_iconst (v := 0) C dX0_resentAll_0 (by decide) ?_
  refine gx_istore_n (lv2 := [(3, .int 0), (0, .ref (eA E e)), (1, .int (bset (nn K) P)), (2, .int v)]) C dX0_resentAll_1 (by rfl) (by decide) rfl ?_
  have loop2 : ∀ (kf i2 : Nat), i2 ≤ nn K → nn K < i2 + kf → ∀ τ : Mm, (Emp τ e (rsK K P v i2)) → (Fr e σ τ) → Gx E p e0 (rmF 1 22) s m ([.ref (eA E e), .int (bset (nn K) P), .int v] : List Value).toArray below meth c (MQ below (va_Qv (fun σ2 => Emp σ2 e (rsK K P v (nn K)) ∧ Fr e σ σ2) (WQ E) (AA E s.heap.size)) ([.ref (eA E e), .int (bset (nn K) P), .int v] : List Value).toArray s 0 0 (AA E s.heap.size)) 4 2 [(0, .ref (eA E e)), (1, .int (bset (nn K) P)), (2, .int v), (3, .int (nI i2))] [] τ := by
    intro kf
    induction kf with
    | zero => intro i2 q1 q2; exact absurd q2 (by omega)
    | succ kf ih2 =>
      intro i2 a2 b2 τ hKt hFt
      refine gx_iload_n C dX0_resentAll_2 (by rfl) (by rfl) ?_
      refine gx_aload_n C dX0_resentAll_3 (by rfl) (by rfl) ?_
      refine gx_geti (k := 11) C ck0 (sh_e he) (by rfl) (by decide) fl_X0_58 dX0_resentAll_4 ?_
      refine gx_st (st' := [.int (nI (nn K)), .int (nI i2)]) (by rw [show τ e 11 = nI (nn K) from hKt.n.trans hn]) ?_
      refine gx_icmp_ge (tgt := 30) C dX0_resentAll_7 (by decide) (fun h1 => ?_) (fun h1 => ?_)
      ·
        have h1 := (nI_leI (a := (nn K)) (b := i2) (by omega) (by omega)).mp h1
        exact gx_vret C hr hlk ⟨by have q1 : i2 = nn K := (by omega); rw [q1] at hKt; exact hKt, hFt⟩ dX0_resentAll_30
      ·
        have h1 := (not_congr (nI_leI (a := (nn K)) (b := i2) (by omega) (by omega))).mp h1
        refine gx_iload_n C dX0_resentAll_10 (by rfl) (by rfl) ?_
        refine gx_iload_n C dX0_resentAll_11 (by rfl) (by rfl) ?_
        refine gx_ishr C dX0_resentAll_12 ?_
        refine gx_iconst (v := 1) C dX0_resentAll_13 (by decide) ?_
        refine gx_iand C dX0_resentAll_14 ?_
        refine gx_if_eq (tgt := 24) C dX0_resentAll_15 (by decide) (fun h2 => ?_) (fun h2 => ?_)
        ·
          have h2 := (tb_z (n := (nn K)) (P := P) (p := i2) (by omega) (by omega)).mp h2
          refine gx_iinc (v := nI (i2 + 1)) (lv2 := [(3, .int (nI (i2 + 1))), (0, .ref (eA E e)), (1, .int (bset (nn K) P)), (2, .int v)]) C dX0_resentAll_24 (by rfl) (by exact nI_p1 _) (by decide) rfl ?_
          refine gx_goto (tgt := 2) C dX0_resentAll_27 (by decide) ?_
          refine gx_sub [1, 2, 3, 0] (lv' := [(0, .ref (eA E e)), (1, .int (bset (nn K) P)), (2, .int v), (3, .int (nI (i2 + 1)))]) rfl ?_
          exact ih2 (i2 + 1) (by omega) (by omega) τ (by rw [← rsK_f (by assumption)]; exact hKt) hFt
        ·
          have h2 := (tb_nz (n := (nn K)) (P := P) (p := i2) (by omega) (by omega)).mp h2
          refine gx_aload_n C dX0_resentAll_18 (by rfl) (by rfl) ?_
          refine gx_iload_n C dX0_resentAll_19 (by rfl) (by rfl) ?_
          refine gx_iload_n C dX0_resentAll_20 (by rfl) (by rfl) ?_
          refine gx_callVV (As := [.int (nI i2), .int v]) (rest := []) C (c_X0_resent E τ e he i2 (by omega) v) z_X0_resent ck0 (sh_e he) (by rfl) ml_X0_87 (by rfl) (Nat.le_of_ble_eq_true rfl) ⟨Nat.le_of_ble_eq_true rfl, Nat.le_of_ble_eq_true rfl⟩ dX0_resentAll_21 (fun σ3 w3 => ?_)
          have hK3 : Emp σ3 e (up2 (up2 (rsK K P v i2) 6 i2 v) 7 i2 0) := by rw [w3]; exact (hKt.u6 (by omega)).u7 (by omega)
          have hF3 : Fr e τ σ3 := by rw [w3]; exact (Fr.rf.up (by omega) (by omega)).up (by omega) (by omega)
          clear w3
          refine gx_iinc (v := nI (i2 + 1)) (lv2 := [(3, .int (nI (i2 + 1))), (0, .ref (eA E e)), (1, .int (bset (nn K) P)), (2, .int v)]) C dX0_resentAll_24 (by rfl) (by exact nI_p1 _) (by decide) rfl ?_
          refine gx_goto (tgt := 2) C dX0_resentAll_27 (by decide) ?_
          refine gx_sub [1, 2, 3, 0] (lv' := [(0, .ref (eA E e)), (1, .int (bset (nn K) P)), (2, .int v), (3, .int (nI (i2 + 1)))]) rfl ?_
          exact ih2 (i2 + 1) (by omega) (by omega) σ3 (by rw [← rsK_t (by assumption)]; assumption) (hFt.tr hF3)
  refine gx_sub [1, 2, 3, 0] (lv' := [(0, .ref (eA E e)), (1, .int (bset (nn K) P)), (2, .int v), (3, .int 0)]) rfl ?_
  refine gx_lv (lv' := [(0, .ref (eA E e)), (1, .int (bset (nn K) P)), (2, .int v), (3, .int (nI 0))]) (by rfl) ?_
  exact loop2 (nn K + 1) 0 (by omega) (by omega) σ (by rw [rsK_0]; exact hK) Fr.rf
