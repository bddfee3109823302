set_option maxHeartbeats 4000000 in
set_option maxRecDepth 100000 in
theorem c_X4_in (E : En) (σ : Mm) (v a b : Int32) (x y z : Int64) (hx : x = v.toInt64) (hy : y = a.toInt64) (hz : z = b.toInt64) : CtI E yX4_in cX4_in 6 (some .boolean) 0 0 [.long x, .long y, .long z] σ (fun rr σ2 => σ2 = σ ∧ rr = b2 (a ≤ v ∧ v ≤ b)) := by
  refine CtI.of (by decide +kernel) (Nat.le_of_ble_eq_true rfl) (fun p e0 s m below meth c C hr hlk => ?_)
  refine gx_lv (lv' := [(0, .long x), (2, .long y), (4, .long z)]) rfl ?_
  refine gx_lload_n C dX4_in_0 (by rfl) (by rfl) ?_
  refine gx_lload_n C dX4_in_1 (by rfl) (by rfl) ?_
  refine gx_lcmp C dX4_in_2 ?_
  refine gx_if_lt (tgt := 17) C dX4_in_3 (by decide) (fun h1 => ?_) (fun h1 => ?_)
  ·
    rw [lg_cmp_lt, hx, hy, i64_lt] at h1
    refine gx_iconst (v := 0) C dX4_in_17 (by decide) ?_
    exact gx_iret C hr hlk (by first | rfl | exact nb_b2 _) ⟨rfl, by first | exact b2_t (by grind) | exact b2_f (by grind)⟩ dX4_in_18
  ·
    rw [lg_cmp_lt, hx, hy, i64_lt] at h1
    refine gx_lload_n C dX4_in_6 (by rfl) (by rfl) ?_
    refine gx_lload C dX4_in_7 (by rfl) ?_
    refine gx_lcmp C dX4_in_9 ?_
    refine gx_if_gt (tgt := 17) C dX4_in_10 (by decide) (fun h2 => ?_) (fun h2 => ?_)
    ·
      rw [lg_cmp_gt, hx, hz, i64_lt] at h2
      refine gx_iconst (v := 0) C dX4_in_17 (by decide) ?_
      exact gx_iret C hr hlk (by first | rfl | exact nb_b2 _) ⟨rfl, by first | exact b2_t (by grind) | exact b2_f (by grind)⟩ dX4_in_18
    ·
      rw [lg_cmp_gt, hx, hz, i64_lt] at h2
      refine gx_iconst (v := 1) C dX4_in_13 (by decide) ?_
      refine gx_goto (tgt := 18) C dX4_in_14 (by decide) ?_
      exact gx_iret C hr hlk (by first | rfl | exact nb_b2 _) ⟨rfl, by first | exact b2_t (by grind) | exact b2_f (by grind)⟩ dX4_in_18
set_option maxHeartbeats 4000000 in
set_option maxRecDepth 100000 in
theorem c_X4_isRank (E : En) (σ : Mm) (v : Int32) : CtI E yX4_isRank cX4_isRank 1 (some .boolean) 1 25 [.int v] σ (fun rr σ2 => σ2 = σ ∧ rr = b2 (0 ≤ v ∧ v ≤ 7)) := by
  refine CtI.of (by decide +kernel) (Nat.le_of_ble_eq_true rfl) (fun p e0 s m below meth c C hr hlk => ?_)
  refine gx_lv (lv' := [(0, .int v)]) rfl ?_
  refine gx_iload_n C dX4_isRank_0 (by rfl) (by rfl) ?_
  refine gx_i2l C dX4_isRank_1 ?_
  refine gx_lconst (v := 0) C dX4_isRank_2 (by decide) ?_
  refine gx_ldc2 C kl_X4_43 dX4_isRank_3 ?_
  refine gx_callSI (As := [.long v.toInt64, .long 0, .long 7]) (rest := []) C (c_X4_in E σ v 0 7 v.toInt64 0 7 (by first | rfl | decide) (by first | rfl | decide) (by first | rfl | decide)) z_X4_in (by rfl) ml_X4_45 (by rfl) (Nat.le_of_ble_eq_true rfl) ⟨Nat.le_of_ble_eq_true rfl, Nat.le_of_ble_eq_true rfl⟩ dX4_isRank_6 (fun r1 σ1 w1 => ?_)
  obtain ⟨u1, u2⟩ := w1; rw [u1, u2]; clear u1 u2
  exact gx_iret C hr hlk (by first | rfl | exact nb_b2 _) ⟨rfl, rfl⟩ dX4_isRank_9
set_option maxHeartbeats 4000000 in
set_option maxRecDepth 100000 in
theorem c_X4_isKind (E : En) (σ : Mm) (v : Int32) : CtI E yX4_isKind cX4_isKind 1 (some .boolean) 1 25 [.int v] σ (fun rr σ2 => σ2 = σ ∧ rr = b2 (0 ≤ v ∧ v ≤ 6)) := by
  refine CtI.of (by decide +kernel) (Nat.le_of_ble_eq_true rfl) (fun p e0 s m below meth c C hr hlk => ?_)
  refine gx_lv (lv' := [(0, .int v)]) rfl ?_
  refine gx_iload_n C dX4_isKind_0 (by rfl) (by rfl) ?_
  refine gx_i2l C dX4_isKind_1 ?_
  refine gx_lconst (v := 0) C dX4_isKind_2 (by decide) ?_
  refine gx_ldc2 C kl_X4_49 dX4_isKind_3 ?_
  refine gx_callSI (As := [.long v.toInt64, .long 0, .long 6]) (rest := []) C (c_X4_in E σ v 0 6 v.toInt64 0 6 (by first | rfl | decide) (by first | rfl | decide) (by first | rfl | decide)) z_X4_in (by rfl) ml_X4_45 (by rfl) (Nat.le_of_ble_eq_true rfl) ⟨Nat.le_of_ble_eq_true rfl, Nat.le_of_ble_eq_true rfl⟩ dX4_isKind_6 (fun r1 σ1 w1 => ?_)
  obtain ⟨u1, u2⟩ := w1; rw [u1, u2]; clear u1 u2
  exact gx_iret C hr hlk (by first | rfl | exact nb_b2 _) ⟨rfl, rfl⟩ dX4_isKind_9
set_option maxHeartbeats 4000000 in
set_option maxRecDepth 100000 in
theorem c_X4_isSheet (E : En) (σ : Mm) (v : Int32) : CtI E yX4_isSheet cX4_isSheet 1 (some .boolean) 1 25 [.int v] σ (fun rr σ2 => σ2 = σ ∧ rr = b2 (0 ≤ v ∧ v ≤ 3)) := by
  refine CtI.of (by decide +kernel) (Nat.le_of_ble_eq_true rfl) (fun p e0 s m below meth c C hr hlk => ?_)
  refine gx_lv (lv' := [(0, .int v)]) rfl ?_
  refine gx_iload_n C dX4_isSheet_0 (by rfl) (by rfl) ?_
  refine gx_i2l C dX4_isSheet_1 ?_
  refine gx_lconst (v := 0) C dX4_isSheet_2 (by decide) ?_
  refine gx_ldc2 C kl_X4_106 dX4_isSheet_3 ?_
  refine gx_callSI (As := [.long v.toInt64, .long 0, .long 3]) (rest := []) C (c_X4_in E σ v 0 3 v.toInt64 0 3 (by first | rfl | decide) (by first | rfl | decide) (by first | rfl | decide)) z_X4_in (by rfl) ml_X4_45 (by rfl) (Nat.le_of_ble_eq_true rfl) ⟨Nat.le_of_ble_eq_true rfl, Nat.le_of_ble_eq_true rfl⟩ dX4_isSheet_6 (fun r1 σ1 w1 => ?_)
  obtain ⟨u1, u2⟩ := w1; rw [u1, u2]; clear u1 u2
  exact gx_iret C hr hlk (by first | rfl | exact nb_b2 _) ⟨rfl, rfl⟩ dX4_isSheet_9
set_option maxHeartbeats 4000000 in
set_option maxRecDepth 100000 in
theorem c_X4_has (E : En) (σ : Mm) (n : Nat) (hn12 : n ≤ 12) (P : Nat → Bool) (k : Nat) (hk : k < n) : CtI E yX4_has cX4_has 2 (some .boolean) 0 0 [.int (bset n P), .int (nI k)] σ (fun rr σ2 => σ2 = σ ∧ rr = b2 (P k = true)) := by
  refine CtI.of (by decide +kernel) (Nat.le_of_ble_eq_true rfl) (fun p e0 s m below meth c C hr hlk => ?_)
  refine gx_lv (lv' := [(0, .int (bset n P)), (1, .int (nI k))]) rfl ?_
  refine gx_iload_n C dX4_has_0 (by rfl) (by rfl) ?_
  refine gx_iload_n C dX4_has_1 (by rfl) (by rfl) ?_
  refine gx_ishr C dX4_has_2 ?_
  refine gx_iconst (v := 1) C dX4_has_3 (by decide) ?_
  refine gx_iand C dX4_has_4 ?_
  refine gx_iconst (v := 1) C dX4_has_5 (by decide) ?_
  refine gx_icmp_ne (tgt := 13) C dX4_has_6 (by decide) (fun h1 => ?_) (fun h1 => ?_)
  ·
    refine gx_iconst (v := 0) C dX4_has_13 (by decide) ?_
    exact gx_iret C hr hlk (by first | rfl | exact nb_b2 _) ⟨rfl, b2_f (fun q => absurd ((has_bs P hn12 hk).mpr q) (by assumption))⟩ dX4_has_14
  ·
    refine gx_iconst (v := 1) C dX4_has_9 (by decide) ?_
    refine gx_goto (tgt := 14) C dX4_has_10 (by decide) ?_
    exact gx_iret C hr hlk (by first | rfl | exact nb_b2 _) ⟨rfl, b2_t ((has_bs P hn12 hk).mp (by assumption))⟩ dX4_has_14
set_option maxHeartbeats 4000000 in
set_option maxRecDepth 100000 in
theorem c_X4_many (E : En) (σ : Mm) (n : Nat) (hn12 : n ≤ 12) (P : Nat → Bool) : CtI E yX4_many cX4_many 3 (some .int) 0 0 [.int (bset n P)] σ (fun rr σ2 => σ2 = σ ∧ rr = nI (cnt P n)) := by
  refine CtI.of (by decide +kernel) (Nat.le_of_ble_eq_true rfl) (fun p e0 s m below meth c C hr hlk => ?_)
  refine gx_lv (lv' := [(0, .int (bset n P))]) rfl ?_
  refine gx_iconst (v := 0) C dX4_many_0 (by decide) ?_
  refine gx_istore_n (lv2 := [(1, .int 0), (0, .int (bset n P))]) C dX4_many_1 (by rfl) (by decide) rfl ?_
  refine gx_iconst (v := 0) C dX4_many_2 (by decide) ?_
  refine gx_istore_n (lv2 := [(2, .int 0), (1, .int 0), (0, .int (bset n P))]) C dX4_many_3 (by rfl) (by decide) rfl ?_
  have loop4 : ∀ (kf i4 : Nat), i4 ≤ 12 → 12 < i4 + kf → Gx E p e0 (rmF 0 0) s m ([.int (bset n P)] : List Value).toArray below meth c (MQ below (va_Qi (fun rr σ2 => σ2 = σ ∧ rr = nI (cnt P n)) (WQ E) (AA E s.heap.size)) ([.int (bset n P)] : List Value).toArray s 0 0 (AA E s.heap.size)) 3 4 [(0, .int (bset n P)), (1, .int (nI (cnt (fun q => decide (q < n) && P q) i4))), (2, .int (nI i4))] [] σ := by
    intro kf
    induction kf with
    | zero => intro i4 q1 q2; exact absurd q2 (by omega)
    | succ kf ih4 =>
      intro i4 a4 b4
      refine gx_iload_n C dX4_many_4 (by rfl) (by rfl) ?_
      refine gx_bipush (v := 12) C dX4_many_5 (by decide) ?_
      refine gx_icmp_ge (tgt := 24) C dX4_many_7 (by decide) (fun h1 => ?_) (fun h1 => ?_)
      ·
        have h1 := (nI_leI (a := 12) (b := i4) (by omega) (by omega)).mp h1
        refine gx_iload_n C dX4_many_24 (by rfl) (by rfl) ?_
        exact gx_iret C hr hlk rfl ⟨rfl, by rw [show i4 = 12 by omega, many_bs P hn12]⟩ dX4_many_25
      ·
        have h1 := (not_congr (nI_leI (a := 12) (b := i4) (by omega) (by omega))).mp h1
        refine gx_iload_n C dX4_many_10 (by rfl) (by rfl) ?_
        refine gx_iload_n C dX4_many_11 (by rfl) (by rfl) ?_
        refine gx_iload_n C dX4_many_12 (by rfl) (by rfl) ?_
        refine gx_ishr C dX4_many_13 ?_
        refine gx_iconst (v := 1) C dX4_many_14 (by decide) ?_
        refine gx_iand C dX4_many_15 ?_
        refine gx_iadd C dX4_many_16 ?_
        refine gx_istore_n (lv2 := [(1, .int ((nI (cnt (fun q => decide (q < n) && P q) i4)) + (((bset n P) >>> ((nI i4) &&& 31)) &&& 1))), (0, .int (bset n P)), (2, .int (nI i4))]) C dX4_many_17 (by rfl) (by decide) rfl ?_
        refine gx_iinc (v := nI (i4 + 1)) (lv2 := [(2, .int (nI (i4 + 1))), (1, .int ((nI (cnt (fun q => decide (q < n) && P q) i4)) + (((bset n P) >>> ((nI i4) &&& 31)) &&& 1))), (0, .int (bset n P))]) C dX4_many_18 (by rfl) (by exact nI_p1 _) (by decide) rfl ?_
        refine gx_goto (tgt := 4) C dX4_many_21 (by decide) ?_
        refine gx_sub [2, 1, 0] (lv' := [(0, .int (bset n P)), (1, .int ((nI (cnt (fun q => decide (q < n) && P q) i4)) + (((bset n P) >>> ((nI i4) &&& 31)) &&& 1))), (2, .int (nI (i4 + 1)))]) rfl ?_
        refine gx_lv (lv' := [(0, .int (bset n P)), (1, .int (nI (cnt (fun q => decide (q < n) && P q) (i4 + 1)))), (2, .int (nI (i4 + 1)))]) (by rw [many_st P (by omega)]) ?_
        exact ih4 (i4 + 1) (by omega) (by omega)
  refine gx_sub [2, 1, 0] (lv' := [(0, .int (bset n P)), (1, .int 0), (2, .int 0)]) rfl ?_
  refine gx_lv (lv' := [(0, .int (bset n P)), (1, .int (nI (cnt (fun q => decide (q < n) && P q) 0))), (2, .int (nI 0))]) (by rfl) ?_
  exact loop4 (12 + 1) 0 (by omega) (by omega)
theorem mIx_lt : ∀ j, j < 11 → ∀ p, p < 12 → (p < rng j → mIx j p < 109) := by decide +kernel
theorem vM_row {σ σ' : Mm} {c c' : Nat} (h : ∀ q, q < 109 → σ' c' q = σ c q) : vM σ' c' = vM σ c := by
  funext j p
  rw [vM_ix, vM_ix]
  by_cases hp : p < rng j
  · have hj : j < 11 := by
      rcases Nat.lt_or_ge j 11 with q | q
      · exact q
      · rw [rng_big q] at hp; omega
    rw [if_pos hp, if_pos hp, h _ (mIx_lt j hj p (by have := rng_12 j hj; omega) hp)]
  · rw [if_neg hp, if_neg hp]
set_option maxHeartbeats 4000000 in
set_option maxRecDepth 100000 in
theorem c_X4_row (E : En) (σ : Mm) (c0 c1 : Nat) (hc0 : sh c0 = .inl 109) (hc1 : sh c1 = .inl 109) (hne : ¬ c0 = c1) : CtV E yX4_row cX4_row 3 none 0 0 [.ref (eA E c0), .ref (eA E c1)] σ (fun σ2 => vM σ2 c1 = vM σ c0 ∧ F1 c1 σ σ2) := by
  refine CtV.of (by decide +kernel) (Nat.le_of_ble_eq_true rfl) (fun p e0 s m below meth c C hr hlk => ?_)
  refine gx_lv (lv' := [(0, .ref (eA E c0)), (1, .ref (eA E c1))]) rfl ?_
  refine gx_iconst (v := 0) C dX4_row_0 (by decide) ?_
  refine gx_istore_n (lv2 := [(2, .int 0), (0, .ref (eA E c0)), (1, .ref (eA E c1))]) C dX4_row_1 (by rfl) (by decide) rfl ?_
  have loop2 : ∀ (kf i : Nat), i ≤ 109 → 109 < i + kf → ∀ τ : Mm, (∀ q, q < i → τ c1 q = σ c0 q) → (F1 c1 σ τ) → Gx E p e0 (rmF 0 0) s m ([.ref (eA E c0), .ref (eA E c1)] : List Value).toArray below meth c (MQ below (va_Qv (fun σ2 => vM σ2 c1 = vM σ c0 ∧ F1 c1 σ σ2) (WQ E) (AA E s.heap.size)) ([.ref (eA E c0), .ref (eA E c1)] : List Value).toArray s 0 0 (AA E s.heap.size)) 3 2 [(0, .ref (eA E c0)), (1, .ref (eA E c1)), (2, .int (nI i))] [] τ := by
    intro kf
    induction kf with
    | zero => intro i q1 q2; exact absurd q2 (by omega)
    | succ kf ih2 =>
      intro i a2 b2 τ r1 r2
      refine gx_iload_n C dX4_row_2 (by rfl) (by rfl) ?_
      refine gx_bipush (v := 109) C dX4_row_3 (by decide) ?_
      refine gx_icmp_ge (tgt := 20) C dX4_row_5 (by decide) (fun h1 => ?_) (fun h1 => ?_)
      ·
        have h1 := (nI_leI (a := 109) (b := i) (by omega) (by omega)).mp h1
        exact gx_vret C hr hlk ⟨vM_row (fun q hq => r1 q (by omega)), r2⟩ dX4_row_20
      ·
        have h1 := (not_congr (nI_leI (a := 109) (b := i) (by omega) (by omega))).mp h1
        refine gx_aload_n C dX4_row_8 (by rfl) (by rfl) ?_
        refine gx_iload_n C dX4_row_9 (by rfl) (by rfl) ?_
        refine gx_aload_n C dX4_row_10 (by rfl) (by rfl) ?_
        refine gx_iload_n C dX4_row_11 (by rfl) (by rfl) ?_
        refine gx_ialdN (k := i) C hc0 rfl (by omega) (by decide) dX4_row_12 ?_
        refine gx_iastN (k := i) C hc1 rfl (by omega) (by decide) dX4_row_13 ?_
        refine gx_iinc (v := nI (i + 1)) (lv2 := [(2, .int (nI (i + 1))), (0, .ref (eA E c0)), (1, .ref (eA E c1))]) C dX4_row_14 (by rfl) (by exact nI_p1 _) (by decide) rfl ?_
        refine gx_goto (tgt := 2) C dX4_row_17 (by decide) ?_
        refine gx_sub [1, 2, 0] (lv' := [(0, .ref (eA E c0)), (1, .ref (eA E c1)), (2, .int (nI (i + 1)))]) rfl ?_
        exact ih2 (i + 1) (by omega) (by omega) (up2 τ c1 i (τ c0 i)) (fun q x => by rw [up2_s]; exact (if hh : q = i then by rw [hh, pk_us, r2 c0 hne] else by rw [pk_un hh]; exact r1 q (by omega))) r2.up
  refine gx_sub [1, 2, 0] (lv' := [(0, .ref (eA E c0)), (1, .ref (eA E c1)), (2, .int 0)]) rfl ?_
  refine gx_lv (lv' := [(0, .ref (eA E c0)), (1, .ref (eA E c1)), (2, .int (nI 0))]) (by rfl) ?_
  exact loop2 (109 + 1) 0 (by omega) (by omega) σ (fun q x => absurd x (by omega)) F1.rf
set_option maxHeartbeats 4000000 in
set_option maxRecDepth 100000 in
theorem c_X4_becomes (E : En) (σ : Mm) (i : Nat) (hi : i < 109) (v : Int32) : CtI E yX4_becomes cX4_becomes 4 (some .int) 0 0 [.ref (eA E 49), .int (nI i), .int v] σ (fun rr σ2 => σ2 = up2 σ 50 i v ∧ rr = σ 50 i) := by
  refine CtI.of (by decide +kernel) (Nat.le_of_ble_eq_true rfl) (fun p e0 s m below meth c C hr hlk => ?_)
  refine gx_lv (lv' := [(0, .ref (eA E 49)), (1, .int (nI i)), (2, .int v)]) rfl ?_
  refine gx_aload_n C dX4_becomes_0 (by rfl) (by rfl) ?_
  refine gx_getr (j := 50) (k := 0) C ck4 (by rfl) (by rfl) (by decide) fl_X4_9 dX4_becomes_1 ?_
  refine gx_iload_n C dX4_becomes_4 (by rfl) (by rfl) ?_
  refine gx_ialdN (k := i) C (by rfl) rfl (by omega) (by decide) dX4_becomes_5 ?_
  refine gx_istore_n (lv2 := [(3, .int (σ 50 i)), (0, .ref (eA E 49)), (1, .int (nI i)), (2, .int v)]) C dX4_becomes_6 (by rfl) (by decide) rfl ?_
  refine gx_aload_n C dX4_becomes_7 (by rfl) (by rfl) ?_
  refine gx_getr (j := 50) (k := 0) C ck4 (by rfl) (by rfl) (by decide) fl_X4_9 dX4_becomes_8 ?_
  refine gx_iload_n C dX4_becomes_11 (by rfl) (by rfl) ?_
  refine gx_iload_n C dX4_becomes_12 (by rfl) (by rfl) ?_
  refine gx_iastN (k := i) C (by rfl) rfl (by omega) (by decide) dX4_becomes_13 ?_
  refine gx_iload_n C dX4_becomes_14 (by rfl) (by rfl) ?_
  exact gx_iret C hr hlk rfl ⟨rfl, rfl⟩ dX4_becomes_15
set_option maxHeartbeats 4000000 in
set_option maxRecDepth 100000 in
theorem c_X4_is (E : En) (σ : Mm) (q : Nat) (hq : q < 12) (w : Nat) (hw : w < 7) : CtI E yX4_is cX4_is 3 (some .int) 0 0 [.ref (eA E 49), .int (nI q), .int (nI w)] σ (fun rr σ2 => σ2 = σ ∧ rr = σ 50 (15 + 7 * q + w)) := by
  refine CtI.of (by decide +kernel) (Nat.le_of_ble_eq_true rfl) (fun p e0 s m below meth c C hr hlk => ?_)
  refine gx_lv (lv' := [(0, .ref (eA E 49)), (1, .int (nI q)), (2, .int (nI w))]) rfl ?_
  refine gx_aload_n C dX4_is_0 (by rfl) (by rfl) ?_
  refine gx_getr (j := 50) (k := 0) C ck4 (by rfl) (by rfl) (by decide) fl_X4_9 dX4_is_1 ?_
  refine gx_bipush (v := 15) C dX4_is_4 (by decide) ?_
  refine gx_bipush (v := 7) C dX4_is_6 (by decide) ?_
  refine gx_iload_n C dX4_is_8 (by rfl) (by rfl) ?_
  refine gx_imul C dX4_is_9 ?_
  refine gx_st (st' := [.int (nI (7 * q)), .int 15, .ref (eA E 50)]) (by rw [show 7 * (nI q) = nI (7 * q) from pk_mul 7 q]) ?_
  refine gx_iadd C dX4_is_10 ?_
  refine gx_st (st' := [.int (nI (15 + 7 * q)), .ref (eA E 50)]) (by rw [show 15 + (nI (7 * q)) = nI (15 + 7 * q) from nI_add 15 (7 * q)]) ?_
  refine gx_iload_n C dX4_is_11 (by rfl) (by rfl) ?_
  refine gx_iadd C dX4_is_12 ?_
  refine gx_st (st' := [.int (nI (15 + 7 * q + w)), .ref (eA E 50)]) (by rw [show (nI (15 + 7 * q)) + (nI w) = nI (15 + 7 * q + w) from nI_add (15 + 7 * q) w]) ?_
  refine gx_ialdN (k := (15 + 7 * q + w)) C (by rfl) rfl (by omega) (by decide) dX4_is_13 ?_
  exact gx_iret C hr hlk rfl ⟨rfl, rfl⟩ dX4_is_14
set_option maxHeartbeats 4000000 in
set_option maxRecDepth 100000 in
theorem c_X4_makes (E : En) (σ : Mm) (q : Nat) (hq : q < 12) (w : Nat) (hw : w < 7) (v : Int32) : CtV E yX4_makes cX4_makes 4 none 0 0 [.ref (eA E 49), .int (nI q), .int (nI w), .int v] σ (fun σ2 => σ2 = up2 σ 50 (15 + 7 * q + w) v) := by
  refine CtV.of (by decide +kernel) (Nat.le_of_ble_eq_true rfl) (fun p e0 s m below meth c C hr hlk => ?_)
  refine gx_lv (lv' := [(0, .ref (eA E 49)), (1, .int (nI q)), (2, .int (nI w)), (3, .int v)]) rfl ?_
  refine gx_aload_n C dX4_makes_0 (by rfl) (by rfl) ?_
  refine gx_getr (j := 50) (k := 0) C ck4 (by rfl) (by rfl) (by decide) fl_X4_9 dX4_makes_1 ?_
  refine gx_bipush (v := 15) C dX4_makes_4 (by decide) ?_
  refine gx_bipush (v := 7) C dX4_makes_6 (by decide) ?_
  refine gx_iload_n C dX4_makes_8 (by rfl) (by rfl) ?_
  refine gx_imul C dX4_makes_9 ?_
  refine gx_st (st' := [.int (nI (7 * q)), .int 15, .ref (eA E 50)]) (by rw [show 7 * (nI q) = nI (7 * q) from pk_mul 7 q]) ?_
  refine gx_iadd C dX4_makes_10 ?_
  refine gx_st (st' := [.int (nI (15 + 7 * q)), .ref (eA E 50)]) (by rw [show 15 + (nI (7 * q)) = nI (15 + 7 * q) from nI_add 15 (7 * q)]) ?_
  refine gx_iload_n C dX4_makes_11 (by rfl) (by rfl) ?_
  refine gx_iadd C dX4_makes_12 ?_
  refine gx_st (st' := [.int (nI (15 + 7 * q + w)), .ref (eA E 50)]) (by rw [show (nI (15 + 7 * q)) + (nI w) = nI (15 + 7 * q + w) from nI_add (15 + 7 * q) w]) ?_
  refine gx_iload_n C dX4_makes_13 (by rfl) (by rfl) ?_
  refine gx_iastN (k := (15 + 7 * q + w)) C (by rfl) rfl (by omega) (by decide) dX4_makes_14 ?_
  exact gx_vret C hr hlk rfl dX4_makes_15
