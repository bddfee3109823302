theorem s_nat {r : Int32} (h : 0 ≤ r ∧ r ≤ 3) : ∃ k, k < 4 ∧ r = nI k := by
  obtain ⟨k, h3, h4⟩ := nI_of2 (x := r) (M := 3) (n := 3) (by decide) (fun h9 => Int32.not_le.mpr h9 h.1) h.2
  exact ⟨k, by omega, h4⟩
theorem CR.shn {σ σ' K L : Mm} {g : Int32} {F : Nat → Int32} {tl : Int32} {Bt W Z : Nat → Int32} {N : Mm} {k : Nat} {row : Nat → Int32} (h : CR σ (K, L, g, F, tl, Bt, W, Z, N)) (hk : k < 4) (he : ∀ i, ¬ i = 9 + k → σ' i = σ i) (h3 : ∀ i, i < 40 → σ' (9 + k) i = row i) : CR σ' (K, L, g, F, tl, Bt, W, Z, rw2 N k row) := by
  obtain ⟨⟨a1, a2⟩, ⟨b1, b2, b3⟩, c, ⟨⟨d1, d2⟩, d3⟩, s⟩ := h
  refine ⟨⟨a1.eq (fun i hi => he _ (by omega)), a2⟩, ⟨by rw [he 0 (by omega)]; exact b1, b2, fun q => ⟨(b3 q).1.eq (fun i hi => he _ (by omega)), (b3 q).2⟩⟩, fun q hq => by rw [he 1 (by omega)]; exact c q hq, ⟨⟨by rw [he 3 (by omega)]; exact d1, d2⟩, fun i hi => by rw [he 4 (by omega)]; exact d3 i hi⟩, fun q hq => ?_⟩
  obtain ⟨s1, s2, s3⟩ := s q hq
  rw [he (5 + q) (by omega)]
  refine ⟨s1, s2, fun i hi => ?_⟩
  by_cases hqk : q = k
  · subst hqk; rw [rw2_s]; exact h3 i hi
  · rw [he (9 + q) (by omega), rw2_o hqk]; exact s3 i hi
theorem CR.shw {σ σ' K L : Mm} {g : Int32} {F : Nat → Int32} {tl : Int32} {Bt W Z : Nat → Int32} {N : Mm} {k : Nat} {w z : Int32} {row : Nat → Int32} (h : CR σ (K, L, g, F, tl, Bt, W, Z, N)) (hk : k < 4) (he : ∀ i, ¬ i = 5 + k → ¬ i = 9 + k → σ' i = σ i) (h1 : σ' (5 + k) 1 = w) (hw : w = 0 ∨ w = 8 ∨ w = 16 ∨ w = 32) (h2 : σ' (5 + k) 2 = z) (hz : ∃ z0, z0 ≤ 40 ∧ z = nI z0) (h3 : ∀ i, i < 40 → σ' (9 + k) i = row i) : CR σ' (K, L, g, F, tl, Bt, upd W k w, upd Z k z, rw2 N k row) := by
  obtain ⟨⟨a1, a2⟩, ⟨b1, b2, b3⟩, c, ⟨⟨d1, d2⟩, d3⟩, s⟩ := h
  refine ⟨⟨a1.eq (fun i hi => he _ (by omega) (by omega)), a2⟩, ⟨by rw [he 0 (by omega) (by omega)]; exact b1, b2, fun q => ⟨(b3 q).1.eq (fun i hi => he _ (by omega) (by omega)), (b3 q).2⟩⟩, fun q hq => by rw [he 1 (by omega) (by omega)]; exact c q hq, ⟨⟨by rw [he 3 (by omega) (by omega)]; exact d1, d2⟩, fun i hi => by rw [he 4 (by omega) (by omega)]; exact d3 i hi⟩, fun q hq => ?_⟩
  obtain ⟨s1, s2, s3⟩ := s q hq
  by_cases hqk : q = k
  · subst hqk
    rw [rw2_s, pk_us, pk_us]
    exact ⟨⟨h1, hw⟩, ⟨h2, hz⟩, h3⟩
  · rw [rw2_o hqk, pk_un hqk, pk_un hqk, he (5 + q) (by omega) (by omega), he (9 + q) (by omega) (by omega)]
    exact ⟨s1, s2, s3⟩
set_option maxHeartbeats 4000000 in
set_option maxRecDepth 100000 in
theorem c_X3_sheetAt_k (E : En) (σ : Mm) (k : Nat) (hk : k < 4) : CtR E yX3_sheetAt cX3_sheetAt 2 (some (.object "TwoBelow$Sheet")) 1 22 [.ref (eA E 0), .int (nI k)] σ (fun rr σ2 => σ2 = σ ∧ rr = some (eA E (5 + k))) := by
  refine CtR.of (by decide +kernel) (Nat.le_of_ble_eq_true rfl) (fun p e0 s m below meth c C hr hlk => ?_)
  refine gx_lv (lv' := [(0, .ref (eA E 0)), (1, .int (nI k))]) rfl ?_
  refine gx_iload_n C dX3_sheetAt_0 (by rfl) (by rfl) ?_
  refine gx_iconst (v := 0) C dX3_sheetAt_1 (by decide) ?_
  refine gx_iconst (v := 3) C dX3_sheetAt_2 (by decide) ?_
  refine gx_callSI (As := [.int (nI k), .int 0, .int 3]) (rest := []) C (c_X3_isWithin E σ (nI k) 0 3) z_X3_isWithin (by rfl) ml_X3_44 (by rfl) (Nat.le_of_ble_eq_true rfl) ⟨Nat.le_of_ble_eq_true rfl, Nat.le_of_ble_eq_true rfl⟩ dX3_sheetAt_3 (fun r1 σ1 w1 => ?_)
  obtain ⟨u1, u2⟩ := w1; rw [u1, u2]; clear u1 u2
  refine gx_if_eq (tgt := 18) C dX3_sheetAt_6 (by decide) (fun h2 => ?_) (fun h2 => ?_)
  ·
    have h2 := b2_z.mp h2
    exact absurd ⟨nI_pos' (by omega), nI_le (b := 3) (by omega) (by omega)⟩ h2
  ·
    have h2 := b2_nz.mp h2
    refine gx_aload_n C dX3_sheetAt_9 (by rfl) (by rfl) ?_
    refine gx_getr (j := 2) (k := 5) C ck3 (by rfl) (by rfl) (by decide) fl_X3_31 dX3_sheetAt_10 ?_
    refine gx_iload_n C dX3_sheetAt_13 (by rfl) (by rfl) ?_
    refine gx_aaldN (k := k) C (by rfl) rfl (by omega) dX3_sheetAt_14 ?_
    refine gx_goto (tgt := 19) C dX3_sheetAt_15 (by decide) ?_
    exact gx_aret (v := some (eA E (5 + k))) C hr hlk ⟨rfl, rfl⟩ dX3_sheetAt_19
set_option maxHeartbeats 4000000 in
set_option maxRecDepth 100000 in
theorem c_X3_sheetAt_n (E : En) (σ : Mm) (x : Int32) (hx : ¬ (0 ≤ x ∧ x ≤ 3)) : CtR E yX3_sheetAt cX3_sheetAt 2 (some (.object "TwoBelow$Sheet")) 1 22 [.ref (eA E 0), .int x] σ (fun rr σ2 => σ2 = σ ∧ rr = none) := by
  refine CtR.of (by decide +kernel) (Nat.le_of_ble_eq_true rfl) (fun p e0 s m below meth c C hr hlk => ?_)
  refine gx_lv (lv' := [(0, .ref (eA E 0)), (1, .int x)]) rfl ?_
  refine gx_iload_n C dX3_sheetAt_0 (by rfl) (by rfl) ?_
  refine gx_iconst (v := 0) C dX3_sheetAt_1 (by decide) ?_
  refine gx_iconst (v := 3) C dX3_sheetAt_2 (by decide) ?_
  refine gx_callSI (As := [.int x, .int 0, .int 3]) (rest := []) C (c_X3_isWithin E σ x 0 3) z_X3_isWithin (by rfl) ml_X3_44 (by rfl) (Nat.le_of_ble_eq_true rfl) ⟨Nat.le_of_ble_eq_true rfl, Nat.le_of_ble_eq_true rfl⟩ dX3_sheetAt_3 (fun r1 σ1 w1 => ?_)
  obtain ⟨u1, u2⟩ := w1; rw [u1, u2]; clear u1 u2
  refine gx_if_eq (tgt := 18) C dX3_sheetAt_6 (by decide) (fun h2 => ?_) (fun h2 => ?_)
  ·
    have h2 := b2_z.mp h2
    refine gx_null C dX3_sheetAt_18 ?_
    exact gx_aret (v := none) C hr hlk ⟨rfl, rfl⟩ dX3_sheetAt_19
  ·
    have h2 := b2_nz.mp h2
    exact absurd h2 hx
set_option maxHeartbeats 4000000 in
set_option maxRecDepth 100000 in
theorem c_X1_isMissing (E : En) (σ : Mm) (k : Nat) (hk : k < 4) (w : Int32) (hw : σ (5 + k) 1 = w) : CtI E yX1_isMissing cX1_isMissing 1 (some .boolean) 0 0 [.ref (eA E (5 + k))] σ (fun rr σ2 => σ2 = σ ∧ rr = b2 (w = 0)) := by
  refine CtI.of (by decide +kernel) (Nat.le_of_ble_eq_true rfl) (fun p e0 s m below meth c C hr hlk => ?_)
  refine gx_lv (lv' := [(0, .ref (eA E (5 + k)))]) rfl ?_
  refine gx_aload_n C dX1_isMissing_0 (by rfl) (by rfl) ?_
  refine gx_geti (k := 1) C ck1 (sh_s hk) (by rfl) (by decide) fl_X1_15 dX1_isMissing_1 ?_
  refine gx_st (st' := [.int w]) (by rw [hw]) ?_
  refine gx_if_ne (tgt := 11) C dX1_isMissing_4 (by decide) (fun h1 => ?_) (fun h1 => ?_)
  ·
    refine gx_iconst (v := 0) C dX1_isMissing_11 (by decide) ?_
    exact gx_iret C hr hlk (by first | rfl | exact nb_b2 _) ⟨rfl, by first | exact b2_t (by assumption) | exact b2_f (by assumption)⟩ dX1_isMissing_12
  ·
    refine gx_iconst (v := 1) C dX1_isMissing_7 (by decide) ?_
    refine gx_goto (tgt := 12) C dX1_isMissing_8 (by decide) ?_
    exact gx_iret C hr hlk (by first | rfl | exact nb_b2 _) ⟨rfl, by first | exact b2_t (by assumption) | exact b2_f (by assumption)⟩ dX1_isMissing_12
set_option maxHeartbeats 4000000 in
set_option maxRecDepth 100000 in
theorem c_X1_cut (E : En) (σ : Mm) (k : Nat) (hk : k < 4) (w : Int32) (hw : σ (5 + k) 1 = w) (v : Int32) : CtI E yX1_cut cX1_cut 2 (some .int) 0 0 [.ref (eA E (5 + k)), .int v] σ (fun rr σ2 => σ2 = σ ∧ rr = cutW w v) := by
  refine CtI.of (by decide +kernel) (Nat.le_of_ble_eq_true rfl) (fun p e0 s m below meth c C hr hlk => ?_)
  refine gx_lv (lv' := [(0, .ref (eA E (5 + k))), (1, .int v)]) rfl ?_
  refine gx_aload_n C dX1_cut_0 (by rfl) (by rfl) ?_
  refine gx_geti (k := 1) C ck1 (sh_s hk) (by rfl) (by decide) fl_X1_15 dX1_cut_1 ?_
  refine gx_st (st' := [.int w]) (by rw [hw]) ?_
  refine gx_bipush (v := 8) C dX1_cut_4 (by decide) ?_
  refine gx_icmp_ne (tgt := 12) C dX1_cut_6 (by decide) (fun h1 => ?_) (fun h1 => ?_)
  ·
    refine gx_aload_n C dX1_cut_12 (by rfl) (by rfl) ?_
    refine gx_geti (k := 1) C ck1 (sh_s hk) (by rfl) (by decide) fl_X1_15 dX1_cut_13 ?_
    refine gx_st (st' := [.int w]) (by rw [hw]) ?_
    refine gx_bipush (v := 16) C dX1_cut_16 (by decide) ?_
    refine gx_icmp_ne (tgt := 26) C dX1_cut_18 (by decide) (fun h2 => ?_) (fun h2 => ?_)
    ·
      refine gx_iload_n C dX1_cut_26 (by rfl) (by rfl) ?_
      exact gx_iret C hr hlk rfl ⟨rfl, by unfold cutW; grind⟩ dX1_cut_27
    ·
      refine gx_iload_n C dX1_cut_21 (by rfl) (by rfl) ?_
      refine gx_i2s C dX1_cut_22 ?_
      refine gx_goto (tgt := 27) C dX1_cut_23 (by decide) ?_
      exact gx_iret C hr hlk rfl ⟨rfl, by unfold cutW; grind⟩ dX1_cut_27
  ·
    refine gx_iload_n C dX1_cut_9 (by rfl) (by rfl) ?_
    refine gx_i2b C dX1_cut_10 ?_
    exact gx_iret C hr hlk rfl ⟨rfl, by unfold cutW; grind⟩ dX1_cut_11
set_option maxHeartbeats 4000000 in
set_option maxRecDepth 100000 in
theorem c_X1_hasRow (E : En) (σ : Mm) (k : Nat) (hk : k < 4) (z : Int32) (hz : σ (5 + k) 2 = z) (f n : Int32) : CtI E yX1_hasRow cX1_hasRow 3 (some .boolean) 0 0 [.ref (eA E (5 + k)), .int f, .int n] σ (fun rr σ2 => σ2 = σ ∧ rr = b2 (0 ≤ f ∧ 0 ≤ n ∧ f ≤ z ∧ n ≤ z - f)) := by
  refine CtI.of (by decide +kernel) (Nat.le_of_ble_eq_true rfl) (fun p e0 s m below meth c C hr hlk => ?_)
  refine gx_lv (lv' := [(0, .ref (eA E (5 + k))), (1, .int f), (2, .int n)]) rfl ?_
  refine gx_iload_n C dX1_hasRow_0 (by rfl) (by rfl) ?_
  refine gx_if_lt (tgt := 30) C dX1_hasRow_1 (by decide) (fun h1 => ?_) (fun h1 => ?_)
  ·
    refine gx_iconst (v := 0) C dX1_hasRow_30 (by decide) ?_
    exact gx_iret C hr hlk (by first | rfl | exact nb_b2 _) ⟨rfl, by first | exact b2_t (by grind) | exact b2_f (by grind)⟩ dX1_hasRow_31
  ·
    refine gx_iload_n C dX1_hasRow_4 (by rfl) (by rfl) ?_
    refine gx_if_lt (tgt := 30) C dX1_hasRow_5 (by decide) (fun h2 => ?_) (fun h2 => ?_)
    ·
      refine gx_iconst (v := 0) C dX1_hasRow_30 (by decide) ?_
      exact gx_iret C hr hlk (by first | rfl | exact nb_b2 _) ⟨rfl, by first | exact b2_t (by grind) | exact b2_f (by grind)⟩ dX1_hasRow_31
    ·
      refine gx_iload_n C dX1_hasRow_8 (by rfl) (by rfl) ?_
      refine gx_aload_n C dX1_hasRow_9 (by rfl) (by rfl) ?_
      refine gx_geti (k := 2) C ck1 (sh_s hk) (by rfl) (by decide) fl_X1_19 dX1_hasRow_10 ?_
      refine gx_st (st' := [.int z, .int f]) (by rw [hz]) ?_
      refine gx_icmp_gt (tgt := 30) C dX1_hasRow_13 (by decide) (fun h3 => ?_) (fun h3 => ?_)
      ·
        refine gx_iconst (v := 0) C dX1_hasRow_30 (by decide) ?_
        exact gx_iret C hr hlk (by first | rfl | exact nb_b2 _) ⟨rfl, by first | exact b2_t (by grind) | exact b2_f (by grind)⟩ dX1_hasRow_31
      ·
        refine gx_iload_n C dX1_hasRow_16 (by rfl) (by rfl) ?_
        refine gx_aload_n C dX1_hasRow_17 (by rfl) (by rfl) ?_
        refine gx_geti (k := 2) C ck1 (sh_s hk) (by rfl) (by decide) fl_X1_19 dX1_hasRow_18 ?_
        refine gx_st (st' := [.int z, .int n]) (by rw [hz]) ?_
        refine gx_iload_n C dX1_hasRow_21 (by rfl) (by rfl) ?_
        refine gx_isub C dX1_hasRow_22 ?_
        refine gx_icmp_gt (tgt := 30) C dX1_hasRow_23 (by decide) (fun h4 => ?_) (fun h4 => ?_)
        ·
          refine gx_iconst (v := 0) C dX1_hasRow_30 (by decide) ?_
          exact gx_iret C hr hlk (by first | rfl | exact nb_b2 _) ⟨rfl, by first | exact b2_t (by grind) | exact b2_f (by grind)⟩ dX1_hasRow_31
        ·
          refine gx_iconst (v := 1) C dX1_hasRow_26 (by decide) ?_
          refine gx_goto (tgt := 31) C dX1_hasRow_27 (by decide) ?_
          exact gx_iret C hr hlk (by first | rfl | exact nb_b2 _) ⟨rfl, by first | exact b2_t (by grind) | exact b2_f (by grind)⟩ dX1_hasRow_31
set_option maxHeartbeats 4000000 in
set_option maxRecDepth 100000 in
theorem c_X1_begin (E : En) (σ : Mm) (k : Nat) (hk : k < 4) (b n : Int32) : CtV E yX1_begin cX1_begin 4 none 0 0 [.ref (eA E (5 + k)), .int b, .int n] σ (fun σ2 => (σ2 (5 + k) 1 = b ∧ σ2 (5 + k) 2 = (if b = 0 then 0 else n)) ∧ (∀ q, q < 40 → σ2 (9 + k) q = 0) ∧ ∀ q, ¬ q = 5 + k → ¬ q = 9 + k → σ2 q = σ q) := by
  refine CtV.of (by decide +kernel) (Nat.le_of_ble_eq_true rfl) (fun p e0 s m below meth c C hr hlk => ?_)
  refine gx_lv (lv' := [(0, .ref (eA E (5 + k))), (1, .int b), (2, .int n)]) rfl ?_
  refine gx_aload_n C dX1_begin_0 (by rfl) (by rfl) ?_
  refine gx_iload_n C dX1_begin_1 (by rfl) (by rfl) ?_
  refine gx_puti (k := 1) C ck1 (sh_s hk) (by rfl) (by decide) (by rfl) rfl rfl fl_X1_15 dX1_begin_2 ?_
  refine gx_aload_n C dX1_begin_5 (by rfl) (by rfl) ?_
  refine gx_iload_n C dX1_begin_6 (by rfl) (by rfl) ?_
  refine gx_if_ne (tgt := 14) C dX1_begin_7 (by decide) (fun h1 => ?_) (fun h1 => ?_)
  ·
    refine gx_iload_n C dX1_begin_14 (by rfl) (by rfl) ?_
    refine gx_puti (k := 2) C ck1 (sh_s hk) (by rfl) (by decide) (by rfl) rfl rfl fl_X1_19 dX1_begin_15 ?_
    refine gx_iconst (v := 0) C dX1_begin_18 (by decide) ?_
    refine gx_istore_n (lv2 := [(3, .int 0), (0, .ref (eA E (5 + k))), (1, .int b), (2, .int n)]) C dX1_begin_19 (by rfl) (by decide) rfl ?_
    have loop20 : ∀ (kf i : Nat), i ≤ 40 → 40 < i + kf → ∀ τ : Mm, (τ (5 + k) 1 = b ∧ τ (5 + k) 2 = (if b = 0 then 0 else n)) → (∀ q, q < i → τ (9 + k) q = 0) → (∀ q, ¬ q = 5 + k → ¬ q = 9 + k → τ q = σ q) → Gx E p e0 (rmF 0 0) s m ([.ref (eA E (5 + k)), .int b, .int n] : List Value).toArray below meth c (MQ below (va_Qv (fun σ2 => (σ2 (5 + k) 1 = b ∧ σ2 (5 + k) 2 = (if b = 0 then 0 else n)) ∧ (∀ q, q < 40 → σ2 (9 + k) q = 0) ∧ ∀ q, ¬ q = 5 + k → ¬ q = 9 + k → σ2 q = σ q) (WQ E) (AA E s.heap.size)) ([.ref (eA E (5 + k)), .int b, .int n] : List Value).toArray s 0 0 (AA E s.heap.size)) 4 20 [(0, .ref (eA E (5 + k))), (1, .int b), (2, .int n), (3, .int (nI i))] [] τ := by
      intro kf
      induction kf with
      | zero => intro i q1 q2; exact absurd q2 (by omega)
      | succ kf ih20 =>
        intro i a20 b20 τ bh1 bh2 bh3
        refine gx_iload_n C dX1_begin_20 (by rfl) (by rfl) ?_
        refine gx_bipush (v := 40) C dX1_begin_21 (by decide) ?_
        refine gx_icmp_ge (tgt := 39) C dX1_begin_23 (by decide) (fun h2 => ?_) (fun h2 => ?_)
        ·
          have h2 := (nI_leI (a := 40) (b := i) (by omega) (by omega)).mp h2
          exact gx_vret C hr hlk ⟨bh1, fun q hq => bh2 q (by omega), bh3⟩ dX1_begin_39
        ·
          have h2 := (not_congr (nI_leI (a := 40) (b := i) (by omega) (by omega))).mp h2
          refine gx_aload_n C dX1_begin_26 (by rfl) (by rfl) ?_
          refine gx_getr (j := 9 + k) (k := 0) C ck1 (sh_s hk) (by rfl) (by decide) fl_X1_9 dX1_begin_27 ?_
          refine gx_iload_n C dX1_begin_30 (by rfl) (by rfl) ?_
          refine gx_iconst (v := 0) C dX1_begin_31 (by decide) ?_
          refine gx_iastN (k := i) C (sh_n hk) rfl (by omega) (by decide) dX1_begin_32 ?_
          refine gx_iinc (v := nI (i + 1)) (lv2 := [(3, .int (nI (i + 1))), (0, .ref (eA E (5 + k))), (1, .int b), (2, .int n)]) C dX1_begin_33 (by rfl) (by exact nI_p1 _) (by decide) rfl ?_
          refine gx_goto (tgt := 20) C dX1_begin_36 (by decide) ?_
          refine gx_sub [1, 2, 3, 0] (lv' := [(0, .ref (eA E (5 + k))), (1, .int b), (2, .int n), (3, .int (nI (i + 1)))]) rfl ?_
          exact ih20 (i + 1) (by omega) (by omega) (up2 τ (9 + k) i 0) (by rw [up2_o (by omega)]; exact bh1) (fun q hq => by rw [up2_up]; exact (if hh : q = i then by rw [if_pos ⟨rfl, hh⟩] else by rw [if_neg (fun x => hh x.2)]; exact bh2 q (by omega))) (fun q x1 x2 => by rw [up2_o x2]; exact bh3 q x1 x2)
    refine gx_sub [1, 2, 3, 0] (lv' := [(0, .ref (eA E (5 + k))), (1, .int b), (2, .int n), (3, .int 0)]) rfl ?_
    refine gx_lv (lv' := [(0, .ref (eA E (5 + k))), (1, .int b), (2, .int n), (3, .int (nI 0))]) (by rfl) ?_
    exact loop20 (40 + 1) 0 (by omega) (by omega) (up2 (up2 σ (5 + k) 1 b) (5 + k) 2 n) (by simp only [up2_up]; grind) (fun q hq => absurd hq (by omega)) (fun q x1 x2 => by rw [up2_o x1, up2_o x1])
  ·
    refine gx_iconst (v := 0) C dX1_begin_10 (by decide) ?_
    refine gx_goto (tgt := 15) C dX1_begin_11 (by decide) ?_
    refine gx_puti (k := 2) C ck1 (sh_s hk) (by rfl) (by decide) (by rfl) rfl rfl fl_X1_19 dX1_begin_15 ?_
    refine gx_iconst (v := 0) C dX1_begin_18 (by decide) ?_
    refine gx_istore_n (lv2 := [(3, .int 0), (0, .ref (eA E (5 + k))), (1, .int b), (2, .int n)]) C dX1_begin_19 (by rfl) (by decide) rfl ?_
    have loop20 : ∀ (kf i : Nat), i ≤ 40 → 40 < i + kf → ∀ τ : Mm, (τ (5 + k) 1 = b ∧ τ (5 + k) 2 = (if b = 0 then 0 else n)) → (∀ q, q < i → τ (9 + k) q = 0) → (∀ q, ¬ q = 5 + k → ¬ q = 9 + k → τ q = σ q) → Gx E p e0 (rmF 0 0) s m ([.ref (eA E (5 + k)), .int b, .int n] : List Value).toArray below meth c (MQ below (va_Qv (fun σ2 => (σ2 (5 + k) 1 = b ∧ σ2 (5 + k) 2 = (if b = 0 then 0 else n)) ∧ (∀ q, q < 40 → σ2 (9 + k) q = 0) ∧ ∀ q, ¬ q = 5 + k → ¬ q = 9 + k → σ2 q = σ q) (WQ E) (AA E s.heap.size)) ([.ref (eA E (5 + k)), .int b, .int n] : List Value).toArray s 0 0 (AA E s.heap.size)) 4 20 [(0, .ref (eA E (5 + k))), (1, .int b), (2, .int n), (3, .int (nI i))] [] τ := by
      intro kf
      induction kf with
      | zero => intro i q1 q2; exact absurd q2 (by omega)
      | succ kf ih20 =>
        intro i a20 b20 τ bh1 bh2 bh3
        refine gx_iload_n C dX1_begin_20 (by rfl) (by rfl) ?_
        refine gx_bipush (v := 40) C dX1_begin_21 (by decide) ?_
        refine gx_icmp_ge (tgt := 39) C dX1_begin_23 (by decide) (fun h3 => ?_) (fun h3 => ?_)
        ·
          have h3 := (nI_leI (a := 40) (b := i) (by omega) (by omega)).mp h3
          exact gx_vret C hr hlk ⟨bh1, fun q hq => bh2 q (by omega), bh3⟩ dX1_begin_39
        ·
          have h3 := (not_congr (nI_leI (a := 40) (b := i) (by omega) (by omega))).mp h3
          refine gx_aload_n C dX1_begin_26 (by rfl) (by rfl) ?_
          refine gx_getr (j := 9 + k) (k := 0) C ck1 (sh_s hk) (by rfl) (by decide) fl_X1_9 dX1_begin_27 ?_
          refine gx_iload_n C dX1_begin_30 (by rfl) (by rfl) ?_
          refine gx_iconst (v := 0) C dX1_begin_31 (by decide) ?_
          refine gx_iastN (k := i) C (sh_n hk) rfl (by omega) (by decide) dX1_begin_32 ?_
          refine gx_iinc (v := nI (i + 1)) (lv2 := [(3, .int (nI (i + 1))), (0, .ref (eA E (5 + k))), (1, .int b), (2, .int n)]) C dX1_begin_33 (by rfl) (by exact nI_p1 _) (by decide) rfl ?_
          refine gx_goto (tgt := 20) C dX1_begin_36 (by decide) ?_
          refine gx_sub [1, 2, 3, 0] (lv' := [(0, .ref (eA E (5 + k))), (1, .int b), (2, .int n), (3, .int (nI (i + 1)))]) rfl ?_
          exact ih20 (i + 1) (by omega) (by omega) (up2 τ (9 + k) i 0) (by rw [up2_o (by omega)]; exact bh1) (fun q hq => by rw [up2_up]; exact (if hh : q = i then by rw [if_pos ⟨rfl, hh⟩] else by rw [if_neg (fun x => hh x.2)]; exact bh2 q (by omega))) (fun q x1 x2 => by rw [up2_o x2]; exact bh3 q x1 x2)
    refine gx_sub [1, 2, 3, 0] (lv' := [(0, .ref (eA E (5 + k))), (1, .int b), (2, .int n), (3, .int 0)]) rfl ?_
    refine gx_lv (lv' := [(0, .ref (eA E (5 + k))), (1, .int b), (2, .int n), (3, .int (nI 0))]) (by rfl) ?_
    exact loop20 (40 + 1) 0 (by omega) (by omega) (up2 (up2 σ (5 + k) 1 b) (5 + k) 2 0) (by simp only [up2_up]; grind) (fun q hq => absurd hq (by omega)) (fun q x1 x2 => by rw [up2_o x1, up2_o x1])
theorem fin_sh {σ σ' K L : Mm} {g : Int32} {F : Nat → Int32} {tl : Int32} {Bt W Z : Nat → Int32} {N : Mm} {k : Nat} {b n : Int32} {x : Int32 × As} (h : CR σ (K, L, g, F, tl, Bt, W, Z, N)) (hk : k < 4) (x4 : ∀ i, ¬ i = 5 + k → ¬ i = 9 + k → σ' i = σ i) (x1 : σ' (5 + k) 1 = b) (hb : b = 0 ∨ b = 8 ∨ b = 16 ∨ b = 32) (x2 : σ' (5 + k) 2 = if b = 0 then 0 else n) (hn : 0 ≤ n ∧ n ≤ 40) (x3 : ∀ q, q < 40 → σ' (9 + k) q = 0) (hx : x = ((if b = 0 then 0 else n), (K, L, g, F, tl, Bt, upd W k b, upd Z k (if b = 0 then 0 else n), rw2 N k (fun _ => 0)))) : (if b = 0 then 0 else n) = x.1 ∧ CR σ' x.2 ∧ FC σ σ' := by
  subst hx
  refine ⟨rfl, h.shw hk x4 x1 hb x2 ?_ x3, fun i hi => x4 i (by omega) (by omega)⟩
  split
  · exact ⟨0, by omega, rfl⟩
  · exact i_nat (M := 40) (n := 40) (by decide) hn
theorem fin_nm {σ σ' K L : Mm} {g : Int32} {F : Nat → Int32} {tl : Int32} {Bt W Z : Nat → Int32} {N : Mm} {k : Nat} {v : Int32} {row : Nat → Int32} {x : Int32 × As} (h : CR σ (K, L, g, F, tl, Bt, W, Z, N)) (hk : k < 4) (he : ∀ i, ¬ i = 9 + k → σ' i = σ i) (h3 : ∀ i, i < 40 → σ' (9 + k) i = row i) (hx : x = (v, (K, L, g, F, tl, Bt, W, Z, rw2 N k row))) : v = x.1 ∧ CR σ' x.2 ∧ FC σ σ' := by
  subst hx
  exact ⟨rfl, h.shn hk he h3, fun i hi => he i (by omega)⟩
set_option maxHeartbeats 4000000 in
set_option maxRecDepth 100000 in
theorem c_X3_sheet (E : En) (σ : Mm) (K L : Mm) (g : Int32) (F : Nat → Int32) (tl : Int32) (Bt W Z : Nat → Int32) (N : Mm) (hC : CR σ (K, L, g, F, tl, Bt, W, Z, N)) (x b n : Int32) : CtI E yX3_sheet cX3_sheet 5 (some .int) 2 44 [.ref (eA E 0), .int x, .int b, .int n] σ (fun rr σ2 => rr = (opSheet (K, L, g, F, tl, Bt, W, Z, N) x b n).1 ∧ CR σ2 (opSheet (K, L, g, F, tl, Bt, W, Z, N) x b n).2 ∧ FC σ σ2) := by
  obtain ⟨⟨hK, hO⟩, ⟨hg1, hg2, hg3⟩, hFd, ⟨⟨htl, htl2⟩, hBt⟩, hSh⟩ := id hC
  obtain ⟨⟨hn, h12⟩, hpp, hlw, hsp, hz0⟩ := id hO
  refine CtI.of (by decide +kernel) (Nat.le_of_ble_eq_true rfl) (fun p e0 s m below meth c C hr hlk => ?_)
  refine gx_lv (lv' := [(0, .ref (eA E 0)), (1, .int x), (2, .int b), (3, .int n)]) rfl ?_
  refine gx_aload_n C dX3_sheet_0 (by rfl) (by rfl) ?_
  refine gx_iload_n C dX3_sheet_1 (by rfl) (by rfl) ?_
  by_cases hsk : 0 ≤ x ∧ x ≤ 3
  ·
    obtain ⟨k, hk, rfl⟩ := s_nat hsk
    have ck : (nI k).toNatClampNeg = k := nI_clamp (by omega)
    obtain ⟨⟨hw1, hw2⟩, ⟨hz1, z, hz2, hz3⟩, hnm⟩ := hSh k (by omega)
    have cz : (Z k).toNatClampNeg = z := by rw [hz3]; exact nI_clamp (by omega)
    refine gx_callVR (As := [.int (nI k)]) (rest := []) C (c_X3_sheetAt_k E σ k (by omega)) z_X3_sheetAt ck3 (by rfl) (by rfl) ml_X3_234 (by rfl) (Nat.le_of_ble_eq_true rfl) ⟨Nat.le_of_ble_eq_true rfl, Nat.le_of_ble_eq_true rfl⟩ dX3_sheet_2 (fun r1 σ1 w1 => ?_)
    obtain ⟨u1, u2⟩ := w1; rw [u1, u2]; clear u1 u2
    refine gx_st (st' := [.ref (eA E (5 + k))]) rfl ?_
    refine gx_astore (lv2 := [(4, .ref (eA E (5 + k))), (0, .ref (eA E 0)), (1, .int (nI k)), (2, .int b), (3, .int n)]) C dX3_sheet_5 (by decide) rfl ?_
    refine gx_aload C dX3_sheet_7 (by rfl) ?_
    refine gx_ifnull C dX3_sheet_9 ?_
    refine gx_iload_n C dX3_sheet_12 (by rfl) (by rfl) ?_
    refine gx_if_eq (tgt := 41) C dX3_sheet_13 (by decide) (fun h2 => ?_) (fun h2 => ?_)
    ·
      refine gx_iload_n C dX3_sheet_41 (by rfl) (by rfl) ?_
      refine gx_if_ge (tgt := 52) C dX3_sheet_42 (by decide) (fun h3 => ?_) (fun h3 => ?_)
      ·
        refine gx_iload_n C dX3_sheet_52 (by rfl) (by rfl) ?_
        refine gx_bipush (v := 40) C dX3_sheet_53 (by decide) ?_
        refine gx_icmp_le (tgt := 65) C dX3_sheet_55 (by decide) (fun h4 => ?_) (fun h4 => ?_)
        ·
          refine gx_aload C dX3_sheet_65 (by rfl) ?_
          refine gx_iload_n C dX3_sheet_67 (by rfl) (by rfl) ?_
          refine gx_iload_n C dX3_sheet_68 (by rfl) (by rfl) ?_
          refine gx_callVV (As := [.int b, .int n]) (rest := []) C (c_X1_begin E σ k (by omega) b n) z_X1_begin ck1 (sh_s hk) (by rfl) ml_X3_238 (by rfl) (Nat.le_of_ble_eq_true rfl) ⟨Nat.le_of_ble_eq_true rfl, Nat.le_of_ble_eq_true rfl⟩ dX3_sheet_69 (fun σ5 w5 => ?_)
          obtain ⟨⟨x1, x2⟩, x3, x4⟩ := w5
          refine gx_aload C dX3_sheet_72 (by rfl) ?_
          refine gx_geti (k := 2) C ck1 (sh_s hk) (by rfl) (by decide) fl_X3_241 dX3_sheet_74 ?_
          refine gx_st (st' := [.int (if b = 0 then 0 else n)]) (by rw [x2]) ?_
          exact gx_iret C hr hlk rfl (fin_sh hC hk x4 x1 (by grind) x2 (by grind) x3 (by simp only [opSheet, ck, bey, siz]; rw [if_pos (by grind), if_neg (by grind), if_neg (by grind)])) dX3_sheet_77
        ·
          refine gx_aload_n C dX3_sheet_58 (by rfl) (by rfl) ?_
          refine gx_ldc C kc_X3_48 dX3_sheet_59 ?_
          refine gx_callVI (As := [.int (-1000001)]) (rest := []) C (c_X3_found E σ (-1000001) 0 (by decide) (by decide)) z_X3_found ck3 (by rfl) (by rfl) ml_X3_49 (by rfl) (Nat.le_of_ble_eq_true rfl) ⟨Nat.le_of_ble_eq_true rfl, Nat.le_of_ble_eq_true rfl⟩ dX3_sheet_61 (fun r6 σ6 w6 => ?_)
          obtain ⟨u1, u2⟩ := w6; rw [u1, u2]; clear u1 u2
          exact gx_iret C hr hlk rfl (fin_fd hC (by decide) (by simp only [opSheet, bey, ful, knd, non, sta, mis, siz] <;> grind)) dX3_sheet_64
      ·
        refine gx_aload_n C dX3_sheet_45 (by rfl) (by rfl) ?_
        refine gx_ldc C kc_X3_196 dX3_sheet_46 ?_
        refine gx_callVI (As := [.int (-1000007)]) (rest := []) C (c_X3_found E σ (-1000007) 6 (by decide) (by decide)) z_X3_found ck3 (by rfl) (by rfl) ml_X3_49 (by rfl) (Nat.le_of_ble_eq_true rfl) ⟨Nat.le_of_ble_eq_true rfl, Nat.le_of_ble_eq_true rfl⟩ dX3_sheet_48 (fun r7 σ7 w7 => ?_)
        obtain ⟨u1, u2⟩ := w7; rw [u1, u2]; clear u1 u2
        exact gx_iret C hr hlk rfl (fin_fd hC (by decide) (by simp only [opSheet, bey, ful, knd, non, sta, mis, siz] <;> grind)) dX3_sheet_51
    ·
      refine gx_iload_n C dX3_sheet_16 (by rfl) (by rfl) ?_
      refine gx_bipush (v := 8) C dX3_sheet_17 (by decide) ?_
      refine gx_icmp_eq (tgt := 41) C dX3_sheet_19 (by decide) (fun h8 => ?_) (fun h8 => ?_)
      ·
        refine gx_iload_n C dX3_sheet_41 (by rfl) (by rfl) ?_
        refine gx_if_ge (tgt := 52) C dX3_sheet_42 (by decide) (fun h9 => ?_) (fun h9 => ?_)
        ·
          refine gx_iload_n C dX3_sheet_52 (by rfl) (by rfl) ?_
          refine gx_bipush (v := 40) C dX3_sheet_53 (by decide) ?_
          refine gx_icmp_le (tgt := 65) C dX3_sheet_55 (by decide) (fun h10 => ?_) (fun h10 => ?_)
          ·
            refine gx_aload C dX3_sheet_65 (by rfl) ?_
            refine gx_iload_n C dX3_sheet_67 (by rfl) (by rfl) ?_
            refine gx_iload_n C dX3_sheet_68 (by rfl) (by rfl) ?_
            refine gx_callVV (As := [.int b, .int n]) (rest := []) C (c_X1_begin E σ k (by omega) b n) z_X1_begin ck1 (sh_s hk) (by rfl) ml_X3_238 (by rfl) (Nat.le_of_ble_eq_true rfl) ⟨Nat.le_of_ble_eq_true rfl, Nat.le_of_ble_eq_true rfl⟩ dX3_sheet_69 (fun σ11 w11 => ?_)
            obtain ⟨⟨x1, x2⟩, x3, x4⟩ := w11
            refine gx_aload C dX3_sheet_72 (by rfl) ?_
            refine gx_geti (k := 2) C ck1 (sh_s hk) (by rfl) (by decide) fl_X3_241 dX3_sheet_74 ?_
            refine gx_st (st' := [.int (if b = 0 then 0 else n)]) (by rw [x2]) ?_
            exact gx_iret C hr hlk rfl (fin_sh hC hk x4 x1 (by grind) x2 (by grind) x3 (by simp only [opSheet, ck, bey, siz]; rw [if_pos (by grind), if_neg (by grind), if_neg (by grind)])) dX3_sheet_77
          ·
            refine gx_aload_n C dX3_sheet_58 (by rfl) (by rfl) ?_
            refine gx_ldc C kc_X3_48 dX3_sheet_59 ?_
            refine gx_callVI (As := [.int (-1000001)]) (rest := []) C (c_X3_found E σ (-1000001) 0 (by decide) (by decide)) z_X3_found ck3 (by rfl) (by rfl) ml_X3_49 (by rfl) (Nat.le_of_ble_eq_true rfl) ⟨Nat.le_of_ble_eq_true rfl, Nat.le_of_ble_eq_true rfl⟩ dX3_sheet_61 (fun r12 σ12 w12 => ?_)
            obtain ⟨u1, u2⟩ := w12; rw [u1, u2]; clear u1 u2
            exact gx_iret C hr hlk rfl (fin_fd hC (by decide) (by simp only [opSheet, bey, ful, knd, non, sta, mis, siz] <;> grind)) dX3_sheet_64
        ·
          refine gx_aload_n C dX3_sheet_45 (by rfl) (by rfl) ?_
          refine gx_ldc C kc_X3_196 dX3_sheet_46 ?_
          refine gx_callVI (As := [.int (-1000007)]) (rest := []) C (c_X3_found E σ (-1000007) 6 (by decide) (by decide)) z_X3_found ck3 (by rfl) (by rfl) ml_X3_49 (by rfl) (Nat.le_of_ble_eq_true rfl) ⟨Nat.le_of_ble_eq_true rfl, Nat.le_of_ble_eq_true rfl⟩ dX3_sheet_48 (fun r13 σ13 w13 => ?_)
          obtain ⟨u1, u2⟩ := w13; rw [u1, u2]; clear u1 u2
          exact gx_iret C hr hlk rfl (fin_fd hC (by decide) (by simp only [opSheet, bey, ful, knd, non, sta, mis, siz] <;> grind)) dX3_sheet_51
      ·
        refine gx_iload_n C dX3_sheet_22 (by rfl) (by rfl) ?_
        refine gx_bipush (v := 16) C dX3_sheet_23 (by decide) ?_
        refine gx_icmp_eq (tgt := 41) C dX3_sheet_25 (by decide) (fun h14 => ?_) (fun h14 => ?_)
        ·
          refine gx_iload_n C dX3_sheet_41 (by rfl) (by rfl) ?_
          refine gx_if_ge (tgt := 52) C dX3_sheet_42 (by decide) (fun h15 => ?_) (fun h15 => ?_)
          ·
            refine gx_iload_n C dX3_sheet_52 (by rfl) (by rfl) ?_
            refine gx_bipush (v := 40) C dX3_sheet_53 (by decide) ?_
            refine gx_icmp_le (tgt := 65) C dX3_sheet_55 (by decide) (fun h16 => ?_) (fun h16 => ?_)
            ·
              refine gx_aload C dX3_sheet_65 (by rfl) ?_
              refine gx_iload_n C dX3_sheet_67 (by rfl) (by rfl) ?_
              refine gx_iload_n C dX3_sheet_68 (by rfl) (by rfl) ?_
              refine gx_callVV (As := [.int b, .int n]) (rest := []) C (c_X1_begin E σ k (by omega) b n) z_X1_begin ck1 (sh_s hk) (by rfl) ml_X3_238 (by rfl) (Nat.le_of_ble_eq_true rfl) ⟨Nat.le_of_ble_eq_true rfl, Nat.le_of_ble_eq_true rfl⟩ dX3_sheet_69 (fun σ17 w17 => ?_)
              obtain ⟨⟨x1, x2⟩, x3, x4⟩ := w17
              refine gx_aload C dX3_sheet_72 (by rfl) ?_
              refine gx_geti (k := 2) C ck1 (sh_s hk) (by rfl) (by decide) fl_X3_241 dX3_sheet_74 ?_
              refine gx_st (st' := [.int (if b = 0 then 0 else n)]) (by rw [x2]) ?_
              exact gx_iret C hr hlk rfl (fin_sh hC hk x4 x1 (by grind) x2 (by grind) x3 (by simp only [opSheet, ck, bey, siz]; rw [if_pos (by grind), if_neg (by grind), if_neg (by grind)])) dX3_sheet_77
            ·
              refine gx_aload_n C dX3_sheet_58 (by rfl) (by rfl) ?_
              refine gx_ldc C kc_X3_48 dX3_sheet_59 ?_
              refine gx_callVI (As := [.int (-1000001)]) (rest := []) C (c_X3_found E σ (-1000001) 0 (by decide) (by decide)) z_X3_found ck3 (by rfl) (by rfl) ml_X3_49 (by rfl) (Nat.le_of_ble_eq_true rfl) ⟨Nat.le_of_ble_eq_true rfl, Nat.le_of_ble_eq_true rfl⟩ dX3_sheet_61 (fun r18 σ18 w18 => ?_)
              obtain ⟨u1, u2⟩ := w18; rw [u1, u2]; clear u1 u2
              exact gx_iret C hr hlk rfl (fin_fd hC (by decide) (by simp only [opSheet, bey, ful, knd, non, sta, mis, siz] <;> grind)) dX3_sheet_64
          ·
            refine gx_aload_n C dX3_sheet_45 (by rfl) (by rfl) ?_
            refine gx_ldc C kc_X3_196 dX3_sheet_46 ?_
            refine gx_callVI (As := [.int (-1000007)]) (rest := []) C (c_X3_found E σ (-1000007) 6 (by decide) (by decide)) z_X3_found ck3 (by rfl) (by rfl) ml_X3_49 (by rfl) (Nat.le_of_ble_eq_true rfl) ⟨Nat.le_of_ble_eq_true rfl, Nat.le_of_ble_eq_true rfl⟩ dX3_sheet_48 (fun r19 σ19 w19 => ?_)
            obtain ⟨u1, u2⟩ := w19; rw [u1, u2]; clear u1 u2
            exact gx_iret C hr hlk rfl (fin_fd hC (by decide) (by simp only [opSheet, bey, ful, knd, non, sta, mis, siz] <;> grind)) dX3_sheet_51
        ·
          refine gx_iload_n C dX3_sheet_28 (by rfl) (by rfl) ?_
          refine gx_bipush (v := 32) C dX3_sheet_29 (by decide) ?_
          refine gx_icmp_eq (tgt := 41) C dX3_sheet_31 (by decide) (fun h20 => ?_) (fun h20 => ?_)
          ·
            refine gx_iload_n C dX3_sheet_41 (by rfl) (by rfl) ?_
            refine gx_if_ge (tgt := 52) C dX3_sheet_42 (by decide) (fun h21 => ?_) (fun h21 => ?_)
            ·
              refine gx_iload_n C dX3_sheet_52 (by rfl) (by rfl) ?_
              refine gx_bipush (v := 40) C dX3_sheet_53 (by decide) ?_
              refine gx_icmp_le (tgt := 65) C dX3_sheet_55 (by decide) (fun h22 => ?_) (fun h22 => ?_)
              ·
                refine gx_aload C dX3_sheet_65 (by rfl) ?_
                refine gx_iload_n C dX3_sheet_67 (by rfl) (by rfl) ?_
                refine gx_iload_n C dX3_sheet_68 (by rfl) (by rfl) ?_
                refine gx_callVV (As := [.int b, .int n]) (rest := []) C (c_X1_begin E σ k (by omega) b n) z_X1_begin ck1 (sh_s hk) (by rfl) ml_X3_238 (by rfl) (Nat.le_of_ble_eq_true rfl) ⟨Nat.le_of_ble_eq_true rfl, Nat.le_of_ble_eq_true rfl⟩ dX3_sheet_69 (fun σ23 w23 => ?_)
                obtain ⟨⟨x1, x2⟩, x3, x4⟩ := w23
                refine gx_aload C dX3_sheet_72 (by rfl) ?_
                refine gx_geti (k := 2) C ck1 (sh_s hk) (by rfl) (by decide) fl_X3_241 dX3_sheet_74 ?_
                refine gx_st (st' := [.int (if b = 0 then 0 else n)]) (by rw [x2]) ?_
                exact gx_iret C hr hlk rfl (fin_sh hC hk x4 x1 (by grind) x2 (by grind) x3 (by simp only [opSheet, ck, bey, siz]; rw [if_pos (by grind), if_neg (by grind), if_neg (by grind)])) dX3_sheet_77
              ·
                refine gx_aload_n C dX3_sheet_58 (by rfl) (by rfl) ?_
                refine gx_ldc C kc_X3_48 dX3_sheet_59 ?_
                refine gx_callVI (As := [.int (-1000001)]) (rest := []) C (c_X3_found E σ (-1000001) 0 (by decide) (by decide)) z_X3_found ck3 (by rfl) (by rfl) ml_X3_49 (by rfl) (Nat.le_of_ble_eq_true rfl) ⟨Nat.le_of_ble_eq_true rfl, Nat.le_of_ble_eq_true rfl⟩ dX3_sheet_61 (fun r24 σ24 w24 => ?_)
                obtain ⟨u1, u2⟩ := w24; rw [u1, u2]; clear u1 u2
                exact gx_iret C hr hlk rfl (fin_fd hC (by decide) (by simp only [opSheet, bey, ful, knd, non, sta, mis, siz] <;> grind)) dX3_sheet_64
            ·
              refine gx_aload_n C dX3_sheet_45 (by rfl) (by rfl) ?_
              refine gx_ldc C kc_X3_196 dX3_sheet_46 ?_
              refine gx_callVI (As := [.int (-1000007)]) (rest := []) C (c_X3_found E σ (-1000007) 6 (by decide) (by decide)) z_X3_found ck3 (by rfl) (by rfl) ml_X3_49 (by rfl) (Nat.le_of_ble_eq_true rfl) ⟨Nat.le_of_ble_eq_true rfl, Nat.le_of_ble_eq_true rfl⟩ dX3_sheet_48 (fun r25 σ25 w25 => ?_)
              obtain ⟨u1, u2⟩ := w25; rw [u1, u2]; clear u1 u2
              exact gx_iret C hr hlk rfl (fin_fd hC (by decide) (by simp only [opSheet, bey, ful, knd, non, sta, mis, siz] <;> grind)) dX3_sheet_51
          ·
            refine gx_aload_n C dX3_sheet_34 (by rfl) (by rfl) ?_
            refine gx_ldc C kc_X3_48 dX3_sheet_35 ?_
            refine gx_callVI (As := [.int (-1000001)]) (rest := []) C (c_X3_found E σ (-1000001) 0 (by decide) (by decide)) z_X3_found ck3 (by rfl) (by rfl) ml_X3_49 (by rfl) (Nat.le_of_ble_eq_true rfl) ⟨Nat.le_of_ble_eq_true rfl, Nat.le_of_ble_eq_true rfl⟩ dX3_sheet_37 (fun r26 σ26 w26 => ?_)
            obtain ⟨u1, u2⟩ := w26; rw [u1, u2]; clear u1 u2
            exact gx_iret C hr hlk rfl (fin_fd hC (by decide) (by simp only [opSheet, bey, ful, knd, non, sta, mis, siz] <;> grind)) dX3_sheet_40
  ·
    refine gx_callVR (As := [.int x]) (rest := []) C (c_X3_sheetAt_n E σ x (by assumption)) z_X3_sheetAt ck3 (by rfl) (by rfl) ml_X3_234 (by rfl) (Nat.le_of_ble_eq_true rfl) ⟨Nat.le_of_ble_eq_true rfl, Nat.le_of_ble_eq_true rfl⟩ dX3_sheet_2 (fun r27 σ27 w27 => ?_)
    obtain ⟨u1, u2⟩ := w27; rw [u1, u2]; clear u1 u2
    refine gx_st (st' := [.null]) rfl ?_
    refine gx_astoreN (lv2 := [(4, .null), (0, .ref (eA E 0)), (1, .int x), (2, .int b), (3, .int n)]) C dX3_sheet_5 (by decide) rfl ?_
    refine gx_aloadN C dX3_sheet_7 (by rfl) ?_
    refine gx_ifnullN (tgt := 34) C dX3_sheet_9 (by decide) ?_
    refine gx_aload_n C dX3_sheet_34 (by rfl) (by rfl) ?_
    refine gx_ldc C kc_X3_48 dX3_sheet_35 ?_
    refine gx_callVI (As := [.int (-1000001)]) (rest := []) C (c_X3_found E σ (-1000001) 0 (by decide) (by decide)) z_X3_found ck3 (by rfl) (by rfl) ml_X3_49 (by rfl) (Nat.le_of_ble_eq_true rfl) ⟨Nat.le_of_ble_eq_true rfl, Nat.le_of_ble_eq_true rfl⟩ dX3_sheet_37 (fun r28 σ28 w28 => ?_)
    obtain ⟨u1, u2⟩ := w28; rw [u1, u2]; clear u1 u2
    exact gx_iret C hr hlk rfl (fin_fd hC (by decide) (by simp only [opSheet, bey, ful, knd, non, sta, mis, siz] <;> grind)) dX3_sheet_40
theorem wr_nat {z : Nat} {Zk y : Int32} (h1 : z ≤ 40) (h2 : Zk = nI z) (h : 0 ≤ y ∧ y ≤ Zk - 1) : ∃ i, i < z ∧ y = nI i := by
  obtain ⟨i, h3, rfl⟩ := nI_of (fun h9 => Int32.not_le.mpr h9 h.1 : ¬ y < 0)
  have h4 := h.2
  rw [h2] at h4
  cases z with
  | zero =>
    exfalso
    rw [Int32.le_iff_toInt_le, nI_toInt h3, show (nI 0 - 1 : Int32).toInt = -1 by decide] at h4
    omega
  | succ z =>
    rw [nI_pred] at h4
    exact ⟨i, by have := (nI_leI h3 (by omega)).mp h4; omega, rfl⟩
set_option maxHeartbeats 4000000 in
set_option maxRecDepth 100000 in
theorem c_X3_write (E : En) (σ : Mm) (K L : Mm) (g : Int32) (F : Nat → Int32) (tl : Int32) (Bt W Z : Nat → Int32) (N : Mm) (hC : CR σ (K, L, g, F, tl, Bt, W, Z, N)) (x y v : Int32) : CtI E yX3_write cX3_write 5 (some .int) 2 44 [.ref (eA E 0), .int x, .int y, .int v] σ (fun rr σ2 => rr = (opWrite (K, L, g, F, tl, Bt, W, Z, N) x y v).1 ∧ CR σ2 (opWrite (K, L, g, F, tl, Bt, W, Z, N) x y v).2 ∧ FC σ σ2) := by
  obtain ⟨⟨hK, hO⟩, ⟨hg1, hg2, hg3⟩, hFd, ⟨⟨htl, htl2⟩, hBt⟩, hSh⟩ := id hC
  obtain ⟨⟨hn, h12⟩, hpp, hlw, hsp, hz0⟩ := id hO
  refine CtI.of (by decide +kernel) (Nat.le_of_ble_eq_true rfl) (fun p e0 s m below meth c C hr hlk => ?_)
  refine gx_lv (lv' := [(0, .ref (eA E 0)), (1, .int x), (2, .int y), (3, .int v)]) rfl ?_
  refine gx_aload_n C dX3_write_0 (by rfl) (by rfl) ?_
  refine gx_iload_n C dX3_write_1 (by rfl) (by rfl) ?_
  by_cases hsk : 0 ≤ x ∧ x ≤ 3
  ·
    obtain ⟨k, hk, rfl⟩ := s_nat hsk
    have ck : (nI k).toNatClampNeg = k := nI_clamp (by omega)
    obtain ⟨⟨hw1, hw2⟩, ⟨hz1, z, hz2, hz3⟩, hnm⟩ := hSh k (by omega)
    have cz : (Z k).toNatClampNeg = z := by rw [hz3]; exact nI_clamp (by omega)
    refine gx_callVR (As := [.int (nI k)]) (rest := []) C (c_X3_sheetAt_k E σ k (by omega)) z_X3_sheetAt ck3 (by rfl) (by rfl) ml_X3_234 (by rfl) (Nat.le_of_ble_eq_true rfl) ⟨Nat.le_of_ble_eq_true rfl, Nat.le_of_ble_eq_true rfl⟩ dX3_write_2 (fun r1 σ1 w1 => ?_)
    obtain ⟨u1, u2⟩ := w1; rw [u1, u2]; clear u1 u2
    refine gx_st (st' := [.ref (eA E (5 + k))]) rfl ?_
    refine gx_astore (lv2 := [(4, .ref (eA E (5 + k))), (0, .ref (eA E 0)), (1, .int (nI k)), (2, .int y), (3, .int v)]) C dX3_write_5 (by decide) rfl ?_
    refine gx_aload C dX3_write_7 (by rfl) ?_
    refine gx_ifnonnull (tgt := 19) C dX3_write_9 (by decide) ?_
    refine gx_aload C dX3_write_19 (by rfl) ?_
    refine gx_callVI (As := []) (rest := []) C (c_X1_isMissing E σ k (by omega) (W k) (by first | exact hw1 | (rw [hFt (5 + k) (by omega)]; exact hw1))) z_X1_isMissing ck1 (sh_s hk) (by rfl) ml_X3_244 (by rfl) (Nat.le_of_ble_eq_true rfl) ⟨Nat.le_of_ble_eq_true rfl, Nat.le_of_ble_eq_true rfl⟩ dX3_write_21 (fun r2 σ2 w2 => ?_)
    obtain ⟨u1, u2⟩ := w2; rw [u1, u2]; clear u1 u2
    refine gx_if_eq (tgt := 34) C dX3_write_24 (by decide) (fun h3 => ?_) (fun h3 => ?_)
    ·
      have h3 := b2_z.mp h3
      refine gx_iload_n C dX3_write_34 (by rfl) (by rfl) ?_
      refine gx_iconst (v := 0) C dX3_write_35 (by decide) ?_
      refine gx_aload C dX3_write_36 (by rfl) ?_
      refine gx_geti (k := 2) C ck1 (sh_s hk) (by rfl) (by decide) fl_X3_241 dX3_write_38 ?_
      refine gx_st (st' := [.int (nI z), .int 0, .int y]) (by rw [hz1, hz3]) ?_
      refine gx_iconst (v := 1) C dX3_write_41 (by decide) ?_
      refine gx_isub C dX3_write_42 ?_
      refine gx_callSI (As := [.int y, .int 0, .int ((nI z) - 1)]) (rest := []) C (c_X3_isWithin E σ y 0 ((nI z) - 1)) z_X3_isWithin (by rfl) ml_X3_44 (by rfl) (Nat.le_of_ble_eq_true rfl) ⟨Nat.le_of_ble_eq_true rfl, Nat.le_of_ble_eq_true rfl⟩ dX3_write_43 (fun r4 σ4 w4 => ?_)
      obtain ⟨u1, u2⟩ := w4; rw [u1, u2]; clear u1 u2
      refine gx_if_ne (tgt := 56) C dX3_write_46 (by decide) (fun h5 => ?_) (fun h5 => ?_)
      ·
        have h5 := b2_nz.mp h5
        obtain ⟨i0, hi0, rfl⟩ : ∃ i0, i0 < z ∧ y = nI i0 := wr_nat hz2 hz3 (by rw [hz3]; exact h5)
        have ci0 : (nI i0).toNatClampNeg = i0 := nI_clamp (by omega)
        refine gx_aload C dX3_write_56 (by rfl) ?_
        refine gx_getr (j := 9 + k) (k := 0) C ck1 (sh_s hk) (by rfl) (by decide) fl_X3_248 dX3_write_58 ?_
        refine gx_iload_n C dX3_write_61 (by rfl) (by rfl) ?_
        refine gx_aload C dX3_write_62 (by rfl) ?_
        refine gx_iload_n C dX3_write_64 (by rfl) (by rfl) ?_
        refine gx_callVI (As := [.int v]) (rest := [.int (nI i0), .ref (eA E (9 + k))]) C (c_X1_cut E σ k (by omega) (W k) (by first | exact hw1 | (rw [hFt (5 + k) (by omega)]; exact hw1)) v) z_X1_cut ck1 (sh_s hk) (by rfl) ml_X3_251 (by rfl) (Nat.le_of_ble_eq_true rfl) ⟨Nat.le_of_ble_eq_true rfl, Nat.le_of_ble_eq_true rfl⟩ dX3_write_65 (fun r6 σ6 w6 => ?_)
        obtain ⟨u1, u2⟩ := w6; rw [u1, u2]; clear u1 u2
        refine gx_iastN (k := i0) C (sh_n hk) rfl (by omega) (by decide) dX3_write_68 ?_
        have hK7 : Emp (up2 σ (9 + k) i0 (cutW (W k) v)) 13 K := hK.w (by omega)
        refine gx_iconst (v := 1) C dX3_write_69 (by decide) ?_
        exact gx_iret C hr hlk rfl (fin_nm (row := upd (N k) i0 (cutW (W k) v)) hC hk (fun q hq => up2_o hq) (fun q hq => by rw [up2_s]; exact (if hh : q = i0 then by rw [hh, pk_us, pk_us] else by rw [pk_un hh, pk_un hh]; exact hnm q hq)) (by simp only [opWrite, ck, ci0, bey, mis]; rw [if_pos (by grind), if_neg (by grind), if_pos (by grind)]; rfl)) dX3_write_70
      ·
        have h5 := b2_z.mp h5
        refine gx_aload_n C dX3_write_49 (by rfl) (by rfl) ?_
        refine gx_ldc C kc_X3_48 dX3_write_50 ?_
        refine gx_callVI (As := [.int (-1000001)]) (rest := []) C (c_X3_found E σ (-1000001) 0 (by decide) (by decide)) z_X3_found ck3 (by rfl) (by rfl) ml_X3_49 (by rfl) (Nat.le_of_ble_eq_true rfl) ⟨Nat.le_of_ble_eq_true rfl, Nat.le_of_ble_eq_true rfl⟩ dX3_write_52 (fun r8 σ8 w8 => ?_)
        obtain ⟨u1, u2⟩ := w8; rw [u1, u2]; clear u1 u2
        exact gx_iret C hr hlk rfl (fin_fd hC (by decide) (by simp only [opWrite, bey, ful, knd, non, sta, mis, siz] <;> grind)) dX3_write_55
    ·
      have h3 := b2_nz.mp h3
      refine gx_aload_n C dX3_write_27 (by rfl) (by rfl) ?_
      refine gx_ldc C kc_X3_229 dX3_write_28 ?_
      refine gx_callVI (As := [.int (-1000006)]) (rest := []) C (c_X3_found E σ (-1000006) 5 (by decide) (by decide)) z_X3_found ck3 (by rfl) (by rfl) ml_X3_49 (by rfl) (Nat.le_of_ble_eq_true rfl) ⟨Nat.le_of_ble_eq_true rfl, Nat.le_of_ble_eq_true rfl⟩ dX3_write_30 (fun r9 σ9 w9 => ?_)
      obtain ⟨u1, u2⟩ := w9; rw [u1, u2]; clear u1 u2
      exact gx_iret C hr hlk rfl (fin_fd hC (by decide) (by simp only [opWrite, bey, ful, knd, non, sta, mis, siz] <;> grind)) dX3_write_33
  ·
    refine gx_callVR (As := [.int x]) (rest := []) C (c_X3_sheetAt_n E σ x (by assumption)) z_X3_sheetAt ck3 (by rfl) (by rfl) ml_X3_234 (by rfl) (Nat.le_of_ble_eq_true rfl) ⟨Nat.le_of_ble_eq_true rfl, Nat.le_of_ble_eq_true rfl⟩ dX3_write_2 (fun r10 σ10 w10 => ?_)
    obtain ⟨u1, u2⟩ := w10; rw [u1, u2]; clear u1 u2
    refine gx_st (st' := [.null]) rfl ?_
    refine gx_astoreN (lv2 := [(4, .null), (0, .ref (eA E 0)), (1, .int x), (2, .int y), (3, .int v)]) C dX3_write_5 (by decide) rfl ?_
    refine gx_aloadN C dX3_write_7 (by rfl) ?_
    refine gx_ifnonnullN C dX3_write_9 ?_
    refine gx_aload_n C dX3_write_12 (by rfl) (by rfl) ?_
    refine gx_ldc C kc_X3_48 dX3_write_13 ?_
    refine gx_callVI (As := [.int (-1000001)]) (rest := []) C (c_X3_found E σ (-1000001) 0 (by decide) (by decide)) z_X3_found ck3 (by rfl) (by rfl) ml_X3_49 (by rfl) (Nat.le_of_ble_eq_true rfl) ⟨Nat.le_of_ble_eq_true rfl, Nat.le_of_ble_eq_true rfl⟩ dX3_write_15 (fun r11 σ11 w11 => ?_)
    obtain ⟨u1, u2⟩ := w11; rw [u1, u2]; clear u1 u2
    exact gx_iret C hr hlk rfl (fin_fd hC (by decide) (by simp only [opWrite, bey, ful, knd, non, sta, mis, siz] <;> grind)) dX3_write_18
