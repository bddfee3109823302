set_option maxHeartbeats 4000000 in
set_option maxRecDepth 100000 in
theorem c_J3_checkIndex_n (E : En) (σ : Mm) (i n : Nat) (hi : i < n) (hn : n < 1000) : CtI E yJ3_checkIndex_8e157 cJ3_checkIndex_8e157 3 (some .int) 0 0 [.int (nI i), .int (nI n), .null] σ (fun rr σ2 => σ2 = σ ∧ rr = nI i) := by
  refine CtI.of (by decide +kernel) (Nat.le_of_ble_eq_true rfl) (fun p e0 s m below meth c C hr hlk => ?_)
  refine gx_lv (lv' := [(0, .int (nI i)), (1, .int (nI n)), (2, .null)]) rfl ?_
  refine gx_iload_n C dJ3_checkIndex_8e157_0 (by rfl) (by rfl) ?_
  refine gx_if_lt (tgt := 9) C dJ3_checkIndex_8e157_1 (by decide) (fun h1 => ?_) (fun h1 => ?_)
  ·
    exact absurd h1 (nI_pos (by omega))
  ·
    refine gx_iload_n C dJ3_checkIndex_8e157_4 (by rfl) (by rfl) ?_
    refine gx_iload_n C dJ3_checkIndex_8e157_5 (by rfl) (by rfl) ?_
    refine gx_icmp_lt (tgt := 16) C dJ3_checkIndex_8e157_6 (by decide) (fun h2 => ?_) (fun h2 => ?_)
    ·
      have h2 := (nI_ltI (a := i) (b := n) (by omega) (by omega)).mp h2
      refine gx_iload_n C dJ3_checkIndex_8e157_16 (by rfl) (by rfl) ?_
      exact gx_iret C hr hlk rfl ⟨rfl, rfl⟩ dJ3_checkIndex_8e157_17
    ·
      have h2 := (not_congr (nI_ltI (a := i) (b := n) (by omega) (by omega))).mp h2
      exact absurd hi h2
set_option maxHeartbeats 4000000 in
set_option maxRecDepth 100000 in
theorem c_J3_checkIndex_r (E : En) (σ : Mm) (i n : Nat) (hi : i < n) (hn : n < 1000) (t9 : Nat) : CtI E yJ3_checkIndex_8e157 cJ3_checkIndex_8e157 3 (some .int) 0 0 [.int (nI i), .int (nI n), .ref t9] σ (fun rr σ2 => σ2 = σ ∧ rr = nI i) := by
  refine CtI.of (by decide +kernel) (Nat.le_of_ble_eq_true rfl) (fun p e0 s m below meth c C hr hlk => ?_)
  refine gx_lv (lv' := [(0, .int (nI i)), (1, .int (nI n)), (2, .ref t9)]) rfl ?_
  refine gx_iload_n C dJ3_checkIndex_8e157_0 (by rfl) (by rfl) ?_
  refine gx_if_lt (tgt := 9) C dJ3_checkIndex_8e157_1 (by decide) (fun h1 => ?_) (fun h1 => ?_)
  ·
    exact absurd h1 (nI_pos (by omega))
  ·
    refine gx_iload_n C dJ3_checkIndex_8e157_4 (by rfl) (by rfl) ?_
    refine gx_iload_n C dJ3_checkIndex_8e157_5 (by rfl) (by rfl) ?_
    refine gx_icmp_lt (tgt := 16) C dJ3_checkIndex_8e157_6 (by decide) (fun h2 => ?_) (fun h2 => ?_)
    ·
      have h2 := (nI_ltI (a := i) (b := n) (by omega) (by omega)).mp h2
      refine gx_iload_n C dJ3_checkIndex_8e157_16 (by rfl) (by rfl) ?_
      exact gx_iret C hr hlk rfl ⟨rfl, rfl⟩ dJ3_checkIndex_8e157_17
    ·
      have h2 := (not_congr (nI_ltI (a := i) (b := n) (by omega) (by omega))).mp h2
      exact absurd hi h2
set_option maxHeartbeats 4000000 in
set_option maxRecDepth 100000 in
theorem c_J0_checkIndex_df160 (E : En) (σ : Mm) (i n : Nat) (hi : i < n) (hn : n < 1000) : CtV E yJ0_checkIndex_df160 cJ0_checkIndex_df160 2 none 1 22 [.int (nI i), .int (nI n)] σ (fun σ2 => σ2 = σ) := by
  refine CtV.of (by decide +kernel) (Nat.le_of_ble_eq_true rfl) (fun p e0 s m below meth c C hr hlk => ?_)
  refine gx_lv (lv' := [(0, .int (nI i)), (1, .int (nI n))]) rfl ?_
  refine gx_iload_n C dJ0_checkIndex_df160_0 (by rfl) (by rfl) ?_
  refine gx_iload_n C dJ0_checkIndex_df160_1 (by rfl) (by rfl) ?_
  refine gx_sioobe C fl_J0_1053 dJ0_checkIndex_df160_2 ?_ (fun t9 => ?_)
  ·
    refine gx_callSI (As := [.int (nI i), .int (nI n), .null]) (rest := []) C (c_J3_checkIndex_n E σ i n (by omega) (by omega)) z_J3_checkIndex_8e157 (by rfl) ml_J0_1059 (by rfl) (Nat.le_of_ble_eq_true rfl) ⟨Nat.le_of_ble_eq_true rfl, Nat.le_of_ble_eq_true rfl⟩ dJ0_checkIndex_df160_5 (fun r1 σ1 w1 => ?_)
    obtain ⟨u1, u2⟩ := w1; rw [u1, u2]; clear u1 u2
    refine gx_pop C (by rfl) dJ0_checkIndex_df160_8 ?_
    exact gx_vret C hr hlk rfl dJ0_checkIndex_df160_9
  ·
    refine gx_callSI (As := [.int (nI i), .int (nI n), .ref t9]) (rest := []) C (c_J3_checkIndex_r E σ i n (by omega) (by omega) t9) z_J3_checkIndex_8e157 (by rfl) ml_J0_1059 (by rfl) (Nat.le_of_ble_eq_true rfl) ⟨Nat.le_of_ble_eq_true rfl, Nat.le_of_ble_eq_true rfl⟩ dJ0_checkIndex_df160_5 (fun r2 σ2 w2 => ?_)
    obtain ⟨u1, u2⟩ := w2; rw [u1, u2]; clear u1 u2
    refine gx_pop C (by rfl) dJ0_checkIndex_df160_8 ?_
    exact gx_vret C hr hlk rfl dJ0_checkIndex_df160_9
set_option maxHeartbeats 4000000 in
set_option maxRecDepth 100000 in
theorem c_J0_coder_7d493 (E : En) (σ : Mm) (q : Nat) (hq : q < 34) : CtI E yJ0_coder_7d493 cJ0_coder_7d493 1 (some .byte) 0 0 [.ref (eZ E (100 + q))] σ (fun rr σ2 => σ2 = σ ∧ rr = 0) := by
  refine CtI.of (by decide +kernel) (Nat.le_of_ble_eq_true rfl) (fun p e0 s m below meth c C hr hlk => ?_)
  refine gx_lv (lv' := [(0, .ref (eZ E (100 + q)))]) rfl ?_
  refine gx_compact C fl_J0_38 dJ0_coder_7d493_0 ?_
  refine gx_if_eq (tgt := 13) C dJ0_coder_7d493_3 (by decide) (fun h1 => ?_) (fun h1 => ?_)
  ·
    exact absurd h1 (by decide)
  ·
    clear h1
    refine gx_aload_n C dJ0_coder_7d493_6 (by rfl) (by rfl) ?_
    refine gx_coder C (by omega) fl_J0_15 dJ0_coder_7d493_7 ?_
    refine gx_goto (tgt := 14) C dJ0_coder_7d493_10 (by decide) ?_
    exact gx_iret C hr hlk (by first | rfl | exact nb_b2 _) ⟨rfl, rfl⟩ dJ0_coder_7d493_14
set_option maxHeartbeats 4000000 in
set_option maxRecDepth 100000 in
theorem c_J0_length_8abf5 (E : En) (σ : Mm) (q : Nat) (hq : q < 34) : CtI E yJ0_length_8abf5 cJ0_length_8abf5 1 (some .int) 1 20 [.ref (eZ E (100 + q))] σ (fun rr σ2 => σ2 = σ ∧ rr = nI (jByt.getD q []).length) := by
  have hlen := jB_len q hq
  refine CtI.of (by decide +kernel) (Nat.le_of_ble_eq_true rfl) (fun p e0 s m below meth c C hr hlk => ?_)
  refine gx_lv (lv' := [(0, .ref (eZ E (100 + q)))]) rfl ?_
  refine gx_aload_n C dJ0_length_8abf5_0 (by rfl) (by rfl) ?_
  refine gx_value C (by omega) fl_J0_9 dJ0_length_8abf5_1 ?_
  refine gx_tlen C (by omega) dJ0_length_8abf5_4 ?_
  refine gx_aload_n C dJ0_length_8abf5_5 (by rfl) (by rfl) ?_
  refine gx_callTI (As := []) (rest := [.int (nI ((jByt.getD q []).length))]) C (by omega) (c_J0_coder_7d493 E σ q (by omega)) z_J0_coder_7d493 (by rfl) ml_J0_335 (by rfl) (Nat.le_of_ble_eq_true rfl) ⟨Nat.le_of_ble_eq_true rfl, Nat.le_of_ble_eq_true rfl⟩ dJ0_length_8abf5_6 (fun r1 σ1 w1 => ?_)
  obtain ⟨u1, u2⟩ := w1; rw [u1, u2]; clear u1 u2
  refine gx_ishr C dJ0_length_8abf5_9 ?_
  exact gx_iret C hr hlk rfl ⟨rfl, shr0 _⟩ dJ0_length_8abf5_10
set_option maxHeartbeats 4000000 in
set_option maxRecDepth 100000 in
theorem c_J0_isLatin1_aae02 (E : En) (σ : Mm) (q : Nat) (hq : q < 34) : CtI E yJ0_isLatin1_aae02 cJ0_isLatin1_aae02 1 (some .boolean) 0 0 [.ref (eZ E (100 + q))] σ (fun rr σ2 => σ2 = σ ∧ rr = 1) := by
  refine CtI.of (by decide +kernel) (Nat.le_of_ble_eq_true rfl) (fun p e0 s m below meth c C hr hlk => ?_)
  refine gx_lv (lv' := [(0, .ref (eZ E (100 + q)))]) rfl ?_
  refine gx_compact C fl_J0_38 dJ0_isLatin1_aae02_0 ?_
  refine gx_if_eq (tgt := 17) C dJ0_isLatin1_aae02_3 (by decide) (fun h1 => ?_) (fun h1 => ?_)
  ·
    exact absurd h1 (by decide)
  ·
    clear h1
    refine gx_aload_n C dJ0_isLatin1_aae02_6 (by rfl) (by rfl) ?_
    refine gx_coder C (by omega) fl_J0_15 dJ0_isLatin1_aae02_7 ?_
    refine gx_if_ne (tgt := 17) C dJ0_isLatin1_aae02_10 (by decide) (fun h2 => ?_) (fun h2 => ?_)
    ·
      exact absurd h2 (by decide)
    ·
      clear h2
      refine gx_iconst (v := 1) C dJ0_isLatin1_aae02_13 (by decide) ?_
      refine gx_goto (tgt := 18) C dJ0_isLatin1_aae02_14 (by decide) ?_
      exact gx_iret C hr hlk (by first | rfl | exact nb_b2 _) ⟨rfl, rfl⟩ dJ0_isLatin1_aae02_18
set_option maxHeartbeats 4000000 in
set_option maxRecDepth 100000 in
theorem c_J1_charAt_3b067 (E : En) (σ : Mm) (q : Nat) (hq : q < 34) (i : Nat) (hi : i < (jByt.getD q []).length) : CtI E yJ1_charAt_3b067 cJ1_charAt_3b067 2 (some .char) 2 43 [.ref (eZ E (200 + q)), .int (nI i)] σ (fun rr σ2 => σ2 = σ ∧ rr = (jByt.getD q []).getD i 0) := by
  have hlen := jB_len q hq
  refine CtI.of (by decide +kernel) (Nat.le_of_ble_eq_true rfl) (fun p e0 s m below meth c C hr hlk => ?_)
  refine gx_lv (lv' := [(0, .ref (eZ E (200 + q))), (1, .int (nI i))]) rfl ?_
  refine gx_iload_n C dJ1_charAt_3b067_0 (by rfl) (by rfl) ?_
  refine gx_aload_n C dJ1_charAt_3b067_1 (by rfl) (by rfl) ?_
  refine gx_tlen C (by omega) dJ1_charAt_3b067_2 ?_
  refine gx_callSV (As := [.int (nI i), .int (nI ((jByt.getD q []).length))]) (rest := []) C (c_J0_checkIndex_df160 E σ i ((jByt.getD q []).length) (by omega) (by omega)) z_J0_checkIndex_df160 (by rfl) ml_J1_9 (by rfl) (Nat.le_of_ble_eq_true rfl) ⟨Nat.le_of_ble_eq_true rfl, Nat.le_of_ble_eq_true rfl⟩ dJ1_charAt_3b067_3 (fun σ1 w1 => ?_)
  rw [w1]; clear w1
  refine gx_aload_n C dJ1_charAt_3b067_6 (by rfl) (by rfl) ?_
  refine gx_iload_n C dJ1_charAt_3b067_7 (by rfl) (by rfl) ?_
  refine gx_tb C (by omega) (by omega) (by omega) dJ1_charAt_3b067_8 ?_
  refine gx_sipush (v := 255) C dJ1_charAt_3b067_9 (by decide) ?_
  refine gx_iand C dJ1_charAt_3b067_12 ?_
  refine gx_i2c C dJ1_charAt_3b067_13 ?_
  refine gx_st (st' := [.int ((jByt.getD q []).getD i 0)]) (by rw [show ((((jByt.getD q []).getD i 0) &&& 255).toUInt32 % 65536).toInt32 = (jByt.getD q []).getD i 0 from jB_chr q hq i (by omega)]) ?_
  exact gx_iret C hr hlk (jB_nar q hq i (by omega)) ⟨rfl, rfl⟩ dJ1_charAt_3b067_14
set_option maxHeartbeats 4000000 in
set_option maxRecDepth 100000 in
theorem c_J0_charAt_5068e (E : En) (σ : Mm) (q : Nat) (hq : q < 34) (i : Nat) (hi : i < (jByt.getD q []).length) : CtI E yJ0_charAt_5068e cJ0_charAt_5068e 2 (some .char) 3 64 [.ref (eZ E (100 + q)), .int (nI i)] σ (fun rr σ2 => σ2 = σ ∧ rr = (jByt.getD q []).getD i 0) := by
  have hlen := jB_len q hq
  refine CtI.of (by decide +kernel) (Nat.le_of_ble_eq_true rfl) (fun p e0 s m below meth c C hr hlk => ?_)
  refine gx_lv (lv' := [(0, .ref (eZ E (100 + q))), (1, .int (nI i))]) rfl ?_
  refine gx_aload_n C dJ0_charAt_5068e_0 (by rfl) (by rfl) ?_
  refine gx_callTI (As := []) (rest := []) C (by omega) (c_J0_isLatin1_aae02 E σ q (by omega)) z_J0_isLatin1_aae02 (by rfl) ml_J0_492 (by rfl) (Nat.le_of_ble_eq_true rfl) ⟨Nat.le_of_ble_eq_true rfl, Nat.le_of_ble_eq_true rfl⟩ dJ0_charAt_5068e_1 (fun r1 σ1 w1 => ?_)
  obtain ⟨u1, u2⟩ := w1; rw [u1, u2]; clear u1 u2
  refine gx_if_eq (tgt := 16) C dJ0_charAt_5068e_4 (by decide) (fun h2 => ?_) (fun h2 => ?_)
  ·
    exact absurd h2 (by decide)
  ·
    clear h2
    refine gx_aload_n C dJ0_charAt_5068e_7 (by rfl) (by rfl) ?_
    refine gx_value C (by omega) fl_J0_9 dJ0_charAt_5068e_8 ?_
    refine gx_iload_n C dJ0_charAt_5068e_11 (by rfl) (by rfl) ?_
    refine gx_callSI (As := [.ref (eZ E (200 + q)), .int (nI i)]) (rest := []) C (c_J1_charAt_3b067 E σ q (by omega) i (by omega)) z_J1_charAt_3b067 (by rfl) ml_J0_495 (by rfl) (Nat.le_of_ble_eq_true rfl) ⟨Nat.le_of_ble_eq_true rfl, Nat.le_of_ble_eq_true rfl⟩ dJ0_charAt_5068e_12 (fun r3 σ3 w3 => ?_)
    obtain ⟨u1, u2⟩ := w3; rw [u1, u2]; clear u1 u2
    exact gx_iret C hr hlk (jB_nar q hq i (by omega)) ⟨rfl, rfl⟩ dJ0_charAt_5068e_15
