theorem ip_iff {n : Nat} {q : Int32} (h : n ≤ 12) : (0 ≤ q ∧ q ≤ nI n - 1) ↔ (0 ≤ q ∧ q < nI n) := by
  have h1 : (nI n - 1).toInt = (n : Int) - 1 := pk_sub_toInt (a := n) (b := 1) (by omega) (by omega)
  rw [Int32.le_iff_toInt_le (x := q), Int32.lt_iff_toInt_lt, h1, nI_toInt (by omega)]
  constructor <;> (intro ⟨a, b⟩; exact ⟨a, by omega⟩)
theorem vM_mk {σ : Mm} {q w : Nat} {v : Int32} (hw : w < 7) (hq : q < 12) : vM (up2 σ 50 (15 + 7 * q + w) v) 50 = up2 (vM σ 50) (w + 1) q v := by
  refine vM_up (by omega) ?_ ?_
  · rw [(by decide : ∀ w, w < 7 → rng (w + 1) = 12) w hw]; exact hq
  · unfold mIx
    rw [if_neg (by omega), if_pos (by omega)]
    omega
set_option maxHeartbeats 4000000 in
set_option maxRecDepth 100000 in
theorem c_X4_isPerson (E : En) (σ : Mm) (K : Mm) (hM : vM σ 50 = K) (hO : Ok K) (q : Int32) : CtI E yX4_isPerson cX4_isPerson 2 (some .boolean) 1 25 [.ref (eA E 49), .int q] σ (fun rr σ2 => σ2 = σ ∧ rr = b2 (0 ≤ q ∧ q < K 0 0)) := by
  obtain ⟨⟨hn, h12⟩, hpp, hlw, hsp, hz0⟩ := id hO
  refine CtI.of (by decide +kernel) (Nat.le_of_ble_eq_true rfl) (fun p e0 s m below meth c C hr hlk => ?_)
  refine gx_lv (lv' := [(0, .ref (eA E 49)), (1, .int q)]) rfl ?_
  refine gx_iload_n C dX4_isPerson_0 (by rfl) (by rfl) ?_
  refine gx_i2l C dX4_isPerson_1 ?_
  refine gx_lconst (v := 0) C dX4_isPerson_2 (by decide) ?_
  refine gx_aload_n C dX4_isPerson_3 (by rfl) (by rfl) ?_
  refine gx_getr (j := 50) (k := 0) C ck4 (by rfl) (by rfl) (by decide) fl_X4_9 dX4_isPerson_4 ?_
  refine gx_bipush (v := 6) C dX4_isPerson_7 (by decide) ?_
  refine gx_ialdN (k := 6) C (by rfl) (by rfl) (by decide) (by decide) dX4_isPerson_9 ?_
  refine gx_st (st' := [.int (nI (nn K)), .long 0, .long q.toInt64]) (by rw [mp_n hM, hn]) ?_
  refine gx_iconst (v := 1) C dX4_isPerson_10 (by decide) ?_
  refine gx_isub C dX4_isPerson_11 ?_
  refine gx_i2l C dX4_isPerson_12 ?_
  refine gx_callSI (As := [.long q.toInt64, .long 0, .long (((nI (nn K)) - 1).toInt64)]) (rest := []) C (c_X4_in E σ q 0 ((nI (nn K)) - 1) q.toInt64 0 (((nI (nn K)) - 1).toInt64) (by first | rfl | decide) (by first | rfl | decide) (by first | rfl | decide)) z_X4_in (by rfl) ml_X4_45 (by rfl) (Nat.le_of_ble_eq_true rfl) ⟨Nat.le_of_ble_eq_true rfl, Nat.le_of_ble_eq_true rfl⟩ dX4_isPerson_13 (fun r1 σ1 w1 => ?_)
  obtain ⟨u1, u2⟩ := w1; rw [u1, u2]; clear u1 u2
  exact gx_iret C hr hlk (by first | rfl | exact nb_b2 _) ⟨rfl, b2_c (by rw [hn]; exact ip_iff h12)⟩ dX4_isPerson_16
set_option maxHeartbeats 4000000 in
set_option maxRecDepth 100000 in
theorem c_X4_isOut (E : En) (σ : Mm) (K : Mm) (hM : vM σ 50 = K) (hO : Ok K) (q : Nat) (hq : q < 12) : CtI E yX4_isOut cX4_isOut 2 (some .boolean) 1 22 [.ref (eA E 49), .int (nI q)] σ (fun rr σ2 => σ2 = σ ∧ rr = b2 (K 2 q = -1)) := by
  obtain ⟨⟨hn, h12⟩, hpp, hlw, hsp, hz0⟩ := id hO
  refine CtI.of (by decide +kernel) (Nat.le_of_ble_eq_true rfl) (fun p e0 s m below meth c C hr hlk => ?_)
  refine gx_lv (lv' := [(0, .ref (eA E 49)), (1, .int (nI q))]) rfl ?_
  refine gx_aload_n C dX4_isOut_0 (by rfl) (by rfl) ?_
  refine gx_iload_n C dX4_isOut_1 (by rfl) (by rfl) ?_
  refine gx_iconst (v := 1) C dX4_isOut_2 (by decide) ?_
  refine gx_callVI (As := [.int (nI q), .int 1]) (rest := []) C (c_X4_is E σ q (by omega) 1 (by omega)) z_X4_is ck4 (by rfl) (by rfl) ml_X4_51 (by rfl) (Nat.le_of_ble_eq_true rfl) ⟨Nat.le_of_ble_eq_true rfl, Nat.le_of_ble_eq_true rfl⟩ dX4_isOut_3 (fun r1 σ1 w1 => ?_)
  obtain ⟨u1, u2⟩ := w1; rw [u1, u2]; clear u1 u2
  refine gx_st (st' := [.int (K 2 q)]) (by rw [mp_2 hM (p := q) (by omega)]) ?_
  refine gx_iconst (v := (-1)) C dX4_isOut_6 (by decide) ?_
  refine gx_icmp_ne (tgt := 14) C dX4_isOut_7 (by decide) (fun h2 => ?_) (fun h2 => ?_)
  ·
    refine gx_iconst (v := 0) C dX4_isOut_14 (by decide) ?_
    exact gx_iret C hr hlk (by first | rfl | exact nb_b2 _) ⟨rfl, by first | exact b2_t (by grind) | exact b2_f (by grind)⟩ dX4_isOut_15
  ·
    refine gx_iconst (v := 1) C dX4_isOut_10 (by decide) ?_
    refine gx_goto (tgt := 15) C dX4_isOut_11 (by decide) ?_
    exact gx_iret C hr hlk (by first | rfl | exact nb_b2 _) ⟨rfl, by first | exact b2_t (by grind) | exact b2_f (by grind)⟩ dX4_isOut_15
set_option maxHeartbeats 4000000 in
set_option maxRecDepth 100000 in
theorem c_X4_inRank (E : En) (σ : Mm) (K : Mm) (hM : vM σ 50 = K) (hO : Ok K) (r : Int32) : CtI E yX4_inRank cX4_inRank 4 (some .int) 1 22 [.ref (eA E 49), .int r] σ (fun rr σ2 => σ2 = σ ∧ rr = bset (nn K) (inP K r)) := by
  obtain ⟨⟨hn, h12⟩, hpp, hlw, hsp, hz0⟩ := id hO
  refine CtI.of (by decide +kernel) (Nat.le_of_ble_eq_true rfl) (fun p e0 s m below meth c C hr hlk => ?_)
  refine gx_lv (lv' := [(0, .ref (eA E 49)), (1, .int r)]) rfl ?_
  refine gx_iconst (v := 0) C dX4_inRank_0 (by decide) ?_
  refine gx_istore_n (lv2 := [(2, .int 0), (0, .ref (eA E 49)), (1, .int r)]) C dX4_inRank_1 (by rfl) (by decide) rfl ?_
  refine gx_iconst (v := 0) C dX4_inRank_2 (by decide) ?_
  refine gx_istore_n (lv2 := [(3, .int 0), (2, .int 0), (0, .ref (eA E 49)), (1, .int r)]) C dX4_inRank_3 (by rfl) (by decide) rfl ?_
  have loop4 : ∀ (kf i4 : Nat), i4 ≤ nn K → nn K < i4 + kf → Gx E p e0 (rmF 1 22) s m ([.ref (eA E 49), .int r] : List Value).toArray below meth c (MQ below (va_Qi (fun rr σ2 => σ2 = σ ∧ rr = bset (nn K) (inP K r)) (WQ E) (AA E s.heap.size)) ([.ref (eA E 49), .int r] : List Value).toArray s 0 0 (AA E s.heap.size)) 4 4 [(0, .ref (eA E 49)), (1, .int r), (2, .int (bset i4 (inP K r))), (3, .int (nI i4))] [] σ := by
    intro kf
    induction kf with
    | zero => intro i4 q1 q2; exact absurd q2 (by omega)
    | succ kf ih4 =>
      intro i4 a4 b4
      refine gx_iload_n C dX4_inRank_4 (by rfl) (by rfl) ?_
      refine gx_aload_n C dX4_inRank_5 (by rfl) (by rfl) ?_
      refine gx_getr (j := 50) (k := 0) C ck4 (by rfl) (by rfl) (by decide) fl_X4_9 dX4_inRank_6 ?_
      refine gx_bipush (v := 6) C dX4_inRank_9 (by decide) ?_
      refine gx_ialdN (k := 6) C (by rfl) (by rfl) (by decide) (by decide) dX4_inRank_11 ?_
      refine gx_st (st' := [.int (nI (nn K)), .int (nI i4)]) (by rw [mp_n hM, hn]) ?_
      refine gx_icmp_ge (tgt := 41) C dX4_inRank_12 (by decide) (fun h1 => ?_) (fun h1 => ?_)
      ·
        have h1 := (nI_leI (a := (nn K)) (b := i4) (by omega) (by omega)).mp h1
        refine gx_iload_n C dX4_inRank_41 (by rfl) (by rfl) ?_
        exact gx_iret C hr hlk rfl ⟨rfl, by rw [show i4 = nn K by omega]⟩ dX4_inRank_42
      ·
        have h1 := (not_congr (nI_leI (a := (nn K)) (b := i4) (by omega) (by omega))).mp h1
        refine gx_iload_n C dX4_inRank_15 (by rfl) (by rfl) ?_
        refine gx_aload_n C dX4_inRank_16 (by rfl) (by rfl) ?_
        refine gx_iload_n C dX4_inRank_17 (by rfl) (by rfl) ?_
        refine gx_iconst (v := 1) C dX4_inRank_18 (by decide) ?_
        refine gx_callVI (As := [.int (nI i4), .int 1]) (rest := [.int (bset i4 (inP K r))]) C (c_X4_is E σ i4 (by omega) 1 (by omega)) z_X4_is ck4 (by rfl) (by rfl) ml_X4_51 (by rfl) (Nat.le_of_ble_eq_true rfl) ⟨Nat.le_of_ble_eq_true rfl, Nat.le_of_ble_eq_true rfl⟩ dX4_inRank_19 (fun r2 σ2 w2 => ?_)
        obtain ⟨u1, u2⟩ := w2; rw [u1, u2]; clear u1 u2
        refine gx_st (st' := [.int (K 2 i4), .int (bset i4 (inP K r))]) (by rw [mp_2 hM (p := i4) (by omega)]) ?_
        refine gx_iload_n C dX4_inRank_22 (by rfl) (by rfl) ?_
        refine gx_icmp_ne (tgt := 32) C dX4_inRank_23 (by decide) (fun h3 => ?_) (fun h3 => ?_)
        ·
          refine gx_iconst (v := 0) C dX4_inRank_32 (by decide) ?_
          refine gx_ior C dX4_inRank_33 ?_
          refine gx_istore_n (lv2 := [(2, .int ((bset i4 (inP K r)) ||| 0)), (0, .ref (eA E 49)), (1, .int r), (3, .int (nI i4))]) C dX4_inRank_34 (by rfl) (by decide) rfl ?_
          refine gx_iinc (v := nI (i4 + 1)) (lv2 := [(3, .int (nI (i4 + 1))), (2, .int ((bset i4 (inP K r)) ||| 0)), (0, .ref (eA E 49)), (1, .int r)]) C dX4_inRank_35 (by rfl) (by exact nI_p1 _) (by decide) rfl ?_
          refine gx_goto (tgt := 4) C dX4_inRank_38 (by decide) ?_
          refine gx_sub [2, 3, 1, 0] (lv' := [(0, .ref (eA E 49)), (1, .int r), (2, .int ((bset i4 (inP K r)) ||| 0)), (3, .int (nI (i4 + 1)))]) rfl ?_
          refine gx_lv (lv' := [(0, .ref (eA E 49)), (1, .int r), (2, .int (bset (i4 + 1) (inP K r))), (3, .int (nI (i4 + 1)))]) (by rw [or0, bset_f (n := i4) (P := inP K r) (by omega) (by simp [inP, *])]) ?_
          exact ih4 (i4 + 1) (by omega) (by omega)
        ·
          refine gx_iconst (v := 1) C dX4_inRank_26 (by decide) ?_
          refine gx_iload_n C dX4_inRank_27 (by rfl) (by rfl) ?_
          refine gx_ishl C dX4_inRank_28 ?_
          refine gx_goto (tgt := 33) C dX4_inRank_29 (by decide) ?_
          refine gx_ior C dX4_inRank_33 ?_
          refine gx_istore_n (lv2 := [(2, .int ((bset i4 (inP K r)) ||| (1 <<< ((nI i4) &&& 31)))), (0, .ref (eA E 49)), (1, .int r), (3, .int (nI i4))]) C dX4_inRank_34 (by rfl) (by decide) rfl ?_
          refine gx_iinc (v := nI (i4 + 1)) (lv2 := [(3, .int (nI (i4 + 1))), (2, .int ((bset i4 (inP K r)) ||| (1 <<< ((nI i4) &&& 31)))), (0, .ref (eA E 49)), (1, .int r)]) C dX4_inRank_35 (by rfl) (by exact nI_p1 _) (by decide) rfl ?_
          refine gx_goto (tgt := 4) C dX4_inRank_38 (by decide) ?_
          refine gx_sub [2, 3, 1, 0] (lv' := [(0, .ref (eA E 49)), (1, .int r), (2, .int ((bset i4 (inP K r)) ||| (1 <<< ((nI i4) &&& 31)))), (3, .int (nI (i4 + 1)))]) rfl ?_
          refine gx_lv (lv' := [(0, .ref (eA E 49)), (1, .int r), (2, .int (bset (i4 + 1) (inP K r))), (3, .int (nI (i4 + 1)))]) (by rw [bset_t (n := i4) (P := inP K r) (by omega) (by simp [inP, *])]) ?_
          exact ih4 (i4 + 1) (by omega) (by omega)
  refine gx_sub [2, 3, 1, 0] (lv' := [(0, .ref (eA E 49)), (1, .int r), (2, .int 0), (3, .int 0)]) rfl ?_
  refine gx_lv (lv' := [(0, .ref (eA E 49)), (1, .int r), (2, .int (bset 0 (inP K r))), (3, .int (nI 0))]) (by rfl) ?_
  exact loop4 (nn K + 1) 0 (by omega) (by omega)
set_option maxHeartbeats 4000000 in
set_option maxRecDepth 100000 in
theorem c_X4_counting (E : En) (σ : Mm) (K : Mm) (hM : vM σ 50 = K) (hO : Ok K) (r : Int32) : CtI E yX4_counting cX4_counting 4 (some .int) 1 22 [.ref (eA E 49), .int r] σ (fun rr σ2 => σ2 = σ ∧ rr = bset (nn K) (fun q => inP K r q && cgP K q)) := by
  obtain ⟨⟨hn, h12⟩, hpp, hlw, hsp, hz0⟩ := id hO
  refine CtI.of (by decide +kernel) (Nat.le_of_ble_eq_true rfl) (fun p e0 s m below meth c C hr hlk => ?_)
  refine gx_lv (lv' := [(0, .ref (eA E 49)), (1, .int r)]) rfl ?_
  refine gx_iconst (v := 0) C dX4_counting_0 (by decide) ?_
  refine gx_istore_n (lv2 := [(2, .int 0), (0, .ref (eA E 49)), (1, .int r)]) C dX4_counting_1 (by rfl) (by decide) rfl ?_
  refine gx_iconst (v := 0) C dX4_counting_2 (by decide) ?_
  refine gx_istore_n (lv2 := [(3, .int 0), (2, .int 0), (0, .ref (eA E 49)), (1, .int r)]) C dX4_counting_3 (by rfl) (by decide) rfl ?_
  have loop4 : ∀ (kf i4 : Nat), i4 ≤ nn K → nn K < i4 + kf → Gx E p e0 (rmF 1 22) s m ([.ref (eA E 49), .int r] : List Value).toArray below meth c (MQ below (va_Qi (fun rr σ2 => σ2 = σ ∧ rr = bset (nn K) (fun q => inP K r q && cgP K q)) (WQ E) (AA E s.heap.size)) ([.ref (eA E 49), .int r] : List Value).toArray s 0 0 (AA E s.heap.size)) 4 4 [(0, .ref (eA E 49)), (1, .int r), (2, .int (bset i4 (fun q => inP K r q && cgP K q))), (3, .int (nI i4))] [] σ := by
    intro kf
    induction kf with
    | zero => intro i4 q1 q2; exact absurd q2 (by omega)
    | succ kf ih4 =>
      intro i4 a4 b4
      refine gx_iload_n C dX4_counting_4 (by rfl) (by rfl) ?_
      refine gx_aload_n C dX4_counting_5 (by rfl) (by rfl) ?_
      refine gx_getr (j := 50) (k := 0) C ck4 (by rfl) (by rfl) (by decide) fl_X4_9 dX4_counting_6 ?_
      refine gx_bipush (v := 6) C dX4_counting_9 (by decide) ?_
      refine gx_ialdN (k := 6) C (by rfl) (by rfl) (by decide) (by decide) dX4_counting_11 ?_
      refine gx_st (st' := [.int (nI (nn K)), .int (nI i4)]) (by rw [mp_n hM, hn]) ?_
      refine gx_icmp_ge (tgt := 52) C dX4_counting_12 (by decide) (fun h1 => ?_) (fun h1 => ?_)
      ·
        have h1 := (nI_leI (a := (nn K)) (b := i4) (by omega) (by omega)).mp h1
        refine gx_iload_n C dX4_counting_52 (by rfl) (by rfl) ?_
        exact gx_iret C hr hlk rfl ⟨rfl, by rw [show i4 = nn K by omega]⟩ dX4_counting_53
      ·
        have h1 := (not_congr (nI_leI (a := (nn K)) (b := i4) (by omega) (by omega))).mp h1
        refine gx_iload_n C dX4_counting_15 (by rfl) (by rfl) ?_
        refine gx_aload_n C dX4_counting_16 (by rfl) (by rfl) ?_
        refine gx_iload_n C dX4_counting_17 (by rfl) (by rfl) ?_
        refine gx_iconst (v := 1) C dX4_counting_18 (by decide) ?_
        refine gx_callVI (As := [.int (nI i4), .int 1]) (rest := [.int (bset i4 (fun q => inP K r q && cgP K q))]) C (c_X4_is E σ i4 (by omega) 1 (by omega)) z_X4_is ck4 (by rfl) (by rfl) ml_X4_51 (by rfl) (Nat.le_of_ble_eq_true rfl) ⟨Nat.le_of_ble_eq_true rfl, Nat.le_of_ble_eq_true rfl⟩ dX4_counting_19 (fun r2 σ2 w2 => ?_)
        obtain ⟨u1, u2⟩ := w2; rw [u1, u2]; clear u1 u2
        refine gx_st (st' := [.int (K 2 i4), .int (bset i4 (fun q => inP K r q && cgP K q))]) (by rw [mp_2 hM (p := i4) (by omega)]) ?_
        refine gx_iload_n C dX4_counting_22 (by rfl) (by rfl) ?_
        refine gx_icmp_ne (tgt := 43) C dX4_counting_23 (by decide) (fun h3 => ?_) (fun h3 => ?_)
        ·
          refine gx_iconst (v := 0) C dX4_counting_43 (by decide) ?_
          refine gx_ior C dX4_counting_44 ?_
          refine gx_istore_n (lv2 := [(2, .int ((bset i4 (fun q => inP K r q && cgP K q)) ||| 0)), (0, .ref (eA E 49)), (1, .int r), (3, .int (nI i4))]) C dX4_counting_45 (by rfl) (by decide) rfl ?_
          refine gx_iinc (v := nI (i4 + 1)) (lv2 := [(3, .int (nI (i4 + 1))), (2, .int ((bset i4 (fun q => inP K r q && cgP K q)) ||| 0)), (0, .ref (eA E 49)), (1, .int r)]) C dX4_counting_46 (by rfl) (by exact nI_p1 _) (by decide) rfl ?_
          refine gx_goto (tgt := 4) C dX4_counting_49 (by decide) ?_
          refine gx_sub [2, 3, 1, 0] (lv' := [(0, .ref (eA E 49)), (1, .int r), (2, .int ((bset i4 (fun q => inP K r q && cgP K q)) ||| 0)), (3, .int (nI (i4 + 1)))]) rfl ?_
          refine gx_lv (lv' := [(0, .ref (eA E 49)), (1, .int r), (2, .int (bset (i4 + 1) (fun q => inP K r q && cgP K q))), (3, .int (nI (i4 + 1)))]) (by rw [or0, bset_f (n := i4) (P := fun q => inP K r q && cgP K q) (by omega) (by simp [inP, cgP, *])]) ?_
          exact ih4 (i4 + 1) (by omega) (by omega)
        ·
          refine gx_aload_n C dX4_counting_26 (by rfl) (by rfl) ?_
          refine gx_iload_n C dX4_counting_27 (by rfl) (by rfl) ?_
          refine gx_iconst (v := 0) C dX4_counting_28 (by decide) ?_
          refine gx_callVI (As := [.int (nI i4), .int 0]) (rest := [.int (bset i4 (fun q => inP K r q && cgP K q))]) C (c_X4_is E σ i4 (by omega) 0 (by omega)) z_X4_is ck4 (by rfl) (by rfl) ml_X4_51 (by rfl) (Nat.le_of_ble_eq_true rfl) ⟨Nat.le_of_ble_eq_true rfl, Nat.le_of_ble_eq_true rfl⟩ dX4_counting_29 (fun r4 σ4 w4 => ?_)
          obtain ⟨u1, u2⟩ := w4; rw [u1, u2]; clear u1 u2
          refine gx_st (st' := [.int (K 1 i4), .int (bset i4 (fun q => inP K r q && cgP K q))]) (by rw [mp_1 hM (p := i4) (by omega)]) ?_
          refine gx_bipush (v := 6) C dX4_counting_32 (by decide) ?_
          refine gx_icmp_eq (tgt := 43) C dX4_counting_34 (by decide) (fun h5 => ?_) (fun h5 => ?_)
          ·
            refine gx_iconst (v := 0) C dX4_counting_43 (by decide) ?_
            refine gx_ior C dX4_counting_44 ?_
            refine gx_istore_n (lv2 := [(2, .int ((bset i4 (fun q => inP K r q && cgP K q)) ||| 0)), (0, .ref (eA E 49)), (1, .int r), (3, .int (nI i4))]) C dX4_counting_45 (by rfl) (by decide) rfl ?_
            refine gx_iinc (v := nI (i4 + 1)) (lv2 := [(3, .int (nI (i4 + 1))), (2, .int ((bset i4 (fun q => inP K r q && cgP K q)) ||| 0)), (0, .ref (eA E 49)), (1, .int r)]) C dX4_counting_46 (by rfl) (by exact nI_p1 _) (by decide) rfl ?_
            refine gx_goto (tgt := 4) C dX4_counting_49 (by decide) ?_
            refine gx_sub [2, 3, 1, 0] (lv' := [(0, .ref (eA E 49)), (1, .int r), (2, .int ((bset i4 (fun q => inP K r q && cgP K q)) ||| 0)), (3, .int (nI (i4 + 1)))]) rfl ?_
            refine gx_lv (lv' := [(0, .ref (eA E 49)), (1, .int r), (2, .int (bset (i4 + 1) (fun q => inP K r q && cgP K q))), (3, .int (nI (i4 + 1)))]) (by rw [or0, bset_f (n := i4) (P := fun q => inP K r q && cgP K q) (by omega) (by simp [inP, cgP, *])]) ?_
            exact ih4 (i4 + 1) (by omega) (by omega)
          ·
            refine gx_iconst (v := 1) C dX4_counting_37 (by decide) ?_
            refine gx_iload_n C dX4_counting_38 (by rfl) (by rfl) ?_
            refine gx_ishl C dX4_counting_39 ?_
            refine gx_goto (tgt := 44) C dX4_counting_40 (by decide) ?_
            refine gx_ior C dX4_counting_44 ?_
            refine gx_istore_n (lv2 := [(2, .int ((bset i4 (fun q => inP K r q && cgP K q)) ||| (1 <<< ((nI i4) &&& 31)))), (0, .ref (eA E 49)), (1, .int r), (3, .int (nI i4))]) C dX4_counting_45 (by rfl) (by decide) rfl ?_
            refine gx_iinc (v := nI (i4 + 1)) (lv2 := [(3, .int (nI (i4 + 1))), (2, .int ((bset i4 (fun q => inP K r q && cgP K q)) ||| (1 <<< ((nI i4) &&& 31)))), (0, .ref (eA E 49)), (1, .int r)]) C dX4_counting_46 (by rfl) (by exact nI_p1 _) (by decide) rfl ?_
            refine gx_goto (tgt := 4) C dX4_counting_49 (by decide) ?_
            refine gx_sub [2, 3, 1, 0] (lv' := [(0, .ref (eA E 49)), (1, .int r), (2, .int ((bset i4 (fun q => inP K r q && cgP K q)) ||| (1 <<< ((nI i4) &&& 31)))), (3, .int (nI (i4 + 1)))]) rfl ?_
            refine gx_lv (lv' := [(0, .ref (eA E 49)), (1, .int r), (2, .int (bset (i4 + 1) (fun q => inP K r q && cgP K q))), (3, .int (nI (i4 + 1)))]) (by rw [bset_t (n := i4) (P := fun q => inP K r q && cgP K q) (by omega) (by simp [inP, cgP, *])]) ?_
            exact ih4 (i4 + 1) (by omega) (by omega)
  refine gx_sub [2, 3, 1, 0] (lv' := [(0, .ref (eA E 49)), (1, .int r), (2, .int 0), (3, .int 0)]) rfl ?_
  refine gx_lv (lv' := [(0, .ref (eA E 49)), (1, .int r), (2, .int (bset 0 (fun q => inP K r q && cgP K q))), (3, .int (nI 0))]) (by rfl) ?_
  exact loop4 (nn K + 1) 0 (by omega) (by omega)
set_option maxHeartbeats 4000000 in
set_option maxRecDepth 100000 in
theorem c_X4_hasSeat (E : En) (σ : Mm) (K : Mm) (hM : vM σ 50 = K) (hO : Ok K) (r : Nat) (hr8 : r < 8) : CtI E yX4_hasSeat cX4_hasSeat 2 (some .boolean) 2 45 [.ref (eA E 49), .int (nI r)] σ (fun rr σ2 => σ2 = σ ∧ rr = b2 (nI (cnt (inP K (nI r)) (nn K)) < K 8 r)) := by
  obtain ⟨⟨hn, h12⟩, hpp, hlw, hsp, hz0⟩ := id hO
  refine CtI.of (by decide +kernel) (Nat.le_of_ble_eq_true rfl) (fun p e0 s m below meth c C hr hlk => ?_)
  refine gx_lv (lv' := [(0, .ref (eA E 49)), (1, .int (nI r))]) rfl ?_
  refine gx_aload_n C dX4_hasSeat_0 (by rfl) (by rfl) ?_
  refine gx_iload_n C dX4_hasSeat_1 (by rfl) (by rfl) ?_
  refine gx_callVI (As := [.int (nI r)]) (rest := []) C (c_X4_inRank E σ K hM hO (nI r)) z_X4_inRank ck4 (by rfl) (by rfl) ml_X4_55 (by rfl) (Nat.le_of_ble_eq_true rfl) ⟨Nat.le_of_ble_eq_true rfl, Nat.le_of_ble_eq_true rfl⟩ dX4_hasSeat_2 (fun r1 σ1 w1 => ?_)
  obtain ⟨u1, u2⟩ := w1; rw [u1, u2]; clear u1 u2
  refine gx_callSI (As := [.int (bset (nn K) (inP K (nI r)))]) (rest := []) C (c_X4_many E σ (nn K) (by omega) (inP K (nI r))) z_X4_many (by rfl) ml_X4_58 (by rfl) (Nat.le_of_ble_eq_true rfl) ⟨Nat.le_of_ble_eq_true rfl, Nat.le_of_ble_eq_true rfl⟩ dX4_hasSeat_5 (fun r2 σ2 w2 => ?_)
  obtain ⟨u1, u2⟩ := w2; rw [u1, u2]; clear u1 u2
  refine gx_aload_n C dX4_hasSeat_8 (by rfl) (by rfl) ?_
  refine gx_getr (j := 50) (k := 0) C ck4 (by rfl) (by rfl) (by decide) fl_X4_9 dX4_hasSeat_9 ?_
  refine gx_bipush (v := 7) C dX4_hasSeat_12 (by decide) ?_
  refine gx_iload_n C dX4_hasSeat_14 (by rfl) (by rfl) ?_
  refine gx_iadd C dX4_hasSeat_15 ?_
  refine gx_st (st' := [.int (nI (7 + r)), .ref (eA E 50), .int (nI (cnt (inP K (nI r)) (nn K)))]) (by rw [show 7 + (nI r) = nI (7 + r) from nI_add 7 r]) ?_
  refine gx_ialdN (k := (7 + r)) C (by rfl) rfl (by omega) (by decide) dX4_hasSeat_16 ?_
  refine gx_st (st' := [.int (K 8 r), .int (nI (cnt (inP K (nI r)) (nn K)))]) (by rw [mp_8 hM (p := r) (by omega)]) ?_
  refine gx_icmp_ge (tgt := 24) C dX4_hasSeat_17 (by decide) (fun h3 => ?_) (fun h3 => ?_)
  ·
    refine gx_iconst (v := 0) C dX4_hasSeat_24 (by decide) ?_
    exact gx_iret C hr hlk (by first | rfl | exact nb_b2 _) ⟨rfl, by first | exact b2_t (by grind) | exact b2_f (by grind)⟩ dX4_hasSeat_25
  ·
    refine gx_iconst (v := 1) C dX4_hasSeat_20 (by decide) ?_
    refine gx_goto (tgt := 25) C dX4_hasSeat_21 (by decide) ?_
    exact gx_iret C hr hlk (by first | rfl | exact nb_b2 _) ⟨rfl, by first | exact b2_t (by grind) | exact b2_f (by grind)⟩ dX4_hasSeat_25
set_option maxHeartbeats 4000000 in
set_option maxRecDepth 100000 in
theorem c_X4_goldOf (E : En) (σ : Mm) (K : Mm) (hM : vM σ 50 = K) (hO : Ok K) (P : Nat → Bool) : CtI E yX4_goldOf cX4_goldOf 4 (some .int) 1 22 [.ref (eA E 49), .int (bset (nn K) P)] σ (fun rr σ2 => σ2 = σ ∧ rr = sm (K 5) P (nn K)) := by
  obtain ⟨⟨hn, h12⟩, hpp, hlw, hsp, hz0⟩ := id hO
  refine CtI.of (by decide +kernel) (Nat.le_of_ble_eq_true rfl) (fun p e0 s m below meth c C hr hlk => ?_)
  refine gx_lv (lv' := [(0, .ref (eA E 49)), (1, .int (bset (nn K) P))]) rfl ?_
  refine gx_iconst (v := 0) C dX4_goldOf_0 (by decide) ?_
  refine gx_istore_n (lv2 := [(2, .int 0), (0, .ref (eA E 49)), (1, .int (bset (nn K) P))]) C dX4_goldOf_1 (by rfl) (by decide) rfl ?_
  refine gx_iconst (v := 0) C dX4_goldOf_2 (by decide) ?_
  refine gx_istore_n (lv2 := [(3, .int 0), (2, .int 0), (0, .ref (eA E 49)), (1, .int (bset (nn K) P))]) C dX4_goldOf_3 (by rfl) (by decide) rfl ?_
  have loop4 : ∀ (kf i4 : Nat), i4 ≤ nn K → nn K < i4 + kf → Gx E p e0 (rmF 1 22) s m ([.ref (eA E 49), .int (bset (nn K) P)] : List Value).toArray below meth c (MQ below (va_Qi (fun rr σ2 => σ2 = σ ∧ rr = sm (K 5) P (nn K)) (WQ E) (AA E s.heap.size)) ([.ref (eA E 49), .int (bset (nn K) P)] : List Value).toArray s 0 0 (AA E s.heap.size)) 4 4 [(0, .ref (eA E 49)), (1, .int (bset (nn K) P)), (2, .int (sm (K 5) P i4)), (3, .int (nI i4))] [] σ := by
    intro kf
    induction kf with
    | zero => intro i4 q1 q2; exact absurd q2 (by omega)
    | succ kf ih4 =>
      intro i4 a4 b4
      refine gx_iload_n C dX4_goldOf_4 (by rfl) (by rfl) ?_
      refine gx_aload_n C dX4_goldOf_5 (by rfl) (by rfl) ?_
      refine gx_getr (j := 50) (k := 0) C ck4 (by rfl) (by rfl) (by decide) fl_X4_9 dX4_goldOf_6 ?_
      refine gx_bipush (v := 6) C dX4_goldOf_9 (by decide) ?_
      refine gx_ialdN (k := 6) C (by rfl) (by rfl) (by decide) (by decide) dX4_goldOf_11 ?_
      refine gx_st (st' := [.int (nI (nn K)), .int (nI i4)]) (by rw [mp_n hM, hn]) ?_
      refine gx_icmp_ge (tgt := 42) C dX4_goldOf_12 (by decide) (fun h1 => ?_) (fun h1 => ?_)
      ·
        have h1 := (nI_leI (a := (nn K)) (b := i4) (by omega) (by omega)).mp h1
        refine gx_iload_n C dX4_goldOf_42 (by rfl) (by rfl) ?_
        exact gx_iret C hr hlk rfl ⟨rfl, by rw [show i4 = nn K by omega]⟩ dX4_goldOf_43
      ·
        have h1 := (not_congr (nI_leI (a := (nn K)) (b := i4) (by omega) (by omega))).mp h1
        refine gx_iload_n C dX4_goldOf_15 (by rfl) (by rfl) ?_
        refine gx_iload_n C dX4_goldOf_16 (by rfl) (by rfl) ?_
        refine gx_iload_n C dX4_goldOf_17 (by rfl) (by rfl) ?_
        refine gx_callSI (As := [.int (bset (nn K) P), .int (nI i4)]) (rest := [.int (sm (K 5) P i4)]) C (c_X4_has E σ (nn K) (by omega) P i4 (by omega)) z_X4_has (by rfl) ml_X4_71 (by rfl) (Nat.le_of_ble_eq_true rfl) ⟨Nat.le_of_ble_eq_true rfl, Nat.le_of_ble_eq_true rfl⟩ dX4_goldOf_18 (fun r2 σ2 w2 => ?_)
        obtain ⟨u1, u2⟩ := w2; rw [u1, u2]; clear u1 u2
        refine gx_if_eq (tgt := 33) C dX4_goldOf_21 (by decide) (fun h3 => ?_) (fun h3 => ?_)
        ·
          have h3 := b2_z.mp h3
          refine gx_iconst (v := 0) C dX4_goldOf_33 (by decide) ?_
          refine gx_iadd C dX4_goldOf_34 ?_
          refine gx_istore_n (lv2 := [(2, .int ((sm (K 5) P i4) + 0)), (0, .ref (eA E 49)), (1, .int (bset (nn K) P)), (3, .int (nI i4))]) C dX4_goldOf_35 (by rfl) (by decide) rfl ?_
          refine gx_iinc (v := nI (i4 + 1)) (lv2 := [(3, .int (nI (i4 + 1))), (2, .int ((sm (K 5) P i4) + 0)), (0, .ref (eA E 49)), (1, .int (bset (nn K) P))]) C dX4_goldOf_36 (by rfl) (by exact nI_p1 _) (by decide) rfl ?_
          refine gx_goto (tgt := 4) C dX4_goldOf_39 (by decide) ?_
          refine gx_sub [2, 3, 1, 0] (lv' := [(0, .ref (eA E 49)), (1, .int (bset (nn K) P)), (2, .int ((sm (K 5) P i4) + 0)), (3, .int (nI (i4 + 1)))]) rfl ?_
          refine gx_lv (lv' := [(0, .ref (eA E 49)), (1, .int (bset (nn K) P)), (2, .int (sm (K 5) P (i4 + 1))), (3, .int (nI (i4 + 1)))]) (by rw [add0, sm_f (row := K 5) (P := P) (n := i4) (by first | assumption | simpa using ‹¬ P i4 = true›)]) ?_
          exact ih4 (i4 + 1) (by omega) (by omega)
        ·
          have h3 := b2_nz.mp h3
          refine gx_aload_n C dX4_goldOf_24 (by rfl) (by rfl) ?_
          refine gx_iload_n C dX4_goldOf_25 (by rfl) (by rfl) ?_
          refine gx_iconst (v := 4) C dX4_goldOf_26 (by decide) ?_
          refine gx_callVI (As := [.int (nI i4), .int 4]) (rest := [.int (sm (K 5) P i4)]) C (c_X4_is E σ i4 (by omega) 4 (by omega)) z_X4_is ck4 (by rfl) (by rfl) ml_X4_51 (by rfl) (Nat.le_of_ble_eq_true rfl) ⟨Nat.le_of_ble_eq_true rfl, Nat.le_of_ble_eq_true rfl⟩ dX4_goldOf_27 (fun r4 σ4 w4 => ?_)
          obtain ⟨u1, u2⟩ := w4; rw [u1, u2]; clear u1 u2
          refine gx_st (st' := [.int (K 5 i4), .int (sm (K 5) P i4)]) (by rw [mp_5 hM (p := i4) (by omega)]) ?_
          refine gx_goto (tgt := 34) C dX4_goldOf_30 (by decide) ?_
          refine gx_iadd C dX4_goldOf_34 ?_
          refine gx_istore_n (lv2 := [(2, .int ((sm (K 5) P i4) + (K 5 i4))), (0, .ref (eA E 49)), (1, .int (bset (nn K) P)), (3, .int (nI i4))]) C dX4_goldOf_35 (by rfl) (by decide) rfl ?_
          refine gx_iinc (v := nI (i4 + 1)) (lv2 := [(3, .int (nI (i4 + 1))), (2, .int ((sm (K 5) P i4) + (K 5 i4))), (0, .ref (eA E 49)), (1, .int (bset (nn K) P))]) C dX4_goldOf_36 (by rfl) (by exact nI_p1 _) (by decide) rfl ?_
          refine gx_goto (tgt := 4) C dX4_goldOf_39 (by decide) ?_
          refine gx_sub [2, 3, 1, 0] (lv' := [(0, .ref (eA E 49)), (1, .int (bset (nn K) P)), (2, .int ((sm (K 5) P i4) + (K 5 i4))), (3, .int (nI (i4 + 1)))]) rfl ?_
          refine gx_lv (lv' := [(0, .ref (eA E 49)), (1, .int (bset (nn K) P)), (2, .int (sm (K 5) P (i4 + 1))), (3, .int (nI (i4 + 1)))]) (by rw [sm_t (row := K 5) (P := P) (n := i4) (by assumption)]) ?_
          exact ih4 (i4 + 1) (by omega) (by omega)
  refine gx_sub [2, 3, 1, 0] (lv' := [(0, .ref (eA E 49)), (1, .int (bset (nn K) P)), (2, .int 0), (3, .int 0)]) rfl ?_
  refine gx_lv (lv' := [(0, .ref (eA E 49)), (1, .int (bset (nn K) P)), (2, .int (sm (K 5) P 0)), (3, .int (nI 0))]) (by rfl) ?_
  exact loop4 (nn K + 1) 0 (by omega) (by omega)
set_option maxHeartbeats 4000000 in
set_option maxRecDepth 100000 in
theorem c_X4_everybody (E : En) (σ : Mm) (K : Mm) (hM : vM σ 50 = K) (hO : Ok K) : CtI E yX4_everybody cX4_everybody 1 (some .int) 0 0 [.ref (eA E 49)] σ (fun rr σ2 => σ2 = σ ∧ rr = bset (nn K) (fun _ => true)) := by
  obtain ⟨⟨hn, h12⟩, hpp, hlw, hsp, hz0⟩ := id hO
  refine CtI.of (by decide +kernel) (Nat.le_of_ble_eq_true rfl) (fun p e0 s m below meth c C hr hlk => ?_)
  refine gx_lv (lv' := [(0, .ref (eA E 49))]) rfl ?_
  refine gx_iconst (v := 1) C dX4_everybody_0 (by decide) ?_
  refine gx_aload_n C dX4_everybody_1 (by rfl) (by rfl) ?_
  refine gx_getr (j := 50) (k := 0) C ck4 (by rfl) (by rfl) (by decide) fl_X4_9 dX4_everybody_2 ?_
  refine gx_bipush (v := 6) C dX4_everybody_5 (by decide) ?_
  refine gx_ialdN (k := 6) C (by rfl) (by rfl) (by decide) (by decide) dX4_everybody_7 ?_
  refine gx_st (st' := [.int (nI (nn K)), .int 1]) (by rw [mp_n hM, hn]) ?_
  refine gx_ishl C dX4_everybody_8 ?_
  refine gx_iconst (v := 1) C dX4_everybody_9 (by decide) ?_
  refine gx_isub C dX4_everybody_10 ?_
  exact gx_iret C hr hlk rfl ⟨rfl, all_bs _ h12⟩ dX4_everybody_11
set_option maxHeartbeats 4000000 in
set_option maxRecDepth 100000 in
theorem c_X4_finds (E : En) (σ : Mm) (f : Int32) (k : Nat) (hk : k < 7) (hf : (-1000001) - f = nI k) : CtI E yX4_finds cX4_finds 2 (some .int) 0 0 [.ref (eA E 49), .int f] σ (fun rr σ2 => σ2 = up2 σ 54 k (σ 54 k + 1) ∧ rr = f) := by
  refine CtI.of (by decide +kernel) (Nat.le_of_ble_eq_true rfl) (fun p e0 s m below meth c C hr hlk => ?_)
  refine gx_lv (lv' := [(0, .ref (eA E 49)), (1, .int f)]) rfl ?_
  refine gx_aload_n C dX4_finds_0 (by rfl) (by rfl) ?_
  refine gx_getr (j := 54) (k := 5) C ck4 (by rfl) (by rfl) (by decide) fl_X4_22 dX4_finds_1 ?_
  refine gx_ldc C kc_X4_37 dX4_finds_4 ?_
  refine gx_iload_n C dX4_finds_6 (by rfl) (by rfl) ?_
  refine gx_isub C dX4_finds_7 ?_
  refine gx_st (st' := [.int (nI k), .ref (eA E 54)]) (by rw [hf]) ?_
  refine gx_dup2 C (by rfl) (by rfl) dX4_finds_8 ?_
  refine gx_ialdN (k := k) C (by rfl) rfl (by omega) (by decide) dX4_finds_9 ?_
  refine gx_iconst (v := 1) C dX4_finds_10 (by decide) ?_
  refine gx_iadd C dX4_finds_11 ?_
  refine gx_iastN (k := k) C (by rfl) rfl (by omega) (by decide) dX4_finds_12 ?_
  refine gx_iload_n C dX4_finds_13 (by rfl) (by rfl) ?_
  exact gx_iret C hr hlk rfl ⟨rfl, rfl⟩ dX4_finds_14
set_option maxHeartbeats 4000000 in
set_option maxRecDepth 100000 in
theorem c_X4_mayBear (E : En) (σ : Mm) (K : Mm) (hM : vM σ 50 = K) (hO : Ok K) (t q : Int32) : CtI E yX4_mayBear cX4_mayBear 3 (some .boolean) 2 46 [.ref (eA E 49), .int t, .int q] σ (fun rr σ2 => σ2 = σ ∧ rr = b2 (q = -1 ∨ ((0 ≤ q ∧ q < K 0 0) ∧ ¬ q = t))) := by
  obtain ⟨⟨hn, h12⟩, hpp, hlw, hsp, hz0⟩ := id hO
  refine CtI.of (by decide +kernel) (Nat.le_of_ble_eq_true rfl) (fun p e0 s m below meth c C hr hlk => ?_)
  refine gx_lv (lv' := [(0, .ref (eA E 49)), (1, .int t), (2, .int q)]) rfl ?_
  refine gx_iload_n C dX4_mayBear_0 (by rfl) (by rfl) ?_
  refine gx_iconst (v := (-1)) C dX4_mayBear_1 (by decide) ?_
  refine gx_icmp_eq (tgt := 18) C dX4_mayBear_2 (by decide) (fun h1 => ?_) (fun h1 => ?_)
  ·
    refine gx_iconst (v := 1) C dX4_mayBear_18 (by decide) ?_
    refine gx_goto (tgt := 23) C dX4_mayBear_19 (by decide) ?_
    exact gx_iret C hr hlk (by first | rfl | exact nb_b2 _) ⟨rfl, by first | exact b2_t (by grind) | exact b2_f (by grind)⟩ dX4_mayBear_23
  ·
    refine gx_aload_n C dX4_mayBear_5 (by rfl) (by rfl) ?_
    refine gx_iload_n C dX4_mayBear_6 (by rfl) (by rfl) ?_
    refine gx_callVI (As := [.int q]) (rest := []) C (c_X4_isPerson E σ K hM hO q) z_X4_isPerson ck4 (by rfl) (by rfl) ml_X4_101 (by rfl) (Nat.le_of_ble_eq_true rfl) ⟨Nat.le_of_ble_eq_true rfl, Nat.le_of_ble_eq_true rfl⟩ dX4_mayBear_7 (fun r2 σ2 w2 => ?_)
    obtain ⟨u1, u2⟩ := w2; rw [u1, u2]; clear u1 u2
    refine gx_if_eq (tgt := 22) C dX4_mayBear_10 (by decide) (fun h3 => ?_) (fun h3 => ?_)
    ·
      have h3 := b2_z.mp h3
      refine gx_iconst (v := 0) C dX4_mayBear_22 (by decide) ?_
      exact gx_iret C hr hlk (by first | rfl | exact nb_b2 _) ⟨rfl, by first | exact b2_t (by grind) | exact b2_f (by grind)⟩ dX4_mayBear_23
    ·
      have h3 := b2_nz.mp h3
      refine gx_iload_n C dX4_mayBear_13 (by rfl) (by rfl) ?_
      refine gx_iload_n C dX4_mayBear_14 (by rfl) (by rfl) ?_
      refine gx_icmp_eq (tgt := 22) C dX4_mayBear_15 (by decide) (fun h4 => ?_) (fun h4 => ?_)
      ·
        refine gx_iconst (v := 0) C dX4_mayBear_22 (by decide) ?_
        exact gx_iret C hr hlk (by first | rfl | exact nb_b2 _) ⟨rfl, by first | exact b2_t (by grind) | exact b2_f (by grind)⟩ dX4_mayBear_23
      ·
        refine gx_iconst (v := 1) C dX4_mayBear_18 (by decide) ?_
        refine gx_goto (tgt := 23) C dX4_mayBear_19 (by decide) ?_
        exact gx_iret C hr hlk (by first | rfl | exact nb_b2 _) ⟨rfl, by first | exact b2_t (by grind) | exact b2_f (by grind)⟩ dX4_mayBear_23
set_option maxHeartbeats 4000000 in
set_option maxRecDepth 100000 in
theorem c_X4_bears (E : En) (σ : Mm) (K : Mm) (hM : vM σ 50 = K) (hO : Ok K) (t : Nat) (ht : t < 12) (q : Int32) : CtI E yX4_bears cX4_bears 3 (some .int) 1 23 [.ref (eA E 49), .int (nI t), .int q] σ (fun rr σ2 => rr = K 6 t ∧ vM σ2 50 = up2 (up2 K 7 t 0) 6 t q ∧ F1 50 σ σ2) := by
  obtain ⟨⟨hn, h12⟩, hpp, hlw, hsp, hz0⟩ := id hO
  refine CtI.of (by decide +kernel) (Nat.le_of_ble_eq_true rfl) (fun p e0 s m below meth c C hr hlk => ?_)
  refine gx_lv (lv' := [(0, .ref (eA E 49)), (1, .int (nI t)), (2, .int q)]) rfl ?_
  refine gx_aload_n C dX4_bears_0 (by rfl) (by rfl) ?_
  refine gx_iload_n C dX4_bears_1 (by rfl) (by rfl) ?_
  refine gx_bipush (v := 6) C dX4_bears_2 (by decide) ?_
  refine gx_iconst (v := 0) C dX4_bears_4 (by decide) ?_
  refine gx_callVV (As := [.int (nI t), .int 6, .int 0]) (rest := []) C (c_X4_makes E σ t (by omega) 6 (by omega) 0) z_X4_makes ck4 (by rfl) (by rfl) ml_X4_87 (by rfl) (Nat.le_of_ble_eq_true rfl) ⟨Nat.le_of_ble_eq_true rfl, Nat.le_of_ble_eq_true rfl⟩ dX4_bears_5 (fun σ2 w2 => ?_)
  rw [w2]; clear w2
  have hM1 : vM (up2 σ 50 (15 + 7 * t + 6) 0) 50 = up2 K 7 t 0 := by rw [vM_mk (by omega) (by omega), hM]
  refine gx_aload_n C dX4_bears_8 (by rfl) (by rfl) ?_
  refine gx_bipush (v := 15) C dX4_bears_9 (by decide) ?_
  refine gx_bipush (v := 7) C dX4_bears_11 (by decide) ?_
  refine gx_iload_n C dX4_bears_13 (by rfl) (by rfl) ?_
  refine gx_imul C dX4_bears_14 ?_
  refine gx_st (st' := [.int (nI (7 * t)), .int 15, .ref (eA E 49)]) (by rw [show 7 * (nI t) = nI (7 * t) from pk_mul 7 t]) ?_
  refine gx_iadd C dX4_bears_15 ?_
  refine gx_st (st' := [.int (nI (15 + 7 * t)), .ref (eA E 49)]) (by rw [show 15 + (nI (7 * t)) = nI (15 + 7 * t) from nI_add 15 (7 * t)]) ?_
  refine gx_iconst (v := 5) C dX4_bears_16 (by decide) ?_
  refine gx_iadd C dX4_bears_17 ?_
  refine gx_st (st' := [.int (nI (15 + 7 * t + 5)), .ref (eA E 49)]) (by rw [show (nI (15 + 7 * t)) + 5 = nI (15 + 7 * t + 5) from nI_add (15 + 7 * t) 5]) ?_
  refine gx_iload_n C dX4_bears_18 (by rfl) (by rfl) ?_
  refine gx_callVI (As := [.int (nI (15 + 7 * t + 5)), .int q]) (rest := []) C (c_X4_becomes E (up2 σ 50 (15 + 7 * t + 6) 0) (15 + 7 * t + 5) (by omega) q) z_X4_becomes ck4 (by rfl) (by rfl) ml_X4_68 (by rfl) (Nat.le_of_ble_eq_true rfl) ⟨Nat.le_of_ble_eq_true rfl, Nat.le_of_ble_eq_true rfl⟩ dX4_bears_19 (fun r4 σ4 w4 => ?_)
  obtain ⟨u1, u2⟩ := w4; rw [u1, u2]; clear u1 u2
  refine gx_st (st' := [.int ((up2 K 7 t 0) (6) t)]) (by rw [mp_6 hM1 (p := t) (by omega)]) ?_
  have hM3 : vM (up2 (up2 σ 50 (15 + 7 * t + 6) 0) 50 (15 + 7 * t + 5) q) 50 = up2 (up2 K 7 t 0) (6) t q := by rw [vM_mk (by omega) (by omega), hM1]
  exact gx_iret C hr hlk rfl ⟨rfl, hM3, F1.rf.up.up⟩ dX4_bears_22
set_option maxHeartbeats 4000000 in
set_option maxRecDepth 100000 in
theorem c_X4_canGive (E : En) (σ : Mm) (K : Mm) (hM : vM σ 50 = K) (hO : Ok K) (t : Nat) (ht : t < 12) (g : Nat) (hg : g < 12) (eg : K 6 t = nI g) (v : Int32) : CtI E yX4_canGive cX4_canGive 3 (some .boolean) 1 22 [.ref (eA E 49), .int (nI t), .int v] σ (fun rr σ2 => σ2 = σ ∧ rr = b2 (v ≤ K 5 g ∧ K 5 t + v ≤ 9999)) := by
  obtain ⟨⟨hn, h12⟩, hpp, hlw, hsp, hz0⟩ := id hO
  refine CtI.of (by decide +kernel) (Nat.le_of_ble_eq_true rfl) (fun p e0 s m below meth c C hr hlk => ?_)
  refine gx_lv (lv' := [(0, .ref (eA E 49)), (1, .int (nI t)), (2, .int v)]) rfl ?_
  refine gx_aload_n C dX4_canGive_0 (by rfl) (by rfl) ?_
  refine gx_aload_n C dX4_canGive_1 (by rfl) (by rfl) ?_
  refine gx_iload_n C dX4_canGive_2 (by rfl) (by rfl) ?_
  refine gx_iconst (v := 5) C dX4_canGive_3 (by decide) ?_
  refine gx_callVI (As := [.int (nI t), .int 5]) (rest := [.ref (eA E 49)]) C (c_X4_is E σ t (by omega) 5 (by omega)) z_X4_is ck4 (by rfl) (by rfl) ml_X4_51 (by rfl) (Nat.le_of_ble_eq_true rfl) ⟨Nat.le_of_ble_eq_true rfl, Nat.le_of_ble_eq_true rfl⟩ dX4_canGive_4 (fun r1 σ1 w1 => ?_)
  obtain ⟨u1, u2⟩ := w1; rw [u1, u2]; clear u1 u2
  refine gx_st (st' := [.int (K 6 t), .ref (eA E 49)]) (by rw [mp_6 hM (p := t) (by omega)]) ?_
  refine gx_st (st' := [.int (nI g), .ref (eA E 49)]) (by rw [eg]) ?_
  refine gx_iconst (v := 4) C dX4_canGive_7 (by decide) ?_
  refine gx_callVI (As := [.int (nI g), .int 4]) (rest := []) C (c_X4_is E σ g (by omega) 4 (by omega)) z_X4_is ck4 (by rfl) (by rfl) ml_X4_51 (by rfl) (Nat.le_of_ble_eq_true rfl) ⟨Nat.le_of_ble_eq_true rfl, Nat.le_of_ble_eq_true rfl⟩ dX4_canGive_8 (fun r2 σ2 w2 => ?_)
  obtain ⟨u1, u2⟩ := w2; rw [u1, u2]; clear u1 u2
  refine gx_st (st' := [.int (K 5 g)]) (by rw [mp_5 hM (p := g) (by omega)]) ?_
  refine gx_iload_n C dX4_canGive_11 (by rfl) (by rfl) ?_
  refine gx_icmp_lt (tgt := 33) C dX4_canGive_12 (by decide) (fun h3 => ?_) (fun h3 => ?_)
  ·
    refine gx_iconst (v := 0) C dX4_canGive_33 (by decide) ?_
    exact gx_iret C hr hlk (by first | rfl | exact nb_b2 _) ⟨rfl, by first | exact b2_t (by grind) | exact b2_f (by grind)⟩ dX4_canGive_34
  ·
    refine gx_aload_n C dX4_canGive_15 (by rfl) (by rfl) ?_
    refine gx_iload_n C dX4_canGive_16 (by rfl) (by rfl) ?_
    refine gx_iconst (v := 4) C dX4_canGive_17 (by decide) ?_
    refine gx_callVI (As := [.int (nI t), .int 4]) (rest := []) C (c_X4_is E σ t (by omega) 4 (by omega)) z_X4_is ck4 (by rfl) (by rfl) ml_X4_51 (by rfl) (Nat.le_of_ble_eq_true rfl) ⟨Nat.le_of_ble_eq_true rfl, Nat.le_of_ble_eq_true rfl⟩ dX4_canGive_18 (fun r4 σ4 w4 => ?_)
    obtain ⟨u1, u2⟩ := w4; rw [u1, u2]; clear u1 u2
    refine gx_st (st' := [.int (K 5 t)]) (by rw [mp_5 hM (p := t) (by omega)]) ?_
    refine gx_iload_n C dX4_canGive_21 (by rfl) (by rfl) ?_
    refine gx_iadd C dX4_canGive_22 ?_
    refine gx_sipush (v := 9999) C dX4_canGive_23 (by decide) ?_
    refine gx_icmp_gt (tgt := 33) C dX4_canGive_26 (by decide) (fun h5 => ?_) (fun h5 => ?_)
    ·
      refine gx_iconst (v := 0) C dX4_canGive_33 (by decide) ?_
      exact gx_iret C hr hlk (by first | rfl | exact nb_b2 _) ⟨rfl, by first | exact b2_t (by grind) | exact b2_f (by grind)⟩ dX4_canGive_34
    ·
      refine gx_iconst (v := 1) C dX4_canGive_29 (by decide) ?_
      refine gx_goto (tgt := 34) C dX4_canGive_30 (by decide) ?_
      exact gx_iret C hr hlk (by first | rfl | exact nb_b2 _) ⟨rfl, by first | exact b2_t (by grind) | exact b2_f (by grind)⟩ dX4_canGive_34
set_option maxHeartbeats 4000000 in
set_option maxRecDepth 100000 in
theorem c_X4_gives (E : En) (σ : Mm) (K : Mm) (hM : vM σ 50 = K) (hO : Ok K) (t : Nat) (ht : t < 12) (g : Nat) (hg : g < 12) (eg : K 6 t = nI g) (v : Int32) : CtV E yX4_gives cX4_gives 4 none 1 23 [.ref (eA E 49), .int (nI t), .int v] σ (fun σ2 => vM σ2 50 = tkK K t g v ∧ F1 50 σ σ2) := by
  obtain ⟨⟨hn, h12⟩, hpp, hlw, hsp, hz0⟩ := id hO
  refine CtV.of (by decide +kernel) (Nat.le_of_ble_eq_true rfl) (fun p e0 s m below meth c C hr hlk => ?_)
  refine gx_lv (lv' := [(0, .ref (eA E 49)), (1, .int (nI t)), (2, .int v)]) rfl ?_
  refine gx_aload_n C dX4_gives_0 (by rfl) (by rfl) ?_
  refine gx_iload_n C dX4_gives_1 (by rfl) (by rfl) ?_
  refine gx_iconst (v := 5) C dX4_gives_2 (by decide) ?_
  refine gx_callVI (As := [.int (nI t), .int 5]) (rest := []) C (c_X4_is E σ t (by omega) 5 (by omega)) z_X4_is ck4 (by rfl) (by rfl) ml_X4_51 (by rfl) (Nat.le_of_ble_eq_true rfl) ⟨Nat.le_of_ble_eq_true rfl, Nat.le_of_ble_eq_true rfl⟩ dX4_gives_3 (fun r1 σ1 w1 => ?_)
  obtain ⟨u1, u2⟩ := w1; rw [u1, u2]; clear u1 u2
  refine gx_st (st' := [.int (K 6 t)]) (by rw [mp_6 hM (p := t) (by omega)]) ?_
  refine gx_st (st' := [.int (nI g)]) (by rw [eg]) ?_
  refine gx_istore_n (lv2 := [(3, .int (nI g)), (0, .ref (eA E 49)), (1, .int (nI t)), (2, .int v)]) C dX4_gives_6 (by rfl) (by decide) rfl ?_
  refine gx_aload_n C dX4_gives_7 (by rfl) (by rfl) ?_
  refine gx_iload_n C dX4_gives_8 (by rfl) (by rfl) ?_
  refine gx_iconst (v := 4) C dX4_gives_9 (by decide) ?_
  refine gx_aload_n C dX4_gives_10 (by rfl) (by rfl) ?_
  refine gx_iload_n C dX4_gives_11 (by rfl) (by rfl) ?_
  refine gx_iconst (v := 4) C dX4_gives_12 (by decide) ?_
  refine gx_callVI (As := [.int (nI g), .int 4]) (rest := [.int 4, .int (nI g), .ref (eA E 49)]) C (c_X4_is E σ g (by omega) 4 (by omega)) z_X4_is ck4 (by rfl) (by rfl) ml_X4_51 (by rfl) (Nat.le_of_ble_eq_true rfl) ⟨Nat.le_of_ble_eq_true rfl, Nat.le_of_ble_eq_true rfl⟩ dX4_gives_13 (fun r2 σ2 w2 => ?_)
  obtain ⟨u1, u2⟩ := w2; rw [u1, u2]; clear u1 u2
  refine gx_st (st' := [.int (K 5 g), .int 4, .int (nI g), .ref (eA E 49)]) (by rw [mp_5 hM (p := g) (by omega)]) ?_
  refine gx_iload_n C dX4_gives_16 (by rfl) (by rfl) ?_
  refine gx_isub C dX4_gives_17 ?_
  refine gx_callVV (As := [.int (nI g), .int 4, .int ((K 5 g) - v)]) (rest := []) C (c_X4_makes E σ g (by omega) 4 (by omega) ((K 5 g) - v)) z_X4_makes ck4 (by rfl) (by rfl) ml_X4_87 (by rfl) (Nat.le_of_ble_eq_true rfl) ⟨Nat.le_of_ble_eq_true rfl, Nat.le_of_ble_eq_true rfl⟩ dX4_gives_18 (fun σ4 w4 => ?_)
  rw [w4]; clear w4
  have hM3 : vM (up2 σ 50 (15 + 7 * g + 4) ((K 5 g) - v)) 50 = up2 K 5 g ((K 5 g) - v) := by rw [vM_mk (by omega) (by omega), hM]
  refine gx_aload_n C dX4_gives_21 (by rfl) (by rfl) ?_
  refine gx_iload_n C dX4_gives_22 (by rfl) (by rfl) ?_
  refine gx_iconst (v := 4) C dX4_gives_23 (by decide) ?_
  refine gx_aload_n C dX4_gives_24 (by rfl) (by rfl) ?_
  refine gx_iload_n C dX4_gives_25 (by rfl) (by rfl) ?_
  refine gx_iconst (v := 4) C dX4_gives_26 (by decide) ?_
  refine gx_callVI (As := [.int (nI t), .int 4]) (rest := [.int 4, .int (nI t), .ref (eA E 49)]) C (c_X4_is E (up2 σ 50 (15 + 7 * g + 4) ((K 5 g) - v)) t (by omega) 4 (by omega)) z_X4_is ck4 (by rfl) (by rfl) ml_X4_51 (by rfl) (Nat.le_of_ble_eq_true rfl) ⟨Nat.le_of_ble_eq_true rfl, Nat.le_of_ble_eq_true rfl⟩ dX4_gives_27 (fun r5 σ5 w5 => ?_)
  obtain ⟨u1, u2⟩ := w5; rw [u1, u2]; clear u1 u2
  refine gx_st (st' := [.int ((up2 K 5 g ((K 5 g) - v)) 5 t), .int 4, .int (nI t), .ref (eA E 49)]) (by rw [mp_5 hM3 (p := t) (by omega)]) ?_
  refine gx_iload_n C dX4_gives_30 (by rfl) (by rfl) ?_
  refine gx_iadd C dX4_gives_31 ?_
  refine gx_callVV (As := [.int (nI t), .int 4, .int (((up2 K 5 g ((K 5 g) - v)) 5 t) + v)]) (rest := []) C (c_X4_makes E (up2 σ 50 (15 + 7 * g + 4) ((K 5 g) - v)) t (by omega) 4 (by omega) (((up2 K 5 g ((K 5 g) - v)) 5 t) + v)) z_X4_makes ck4 (by rfl) (by rfl) ml_X4_87 (by rfl) (Nat.le_of_ble_eq_true rfl) ⟨Nat.le_of_ble_eq_true rfl, Nat.le_of_ble_eq_true rfl⟩ dX4_gives_32 (fun σ7 w7 => ?_)
  rw [w7]; clear w7
  have hM6 : vM (up2 (up2 σ 50 (15 + 7 * g + 4) ((K 5 g) - v)) 50 (15 + 7 * t + 4) (((up2 K 5 g ((K 5 g) - v)) 5 t) + v)) 50 = up2 (up2 K 5 g ((K 5 g) - v)) 5 t (((up2 K 5 g ((K 5 g) - v)) 5 t) + v) := by rw [vM_mk (by omega) (by omega), hM3]
  refine gx_aload_n C dX4_gives_35 (by rfl) (by rfl) ?_
  refine gx_iload_n C dX4_gives_36 (by rfl) (by rfl) ?_
  refine gx_bipush (v := 6) C dX4_gives_37 (by decide) ?_
  refine gx_aload_n C dX4_gives_39 (by rfl) (by rfl) ?_
  refine gx_iload_n C dX4_gives_40 (by rfl) (by rfl) ?_
  refine gx_bipush (v := 6) C dX4_gives_41 (by decide) ?_
  refine gx_callVI (As := [.int (nI t), .int 6]) (rest := [.int 6, .int (nI t), .ref (eA E 49)]) C (c_X4_is E (up2 (up2 σ 50 (15 + 7 * g + 4) ((K 5 g) - v)) 50 (15 + 7 * t + 4) (((up2 K 5 g ((K 5 g) - v)) 5 t) + v)) t (by omega) 6 (by omega)) z_X4_is ck4 (by rfl) (by rfl) ml_X4_51 (by rfl) (Nat.le_of_ble_eq_true rfl) ⟨Nat.le_of_ble_eq_true rfl, Nat.le_of_ble_eq_true rfl⟩ dX4_gives_43 (fun r8 σ8 w8 => ?_)
  obtain ⟨u1, u2⟩ := w8; rw [u1, u2]; clear u1 u2
  refine gx_st (st' := [.int ((up2 (up2 K 5 g ((K 5 g) - v)) 5 t (((up2 K 5 g ((K 5 g) - v)) 5 t) + v)) 7 t), .int 6, .int (nI t), .ref (eA E 49)]) (by rw [mp_7 hM6 (p := t) (by omega)]) ?_
  refine gx_iload_n C dX4_gives_46 (by rfl) (by rfl) ?_
  refine gx_iadd C dX4_gives_47 ?_
  refine gx_callVV (As := [.int (nI t), .int 6, .int (((up2 (up2 K 5 g ((K 5 g) - v)) 5 t (((up2 K 5 g ((K 5 g) - v)) 5 t) + v)) 7 t) + v)]) (rest := []) C (c_X4_makes E (up2 (up2 σ 50 (15 + 7 * g + 4) ((K 5 g) - v)) 50 (15 + 7 * t + 4) (((up2 K 5 g ((K 5 g) - v)) 5 t) + v)) t (by omega) 6 (by omega) (((up2 (up2 K 5 g ((K 5 g) - v)) 5 t (((up2 K 5 g ((K 5 g) - v)) 5 t) + v)) 7 t) + v)) z_X4_makes ck4 (by rfl) (by rfl) ml_X4_87 (by rfl) (Nat.le_of_ble_eq_true rfl) ⟨Nat.le_of_ble_eq_true rfl, Nat.le_of_ble_eq_true rfl⟩ dX4_gives_48 (fun σ10 w10 => ?_)
  rw [w10]; clear w10
  have hM9 : vM (up2 (up2 (up2 σ 50 (15 + 7 * g + 4) ((K 5 g) - v)) 50 (15 + 7 * t + 4) (((up2 K 5 g ((K 5 g) - v)) 5 t) + v)) 50 (15 + 7 * t + 6) (((up2 (up2 K 5 g ((K 5 g) - v)) 5 t (((up2 K 5 g ((K 5 g) - v)) 5 t) + v)) 7 t) + v)) 50 = up2 (up2 (up2 K 5 g ((K 5 g) - v)) 5 t (((up2 K 5 g ((K 5 g) - v)) 5 t) + v)) 7 t (((up2 (up2 K 5 g ((K 5 g) - v)) 5 t (((up2 K 5 g ((K 5 g) - v)) 5 t) + v)) 7 t) + v) := by rw [vM_mk (by omega) (by omega), hM6]
  exact gx_vret C hr hlk ⟨hM9, F1.rf.up.up.up⟩ dX4_gives_51
theorem mx_m1 {row : Nat → Int32} {S : Nat → Bool} {n : Nat} (hn : n ≤ 12) (h : mx row S n < 0) : mx row S n = -1 := by
  rcases mx_or row S n with h1 | ⟨b, h1, h2, h3⟩
  · exact h1
  · rw [h2] at h
    exact absurd h (nI_pos (by omega))
set_option maxHeartbeats 4000000 in
set_option maxRecDepth 100000 in
theorem c_X4_greatest (E : En) (σ : Mm) (K : Mm) (hM : vM σ 50 = K) (hO : Ok K) (P : Nat → Bool) (j : Nat) (hj : j < 7) : CtI E yX4_greatest cX4_greatest 5 (some .int) 1 22 [.ref (eA E 49), .int (bset (nn K) P), .int (nI j)] σ (fun rr σ2 => σ2 = σ ∧ rr = mx (K (j + 1)) P (nn K)) := by
  obtain ⟨⟨hn, h12⟩, hpp, hlw, hsp, hz0⟩ := id hO
  refine CtI.of (by decide +kernel) (Nat.le_of_ble_eq_true rfl) (fun p e0 s m below meth c C hr hlk => ?_)
  refine gx_lv (lv' := [(0, .ref (eA E 49)), (1, .int (bset (nn K) P)), (2, .int (nI j))]) rfl ?_
  refine gx_iconst (v := (-1)) C dX4_greatest_0 (by decide) ?_
  refine gx_istore_n (lv2 := [(3, .int (-1)), (0, .ref (eA E 49)), (1, .int (bset (nn K) P)), (2, .int (nI j))]) C dX4_greatest_1 (by rfl) (by decide) rfl ?_
  refine gx_iconst (v := 0) C dX4_greatest_2 (by decide) ?_
  refine gx_istore (lv2 := [(4, .int 0), (3, .int (-1)), (0, .ref (eA E 49)), (1, .int (bset (nn K) P)), (2, .int (nI j))]) C dX4_greatest_3 (by decide) rfl ?_
  have loop5 : ∀ (kf i5 : Nat), i5 ≤ nn K → nn K < i5 + kf → Gx E p e0 (rmF 1 22) s m ([.ref (eA E 49), .int (bset (nn K) P), .int (nI j)] : List Value).toArray below meth c (MQ below (va_Qi (fun rr σ2 => σ2 = σ ∧ rr = mx (K (j + 1)) P (nn K)) (WQ E) (AA E s.heap.size)) ([.ref (eA E 49), .int (bset (nn K) P), .int (nI j)] : List Value).toArray s 0 0 (AA E s.heap.size)) 5 5 [(0, .ref (eA E 49)), (1, .int (bset (nn K) P)), (2, .int (nI j)), (3, .int (mx (K (j + 1)) P i5)), (4, .int (nI i5))] [] σ := by
    intro kf
    induction kf with
    | zero => intro i5 q1 q2; exact absurd q2 (by omega)
    | succ kf ih5 =>
      intro i5 a5 b5
      refine gx_iload C dX4_greatest_5 (by rfl) ?_
      refine gx_aload_n C dX4_greatest_7 (by rfl) (by rfl) ?_
      refine gx_getr (j := 50) (k := 0) C ck4 (by rfl) (by rfl) (by decide) fl_X4_9 dX4_greatest_8 ?_
      refine gx_bipush (v := 6) C dX4_greatest_11 (by decide) ?_
      refine gx_ialdN (k := 6) C (by rfl) (by rfl) (by decide) (by decide) dX4_greatest_13 ?_
      refine gx_st (st' := [.int (nI (nn K)), .int (nI i5)]) (by rw [mp_n hM, hn]) ?_
      refine gx_icmp_ge (tgt := 55) C dX4_greatest_14 (by decide) (fun h1 => ?_) (fun h1 => ?_)
      ·
        have h1 := (nI_leI (a := (nn K)) (b := i5) (by omega) (by omega)).mp h1
        refine gx_iload_n C dX4_greatest_55 (by rfl) (by rfl) ?_
        exact gx_iret C hr hlk rfl ⟨rfl, by rw [show i5 = nn K by omega]⟩ dX4_greatest_56
      ·
        have h1 := (not_congr (nI_leI (a := (nn K)) (b := i5) (by omega) (by omega))).mp h1
        refine gx_iload_n C dX4_greatest_17 (by rfl) (by rfl) ?_
        refine gx_iload C dX4_greatest_18 (by rfl) ?_
        refine gx_callSI (As := [.int (bset (nn K) P), .int (nI i5)]) (rest := []) C (c_X4_has E σ (nn K) (by omega) P i5 (by omega)) z_X4_has (by rfl) ml_X4_71 (by rfl) (Nat.le_of_ble_eq_true rfl) ⟨Nat.le_of_ble_eq_true rfl, Nat.le_of_ble_eq_true rfl⟩ dX4_greatest_20 (fun r2 σ2 w2 => ?_)
        obtain ⟨u1, u2⟩ := w2; rw [u1, u2]; clear u1 u2
        refine gx_if_eq (tgt := 49) C dX4_greatest_23 (by decide) (fun h3 => ?_) (fun h3 => ?_)
        ·
          have h3 := b2_z.mp h3
          refine gx_iinc (v := nI (i5 + 1)) (lv2 := [(4, .int (nI (i5 + 1))), (0, .ref (eA E 49)), (1, .int (bset (nn K) P)), (2, .int (nI j)), (3, .int (mx (K (j + 1)) P i5))]) C dX4_greatest_49 (by rfl) (by exact nI_p1 _) (by decide) rfl ?_
          refine gx_goto (tgt := 5) C dX4_greatest_52 (by decide) ?_
          refine gx_sub [1, 2, 3, 4, 0] (lv' := [(0, .ref (eA E 49)), (1, .int (bset (nn K) P)), (2, .int (nI j)), (3, .int (mx (K (j + 1)) P i5)), (4, .int (nI (i5 + 1)))]) rfl ?_
          refine gx_lv (lv' := [(0, .ref (eA E 49)), (1, .int (bset (nn K) P)), (2, .int (nI j)), (3, .int (mx (K (j + 1)) P (i5 + 1))), (4, .int (nI (i5 + 1)))]) (by first | rw [mx_f1 (by simpa using ‹¬ P i5 = true›)] | rw [← rfl, mx_f2 rfl (by omega) (by assumption)]) ?_
          exact ih5 (i5 + 1) (by omega) (by omega)
        ·
          have h3 := b2_nz.mp h3
          refine gx_iload_n C dX4_greatest_26 (by rfl) (by rfl) ?_
          refine gx_if_lt (tgt := 46) C dX4_greatest_27 (by decide) (fun h4 => ?_) (fun h4 => ?_)
          ·
            refine gx_iload C dX4_greatest_46 (by rfl) ?_
            refine gx_istore_n (lv2 := [(3, .int (nI i5)), (0, .ref (eA E 49)), (1, .int (bset (nn K) P)), (2, .int (nI j)), (4, .int (nI i5))]) C dX4_greatest_48 (by rfl) (by decide) rfl ?_
            refine gx_iinc (v := nI (i5 + 1)) (lv2 := [(4, .int (nI (i5 + 1))), (3, .int (nI i5)), (0, .ref (eA E 49)), (1, .int (bset (nn K) P)), (2, .int (nI j))]) C dX4_greatest_49 (by rfl) (by exact nI_p1 _) (by decide) rfl ?_
            refine gx_goto (tgt := 5) C dX4_greatest_52 (by decide) ?_
            refine gx_sub [2, 3, 4, 1, 0] (lv' := [(0, .ref (eA E 49)), (1, .int (bset (nn K) P)), (2, .int (nI j)), (3, .int (nI i5)), (4, .int (nI (i5 + 1)))]) rfl ?_
            refine gx_lv (lv' := [(0, .ref (eA E 49)), (1, .int (bset (nn K) P)), (2, .int (nI j)), (3, .int (mx (K (j + 1)) P (i5 + 1))), (4, .int (nI (i5 + 1)))]) (by first | rw [mx_t1 (by assumption) (mx_m1 (by omega) (by assumption))] | rw [mx_t2 (by assumption) rfl (by omega) (by assumption)]) ?_
            exact ih5 (i5 + 1) (by omega) (by omega)
          ·
            refine gx_aload_n C dX4_greatest_30 (by rfl) (by rfl) ?_
            refine gx_iload C dX4_greatest_31 (by rfl) ?_
            refine gx_iload_n C dX4_greatest_33 (by rfl) (by rfl) ?_
            refine gx_callVI (As := [.int (nI i5), .int (nI j)]) (rest := []) C (c_X4_is E σ i5 (by omega) j (by omega)) z_X4_is ck4 (by rfl) (by rfl) ml_X4_51 (by rfl) (Nat.le_of_ble_eq_true rfl) ⟨Nat.le_of_ble_eq_true rfl, Nat.le_of_ble_eq_true rfl⟩ dX4_greatest_34 (fun r5 σ5 w5 => ?_)
            obtain ⟨u1, u2⟩ := w5; rw [u1, u2]; clear u1 u2
            refine gx_st (st' := [.int (K (j + 1) i5)]) (by rw [mp_J hM (by omega) (p := i5) (by omega)]) ?_
            obtain ⟨f6, fl6, ef6, -⟩ := (mx_or (K (j + 1)) P i5).resolve_left (fun q => absurd (by rw [q]; decide : mx (K (j + 1)) P i5 < 0) (by assumption))
            refine gx_lv (lv' := [(0, .ref (eA E 49)), (1, .int (bset (nn K) P)), (2, .int (nI j)), (3, .int (nI f6)), (4, .int (nI i5))]) (by rw [ef6]) ?_
            refine gx_aload_n C dX4_greatest_37 (by rfl) (by rfl) ?_
            refine gx_iload_n C dX4_greatest_38 (by rfl) (by rfl) ?_
            refine gx_iload_n C dX4_greatest_39 (by rfl) (by rfl) ?_
            refine gx_callVI (As := [.int (nI f6), .int (nI j)]) (rest := [.int (K (j + 1) i5)]) C (c_X4_is E σ f6 (by omega) j (by omega)) z_X4_is ck4 (by rfl) (by rfl) ml_X4_51 (by rfl) (Nat.le_of_ble_eq_true rfl) ⟨Nat.le_of_ble_eq_true rfl, Nat.le_of_ble_eq_true rfl⟩ dX4_greatest_40 (fun r7 σ7 w7 => ?_)
            obtain ⟨u1, u2⟩ := w7; rw [u1, u2]; clear u1 u2
            refine gx_st (st' := [.int (K (j + 1) f6), .int (K (j + 1) i5)]) (by rw [mp_J hM (by omega) (p := f6) (by omega)]) ?_
            refine gx_icmp_le (tgt := 49) C dX4_greatest_43 (by decide) (fun h8 => ?_) (fun h8 => ?_)
            ·
              refine gx_iinc (v := nI (i5 + 1)) (lv2 := [(4, .int (nI (i5 + 1))), (0, .ref (eA E 49)), (1, .int (bset (nn K) P)), (2, .int (nI j)), (3, .int (nI f6))]) C dX4_greatest_49 (by rfl) (by exact nI_p1 _) (by decide) rfl ?_
              refine gx_goto (tgt := 5) C dX4_greatest_52 (by decide) ?_
              refine gx_sub [1, 2, 3, 4, 0] (lv' := [(0, .ref (eA E 49)), (1, .int (bset (nn K) P)), (2, .int (nI j)), (3, .int (nI f6)), (4, .int (nI (i5 + 1)))]) rfl ?_
              refine gx_lv (lv' := [(0, .ref (eA E 49)), (1, .int (bset (nn K) P)), (2, .int (nI j)), (3, .int (mx (K (j + 1)) P (i5 + 1))), (4, .int (nI (i5 + 1)))]) (by first | rw [mx_f1 (by simpa using ‹¬ P i5 = true›)] | rw [← ef6, mx_f2 ef6 (by omega) (by assumption)]) ?_
              exact ih5 (i5 + 1) (by omega) (by omega)
            ·
              refine gx_iload C dX4_greatest_46 (by rfl) ?_
              refine gx_istore_n (lv2 := [(3, .int (nI i5)), (0, .ref (eA E 49)), (1, .int (bset (nn K) P)), (2, .int (nI j)), (4, .int (nI i5))]) C dX4_greatest_48 (by rfl) (by decide) rfl ?_
              refine gx_iinc (v := nI (i5 + 1)) (lv2 := [(4, .int (nI (i5 + 1))), (3, .int (nI i5)), (0, .ref (eA E 49)), (1, .int (bset (nn K) P)), (2, .int (nI j))]) C dX4_greatest_49 (by rfl) (by exact nI_p1 _) (by decide) rfl ?_
              refine gx_goto (tgt := 5) C dX4_greatest_52 (by decide) ?_
              refine gx_sub [2, 3, 4, 1, 0] (lv' := [(0, .ref (eA E 49)), (1, .int (bset (nn K) P)), (2, .int (nI j)), (3, .int (nI i5)), (4, .int (nI (i5 + 1)))]) rfl ?_
              refine gx_lv (lv' := [(0, .ref (eA E 49)), (1, .int (bset (nn K) P)), (2, .int (nI j)), (3, .int (mx (K (j + 1)) P (i5 + 1))), (4, .int (nI (i5 + 1)))]) (by first | rw [mx_t1 (by assumption) (mx_m1 (by omega) (by assumption))] | rw [mx_t2 (by assumption) ef6 (by omega) (by assumption)]) ?_
              exact ih5 (i5 + 1) (by omega) (by omega)
  refine gx_sub [2, 3, 4, 1, 0] (lv' := [(0, .ref (eA E 49)), (1, .int (bset (nn K) P)), (2, .int (nI j)), (3, .int (-1)), (4, .int 0)]) rfl ?_
  refine gx_lv (lv' := [(0, .ref (eA E 49)), (1, .int (bset (nn K) P)), (2, .int (nI j)), (3, .int (mx (K (j + 1)) P 0)), (4, .int (nI 0))]) (by rfl) ?_
  exact loop5 (nn K + 1) 0 (by omega) (by omega)
