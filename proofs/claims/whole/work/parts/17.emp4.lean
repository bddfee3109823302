theorem rk_rg {r : Nat} (h : r < 8) : -1 ≤ nI r ∧ nI r ≤ 7 := ⟨Int32.le_trans (by decide) (nI_pos' (by omega)), nI_le (b := 7) (by omega) (by omega)⟩
theorem sub_pos {a : Int32} {b : Nat} (ha : 0 ≤ a ∧ a ≤ 4) (hb : b ≤ 12) : a - nI b ≤ 0 ↔ ¬ nI b < a := by
  obtain ⟨k, hk, rfl⟩ := i_nat (M := 4) (n := 4) (by decide) ha
  rw [nI_ltI (by omega) (by omega), Int32.le_iff_toInt_le, pk_sub_toInt (by omega) (by omega), Int32.toInt_zero]
  omega
theorem sub_one {a : Int32} {b : Nat} : a - nI b + (-1) = a - nI (b + 1) := by
  rw [← nI_1 b]
  apply Int32.toBitVec_inj.mp
  simp only [Int32.toBitVec_add, Int32.toBitVec_sub]
  have : (-1 : Int32).toBitVec = - (1 : Int32).toBitVec := by decide
  rw [this]
  generalize a.toBitVec = x
  generalize (nI b).toBitVec = y
  generalize (1 : Int32).toBitVec = z
  rw [BitVec.sub_eq_add_neg, BitVec.sub_eq_add_neg, BitVec.neg_add, BitVec.sub_eq_add_neg, BitVec.add_assoc]
set_option maxHeartbeats 4000000 in
set_option maxRecDepth 100000 in
theorem c_X0_turnOut (E : En) (σ : Mm) (e : Nat) (he : isE e) (K : Mm) (hK : Emp σ e K) (hO : Ok K) (P : Nat → Bool) : CtV E yX0_turnOut cX0_turnOut 3 none 3 65 [.ref (eA E e), .int (bset (nn K) P)] σ (fun σ2 => Emp σ2 e (up2 (outK K P (nn K)) 0 2 (K 0 2 + nI (cnt P (nn K)))) ∧ Fr e σ σ2) := by
  obtain ⟨⟨hn, h12⟩, hpp, hlw, hsp, hz0⟩ := id hO
  refine CtV.of (by decide +kernel) (Nat.le_of_ble_eq_true rfl) (fun p e0 s m below meth c C hr hlk => ?_)
  refine gx_lv (lv' := [(0, .ref (eA E e)), (1, .int (bset (nn K) P))]) rfl ?_
  refine gx_iconst (v := 0) C dX0_turnOut_0 (by decide) ?_
  refine gx_istore_n (lv2 := [(2, .int 0), (0, .ref (eA E e)), (1, .int (bset (nn K) P))]) C dX0_turnOut_1 (by rfl) (by decide) rfl ?_
  have loop2 : ∀ (kf i2 : Nat), i2 ≤ nn K → nn K < i2 + kf → ∀ τ : Mm, (Emp τ e (outK K P i2)) → (Fr e σ τ) → Gx E p e0 (rmF 3 65) s m ([.ref (eA E e), .int (bset (nn K) P)] : List Value).toArray below meth c (MQ below (va_Qv (fun σ2 => Emp σ2 e (up2 (outK K P (nn K)) 0 2 (K 0 2 + nI (cnt P (nn K)))) ∧ Fr e σ σ2) (WQ E) (AA E s.heap.size)) ([.ref (eA E e), .int (bset (nn K) P)] : List Value).toArray s 0 0 (AA E s.heap.size)) 3 2 [(0, .ref (eA E e)), (1, .int (bset (nn K) P)), (2, .int (nI i2))] [] τ := by
    intro kf
    induction kf with
    | zero => intro i2 q1 q2; exact absurd q2 (by omega)
    | succ kf ih2 =>
      intro i2 a2 b2 τ hKt hFt
      refine gx_iload_n C dX0_turnOut_2 (by rfl) (by rfl) ?_
      refine gx_aload_n C dX0_turnOut_3 (by rfl) (by rfl) ?_
      refine gx_geti (k := 11) C ck0 (sh_e he) (by rfl) (by decide) fl_X0_58 dX0_turnOut_4 ?_
      refine gx_st (st' := [.int (nI (nn K)), .int (nI i2)]) (by rw [show τ e 11 = nI (nn K) from hKt.n.trans hn]) ?_
      refine gx_icmp_ge (tgt := 34) C dX0_turnOut_7 (by decide) (fun h1 => ?_) (fun h1 => ?_)
      ·
        have h1 := (nI_leI (a := (nn K)) (b := i2) (by omega) (by omega)).mp h1
        refine gx_aload_n C dX0_turnOut_34 (by rfl) (by rfl) ?_
        refine gx_dup C (by rfl) dX0_turnOut_35 ?_
        refine gx_geti (k := 13) C ck0 (sh_e he) (by rfl) (by decide) fl_X0_64 dX0_turnOut_36 ?_
        refine gx_st (st' := [.int ((outK K P i2) 0 2), .ref (eA E e)]) (by rw [hKt.t]) ?_
        refine gx_iload_n C dX0_turnOut_39 (by rfl) (by rfl) ?_
        refine gx_callSI (As := [.int (bset (nn K) P)]) (rest := [.int ((outK K P i2) 0 2), .ref (eA E e)]) C (c_J6_bitCount_0f7a4 E τ (bset (nn K) P)) z_J6_bitCount_0f7a4 (by rfl) ml_X0_71 (by rfl) (Nat.le_of_ble_eq_true rfl) ⟨Nat.le_of_ble_eq_true rfl, Nat.le_of_ble_eq_true rfl⟩ dX0_turnOut_40 (fun r2 σ2 w2 => ?_)
        obtain ⟨u1, u2⟩ := w2; rw [u1, u2]; clear u1 u2
        refine gx_st (st' := [.int (nI (cnt P (nn K))), .int ((outK K P i2) 0 2), .ref (eA E e)]) (by rw [bitC_bset (n := (nn K)) (P := P) h12]) ?_
        refine gx_iadd C dX0_turnOut_43 ?_
        refine gx_puti (k := 13) C ck0 (sh_e he) (by rfl) (by decide) (by rfl) rfl rfl fl_X0_64 dX0_turnOut_44 ?_
        exact gx_vret C hr hlk ⟨by have q1 : outK K P i2 = outK K P (nn K) := (by first | (rw [show i2 = nn K by omega]; done) | exact outK_e ((bset_eq0 h12).mp (by assumption)) (by omega)); rw [← q1]; exact hKt.ut, hFt.up (by omega) (by omega)⟩ dX0_turnOut_47
      ·
        have h1 := (not_congr (nI_leI (a := (nn K)) (b := i2) (by omega) (by omega))).mp h1
        refine gx_iload_n C dX0_turnOut_10 (by rfl) (by rfl) ?_
        refine gx_if_eq (tgt := 34) C dX0_turnOut_11 (by decide) (fun h3 => ?_) (fun h3 => ?_)
        ·
          refine gx_aload_n C dX0_turnOut_34 (by rfl) (by rfl) ?_
          refine gx_dup C (by rfl) dX0_turnOut_35 ?_
          refine gx_geti (k := 13) C ck0 (sh_e he) (by rfl) (by decide) fl_X0_64 dX0_turnOut_36 ?_
          refine gx_st (st' := [.int ((outK K P i2) 0 2), .ref (eA E e)]) (by rw [hKt.t]) ?_
          refine gx_iload_n C dX0_turnOut_39 (by rfl) (by rfl) ?_
          refine gx_callSI (As := [.int (bset (nn K) P)]) (rest := [.int ((outK K P i2) 0 2), .ref (eA E e)]) C (c_J6_bitCount_0f7a4 E τ (bset (nn K) P)) z_J6_bitCount_0f7a4 (by rfl) ml_X0_71 (by rfl) (Nat.le_of_ble_eq_true rfl) ⟨Nat.le_of_ble_eq_true rfl, Nat.le_of_ble_eq_true rfl⟩ dX0_turnOut_40 (fun r4 σ4 w4 => ?_)
          obtain ⟨u1, u2⟩ := w4; rw [u1, u2]; clear u1 u2
          refine gx_st (st' := [.int (nI (cnt P (nn K))), .int ((outK K P i2) 0 2), .ref (eA E e)]) (by rw [bitC_bset (n := (nn K)) (P := P) h12]) ?_
          refine gx_iadd C dX0_turnOut_43 ?_
          refine gx_puti (k := 13) C ck0 (sh_e he) (by rfl) (by decide) (by rfl) rfl rfl fl_X0_64 dX0_turnOut_44 ?_
          exact gx_vret C hr hlk ⟨by have q1 : outK K P i2 = outK K P (nn K) := (by first | (rw [show i2 = nn K by omega]; done) | exact outK_e ((bset_eq0 h12).mp (by assumption)) (by omega)); rw [← q1]; exact hKt.ut, hFt.up (by omega) (by omega)⟩ dX0_turnOut_47
        ·
          refine gx_iload_n C dX0_turnOut_14 (by rfl) (by rfl) ?_
          refine gx_iload_n C dX0_turnOut_15 (by rfl) (by rfl) ?_
          refine gx_ishr C dX0_turnOut_16 ?_
          refine gx_iconst (v := 1) C dX0_turnOut_17 (by decide) ?_
          refine gx_iand C dX0_turnOut_18 ?_
          refine gx_if_eq (tgt := 28) C dX0_turnOut_19 (by decide) (fun h5 => ?_) (fun h5 => ?_)
          ·
            have h5 := (tb_z (n := (nn K)) (P := P) (p := i2) (by omega) (by omega)).mp h5
            refine gx_iinc (v := nI (i2 + 1)) (lv2 := [(2, .int (nI (i2 + 1))), (0, .ref (eA E e)), (1, .int (bset (nn K) P))]) C dX0_turnOut_28 (by rfl) (by exact nI_p1 _) (by decide) rfl ?_
            refine gx_goto (tgt := 2) C dX0_turnOut_31 (by decide) ?_
            refine gx_sub [1, 2, 0] (lv' := [(0, .ref (eA E e)), (1, .int (bset (nn K) P)), (2, .int (nI (i2 + 1)))]) rfl ?_
            exact ih2 (i2 + 1) (by omega) (by omega) τ (by rw [← outK_f (by assumption)]; exact hKt) hFt
          ·
            have h5 := (tb_nz (n := (nn K)) (P := P) (p := i2) (by omega) (by omega)).mp h5
            refine gx_aload_n C dX0_turnOut_22 (by rfl) (by rfl) ?_
            refine gx_iload_n C dX0_turnOut_23 (by rfl) (by rfl) ?_
            refine gx_iconst (v := (-1)) C dX0_turnOut_24 (by decide) ?_
            refine gx_callVV (As := [.int (nI i2), .int (-1)]) (rest := []) C (c_X0_moveTo E τ e he (outK K P i2) hKt (Ok_out (S := P) hO i2 (by omega)) i2 (show _ < nn K by omega) (-1) ⟨by decide, by decide⟩) z_X0_moveTo ck0 (sh_e he) (by rfl) ml_X0_80 (by rfl) (Nat.le_of_ble_eq_true rfl) ⟨Nat.le_of_ble_eq_true rfl, Nat.le_of_ble_eq_true rfl⟩ dX0_turnOut_25 (fun σ6 w6 => ?_)
            obtain ⟨hK6, hF6⟩ := w6
            have hO6 := Ok.rank (v := (-1)) (p := i2) (Ok_out (S := P) hO i2 (by omega)) (by omega) ⟨by decide, by decide⟩
            refine gx_iinc (v := nI (i2 + 1)) (lv2 := [(2, .int (nI (i2 + 1))), (0, .ref (eA E e)), (1, .int (bset (nn K) P))]) C dX0_turnOut_28 (by rfl) (by exact nI_p1 _) (by decide) rfl ?_
            refine gx_goto (tgt := 2) C dX0_turnOut_31 (by decide) ?_
            refine gx_sub [1, 2, 0] (lv' := [(0, .ref (eA E e)), (1, .int (bset (nn K) P)), (2, .int (nI (i2 + 1)))]) rfl ?_
            exact ih2 (i2 + 1) (by omega) (by omega) σ6 (by rw [← outK_t (by assumption)]; assumption) (hFt.tr hF6)
  refine gx_sub [1, 2, 0] (lv' := [(0, .ref (eA E e)), (1, .int (bset (nn K) P)), (2, .int 0)]) rfl ?_
  refine gx_lv (lv' := [(0, .ref (eA E e)), (1, .int (bset (nn K) P)), (2, .int (nI 0))]) (by rfl) ?_
  exact loop2 (nn K + 1) 0 (by omega) (by omega) σ (by rw [outK_0]; exact hK) Fr.rf
set_option maxHeartbeats 4000000 in
set_option maxRecDepth 100000 in
theorem c_X0_pay (E : En) (σ : Mm) (e : Nat) (he : isE e) (K : Mm) (hK : Emp σ e K) (hO : Ok K) : CtV E yX0_pay cX0_pay 2 none 1 15 [.ref (eA E e)] σ (fun σ2 => Emp σ2 e (pyK K (nn K)) ∧ Fr e σ σ2) := by
  obtain ⟨⟨hn, h12⟩, hpp, hlw, hsp, hz0⟩ := id hO
  refine CtV.of (by decide +kernel) (Nat.le_of_ble_eq_true rfl) (fun p e0 s m below meth c C hr hlk => ?_)
  refine gx_lv (lv' := [(0, .ref (eA E e))]) rfl ?_
  refine gx_iconst (v := 0) C dX0_pay_0 (by decide) ?_
  refine gx_istore_n (lv2 := [(1, .int 0), (0, .ref (eA E e))]) C dX0_pay_1 (by rfl) (by decide) rfl ?_
  have loop2 : ∀ (kf i2 : Nat), i2 ≤ nn K → nn K < i2 + kf → ∀ τ : Mm, (Emp τ e (pyK K i2)) → (Fr e σ τ) → Gx E p e0 (rmF 1 15) s m ([.ref (eA E e)] : List Value).toArray below meth c (MQ below (va_Qv (fun σ2 => Emp σ2 e (pyK K (nn K)) ∧ Fr e σ σ2) (WQ E) (AA E s.heap.size)) ([.ref (eA E e)] : List Value).toArray s 0 0 (AA E s.heap.size)) 2 2 [(0, .ref (eA E e)), (1, .int (nI i2))] [] τ := by
    intro kf
    induction kf with
    | zero => intro i2 q1 q2; exact absurd q2 (by omega)
    | succ kf ih2 =>
      intro i2 a2 b2 τ hKt hFt
      refine gx_iload_n C dX0_pay_2 (by rfl) (by rfl) ?_
      refine gx_aload_n C dX0_pay_3 (by rfl) (by rfl) ?_
      refine gx_geti (k := 11) C ck0 (sh_e he) (by rfl) (by decide) fl_X0_58 dX0_pay_4 ?_
      refine gx_st (st' := [.int (nI (nn K)), .int (nI i2)]) (by rw [show τ e 11 = nI (nn K) from hKt.n.trans hn]) ?_
      refine gx_icmp_ge (tgt := 54) C dX0_pay_7 (by decide) (fun h1 => ?_) (fun h1 => ?_)
      ·
        have h1 := (nI_leI (a := (nn K)) (b := i2) (by omega) (by omega)).mp h1
        exact gx_vret C hr hlk ⟨by have q1 : i2 = nn K := (by omega); rw [q1] at hKt; exact hKt, hFt⟩ dX0_pay_54
      ·
        have h1 := (not_congr (nI_leI (a := (nn K)) (b := i2) (by omega) (by omega))).mp h1
        refine gx_aload_n C dX0_pay_10 (by rfl) (by rfl) ?_
        refine gx_getr (j := e + 2) (k := 1) C ck0 (sh_e he) (by rfl) (by decide) fl_X0_15 dX0_pay_11 ?_
        refine gx_iload_n C dX0_pay_14 (by rfl) (by rfl) ?_
        refine gx_ialdN (k := i2) C (sh_e2 he) rfl (by omega) (by decide) dX0_pay_15 ?_
        refine gx_st (st' := [.int (K 2 i2)]) (by rw [show τ (e + 2) i2 = K 2 i2 from (hKt.r2 (by omega)).trans pyK_2]) ?_
        refine gx_iconst (v := (-1)) C dX0_pay_16 (by decide) ?_
        refine gx_icmp_eq (tgt := 48) C dX0_pay_17 (by decide) (fun h2 => ?_) (fun h2 => ?_)
        ·
          refine gx_iinc (v := nI (i2 + 1)) (lv2 := [(1, .int (nI (i2 + 1))), (0, .ref (eA E e))]) C dX0_pay_48 (by rfl) (by exact nI_p1 _) (by decide) rfl ?_
          refine gx_goto (tgt := 2) C dX0_pay_51 (by decide) ?_
          refine gx_sub [1, 0] (lv' := [(0, .ref (eA E e)), (1, .int (nI (i2 + 1)))]) rfl ?_
          exact ih2 (i2 + 1) (by omega) (by omega) τ (by rw [← pyK_f (by assumption)]; exact hKt) hFt
        ·
          refine gx_aload_n C dX0_pay_20 (by rfl) (by rfl) ?_
          refine gx_getr (j := e + 5) (k := 4) C ck0 (sh_e he) (by rfl) (by decide) fl_X0_24 dX0_pay_21 ?_
          refine gx_iload_n C dX0_pay_24 (by rfl) (by rfl) ?_
          refine gx_sipush (v := 9999) C dX0_pay_25 (by decide) ?_
          refine gx_aload_n C dX0_pay_28 (by rfl) (by rfl) ?_
          refine gx_getr (j := e + 5) (k := 4) C ck0 (sh_e he) (by rfl) (by decide) fl_X0_24 dX0_pay_29 ?_
          refine gx_iload_n C dX0_pay_32 (by rfl) (by rfl) ?_
          refine gx_ialdN (k := i2) C (sh_e5 he) rfl (by omega) (by decide) dX0_pay_33 ?_
          refine gx_st (st' := [.int (K 5 i2), .int 9999, .int (nI i2), .ref (eA E (e + 5))]) (by rw [show τ (e + 5) i2 = K 5 i2 from (hKt.r5 (by omega)).trans pyK_5]) ?_
          refine gx_bipush (v := 8) C dX0_pay_34 (by decide) ?_
          refine gx_iadd C dX0_pay_36 ?_
          refine gx_aload_n C dX0_pay_37 (by rfl) (by rfl) ?_
          refine gx_getr (j := e + 2) (k := 1) C ck0 (sh_e he) (by rfl) (by decide) fl_X0_15 dX0_pay_38 ?_
          refine gx_iload_n C dX0_pay_41 (by rfl) (by rfl) ?_
          refine gx_ialdN (k := i2) C (sh_e2 he) rfl (by omega) (by decide) dX0_pay_42 ?_
          refine gx_st (st' := [.int (K 2 i2), .int ((K 5 i2) + 8), .int 9999, .int (nI i2), .ref (eA E (e + 5))]) (by rw [show τ (e + 2) i2 = K 2 i2 from (hKt.r2 (by omega)).trans pyK_2]) ?_
          refine gx_isub C dX0_pay_43 ?_
          refine gx_min C ml_X0_146 (Nat.le_of_ble_eq_true rfl) (Nat.le_of_ble_eq_true rfl) dX0_pay_44 ?_
          refine gx_iastN (k := i2) C (sh_e5 he) rfl (by omega) (by decide) dX0_pay_47 ?_
          refine gx_iinc (v := nI (i2 + 1)) (lv2 := [(1, .int (nI (i2 + 1))), (0, .ref (eA E e))]) C dX0_pay_48 (by rfl) (by exact nI_p1 _) (by decide) rfl ?_
          refine gx_goto (tgt := 2) C dX0_pay_51 (by decide) ?_
          refine gx_sub [1, 0] (lv' := [(0, .ref (eA E e)), (1, .int (nI (i2 + 1)))]) rfl ?_
          exact ih2 (i2 + 1) (by omega) (by omega) (up2 τ (e + 5) i2 (if (((K 5 i2) + 8) - (K 2 i2)) < 9999 then (((K 5 i2) + 8) - (K 2 i2)) else 9999)) (by rw [← pyK_t (by assumption)]; exact hKt.u5 (by omega)) (hFt.up (by omega) (by omega))
  refine gx_sub [1, 0] (lv' := [(0, .ref (eA E e)), (1, .int 0)]) rfl ?_
  refine gx_lv (lv' := [(0, .ref (eA E e)), (1, .int (nI 0))]) (by rfl) ?_
  exact loop2 (nn K + 1) 0 (by omega) (by omega) σ (by rw [pyK_0]; exact hK) Fr.rf
set_option maxHeartbeats 4000000 in
set_option maxRecDepth 100000 in
theorem c_X0_growOlder (E : En) (σ : Mm) (e : Nat) (he : isE e) (K : Mm) (hK : Emp σ e K) (hO : Ok K) : CtV E yX0_growOlder cX0_growOlder 2 none 1 15 [.ref (eA E e)] σ (fun σ2 => Emp σ2 e (agK K (nn K)) ∧ Fr e σ σ2) := by
  obtain ⟨⟨hn, h12⟩, hpp, hlw, hsp, hz0⟩ := id hO
  refine CtV.of (by decide +kernel) (Nat.le_of_ble_eq_true rfl) (fun p e0 s m below meth c C hr hlk => ?_)
  refine gx_lv (lv' := [(0, .ref (eA E e))]) rfl ?_
  refine gx_iconst (v := 0) C dX0_growOlder_0 (by decide) ?_
  refine gx_istore_n (lv2 := [(1, .int 0), (0, .ref (eA E e))]) C dX0_growOlder_1 (by rfl) (by decide) rfl ?_
  have loop2 : ∀ (kf i2 : Nat), i2 ≤ nn K → nn K < i2 + kf → ∀ τ : Mm, (Emp τ e (agK K i2)) → (Fr e σ τ) → Gx E p e0 (rmF 1 15) s m ([.ref (eA E e)] : List Value).toArray below meth c (MQ below (va_Qv (fun σ2 => Emp σ2 e (agK K (nn K)) ∧ Fr e σ σ2) (WQ E) (AA E s.heap.size)) ([.ref (eA E e)] : List Value).toArray s 0 0 (AA E s.heap.size)) 2 2 [(0, .ref (eA E e)), (1, .int (nI i2))] [] τ := by
    intro kf
    induction kf with
    | zero => intro i2 q1 q2; exact absurd q2 (by omega)
    | succ kf ih2 =>
      intro i2 a2 b2 τ hKt hFt
      refine gx_iload_n C dX0_growOlder_2 (by rfl) (by rfl) ?_
      refine gx_aload_n C dX0_growOlder_3 (by rfl) (by rfl) ?_
      refine gx_geti (k := 11) C ck0 (sh_e he) (by rfl) (by decide) fl_X0_58 dX0_growOlder_4 ?_
      refine gx_st (st' := [.int (nI (nn K)), .int (nI i2)]) (by rw [show τ e 11 = nI (nn K) from hKt.n.trans hn]) ?_
      refine gx_icmp_ge (tgt := 35) C dX0_growOlder_7 (by decide) (fun h1 => ?_) (fun h1 => ?_)
      ·
        have h1 := (nI_leI (a := (nn K)) (b := i2) (by omega) (by omega)).mp h1
        exact gx_vret C hr hlk ⟨by have q1 : i2 = nn K := (by omega); rw [q1] at hKt; exact hKt, hFt⟩ dX0_growOlder_35
      ·
        have h1 := (not_congr (nI_leI (a := (nn K)) (b := i2) (by omega) (by omega))).mp h1
        refine gx_aload_n C dX0_growOlder_10 (by rfl) (by rfl) ?_
        refine gx_getr (j := e + 3) (k := 2) C ck0 (sh_e he) (by rfl) (by decide) fl_X0_18 dX0_growOlder_11 ?_
        refine gx_iload_n C dX0_growOlder_14 (by rfl) (by rfl) ?_
        refine gx_bipush (v := 99) C dX0_growOlder_15 (by decide) ?_
        refine gx_aload_n C dX0_growOlder_17 (by rfl) (by rfl) ?_
        refine gx_getr (j := e + 3) (k := 2) C ck0 (sh_e he) (by rfl) (by decide) fl_X0_18 dX0_growOlder_18 ?_
        refine gx_iload_n C dX0_growOlder_21 (by rfl) (by rfl) ?_
        refine gx_ialdN (k := i2) C (sh_e3 he) rfl (by omega) (by decide) dX0_growOlder_22 ?_
        refine gx_st (st' := [.int (K 3 i2), .int 99, .int (nI i2), .ref (eA E (e + 3))]) (by rw [show τ (e + 3) i2 = K 3 i2 from (hKt.r3 (by omega)).trans agK_3]) ?_
        refine gx_iconst (v := 1) C dX0_growOlder_23 (by decide) ?_
        refine gx_iadd C dX0_growOlder_24 ?_
        refine gx_min C ml_X0_146 (Nat.le_of_ble_eq_true rfl) (Nat.le_of_ble_eq_true rfl) dX0_growOlder_25 ?_
        refine gx_iastN (k := i2) C (sh_e3 he) rfl (by omega) (by decide) dX0_growOlder_28 ?_
        refine gx_iinc (v := nI (i2 + 1)) (lv2 := [(1, .int (nI (i2 + 1))), (0, .ref (eA E e))]) C dX0_growOlder_29 (by rfl) (by exact nI_p1 _) (by decide) rfl ?_
        refine gx_goto (tgt := 2) C dX0_growOlder_32 (by decide) ?_
        refine gx_sub [1, 0] (lv' := [(0, .ref (eA E e)), (1, .int (nI (i2 + 1)))]) rfl ?_
        exact ih2 (i2 + 1) (by omega) (by omega) (up2 τ (e + 3) i2 (if ((K 3 i2) + 1) < 99 then ((K 3 i2) + 1) else 99)) (by rw [← agK_t]; exact hKt.u3 (by omega)) (hFt.up (by omega) (by omega))
  refine gx_sub [1, 0] (lv' := [(0, .ref (eA E e)), (1, .int 0)]) rfl ?_
  refine gx_lv (lv' := [(0, .ref (eA E e)), (1, .int (nI 0))]) (by rfl) ?_
  exact loop2 (nn K + 1) 0 (by omega) (by omega) σ (by rw [agK_0]; exact hK) Fr.rf
theorem mx_some {row : Nat → Int32} {S : Nat → Bool} : ∀ n, n ≤ 12 → (∃ b, b < n ∧ S b = true) → ¬ mx row S n = -1 := by
  intro n
  induction n with
  | zero => intro _ ⟨b, h, _⟩; omega
  | succ n ih =>
    intro hn ⟨b, h1, h2⟩
    rw [mx]
    split
    · exact nI_m1 (by omega)
    · next h3 =>
      rcases Nat.lt_or_ge b n with h4 | h4
      · exact ih (by omega) ⟨b, h4, h2⟩
      · have : b = n := by omega
        subst this
        intro h5
        exact h3 ⟨h2, Or.inl h5⟩
theorem lo_some {S : Nat → Bool} : ∀ n, n ≤ 12 → (∃ b, b < n ∧ S b = true) → ¬ lo S n = -1 := by
  intro n
  induction n with
  | zero => intro _ ⟨b, h, _⟩; omega
  | succ n ih =>
    intro hn ⟨b, h1, h2⟩
    rw [lo]
    split
    · exact nI_m1 (by omega)
    · next h3 =>
      rcases Nat.lt_or_ge b n with h4 | h4
      · exact ih (by omega) ⟨b, h4, h2⟩
      · have : b = n := by omega
        subst this
        intro h5
        exact h3 ⟨h2, h5⟩
theorem hr_none {K : Mm} {S : Nat → Bool} (h12 : nn K ≤ 12) (hO : Ok K) (h : hrS K S = -1) : ∀ b, b < nn K → S b = false := by
  intro b hb
  cases hS : S b with
  | false => rfl
  | true =>
    unfold hrS at h
    split at h
    · exact absurd h (mx_some _ h12 ⟨b, hb, hS⟩)
    · split at h
      · exact absurd h (mx_some _ h12 ⟨b, hb, hS⟩)
      · exact absurd h (lo_some _ h12 ⟨b, hb, hS⟩)
set_option maxHeartbeats 4000000 in
set_option maxRecDepth 100000 in
theorem c_X0_fillSeats (E : En) (σ : Mm) (e : Nat) (he : isE e) (K : Mm) (hK : Emp σ e K) (hO : Ok K) : CtV E yX0_fillSeats cX0_fillSeats 4 none 3 65 [.ref (eA E e)] σ (fun σ2 => Emp σ2 e (flA 7 K) ∧ Fr e σ σ2) := by
  obtain ⟨⟨hn, h12⟩, hpp, hlw, hsp, hz0⟩ := id hO
  refine CtV.of (by decide +kernel) (Nat.le_of_ble_eq_true rfl) (fun p e0 s m below meth c C hr hlk => ?_)
  refine gx_lv (lv' := [(0, .ref (eA E e))]) rfl ?_
  refine gx_iconst (v := 0) C dX0_fillSeats_0 (by decide) ?_
  refine gx_istore_n (lv2 := [(1, .int 0), (0, .ref (eA E e))]) C dX0_fillSeats_1 (by rfl) (by decide) rfl ?_
  have loop2 : ∀ (k r : Nat), r ≤ 7 → 7 < r + k → ∀ (τ K1 : Mm), Emp τ e K1 → Ok K1 → K1 = flA r K → Fr e σ τ → Gx E p e0 (rmF 3 65) s m ([.ref (eA E e)] : List Value).toArray below meth c (MQ below (va_Qv (fun σ2 => Emp σ2 e (flA 7 K) ∧ Fr e σ σ2) (WQ E) (AA E s.heap.size)) ([.ref (eA E e)] : List Value).toArray s 0 0 (AA E s.heap.size)) 4 2 [(0, .ref (eA E e)), (1, .int (nI r))] [] τ := by
    intro k
    induction k with
    | zero => intro r q1 q2; exact absurd q2 (by omega)
    | succ k ih2 =>
      intro r a2 b2 τ K1 hK1 hO1 eK1 hF1
      have h121 := hO1.1.2
      refine gx_iload_n C dX0_fillSeats_2 (by rfl) (by rfl) ?_
      refine gx_bipush (v := 7) C dX0_fillSeats_3 (by decide) ?_
      refine gx_icmp_ge (tgt := 75) C dX0_fillSeats_5 (by decide) (fun h1 => ?_) (fun h1 => ?_)
      ·
        have h1 := (nI_leI (a := 7) (b := r) (by omega) (by omega)).mp h1
        exact gx_vret C hr hlk ⟨by have q1 : r = 7 := (by omega); rw [q1] at eK1; rw [← eK1]; exact hK1, hF1⟩ dX0_fillSeats_75
      ·
        have h1 := (not_congr (nI_leI (a := 7) (b := r) (by omega) (by omega))).mp h1
        refine gx_aload_n C dX0_fillSeats_8 (by rfl) (by rfl) ?_
        refine gx_getr (j := e + 8) (k := 7) C ck0 (sh_e he) (by rfl) (by decide) fl_X0_33 dX0_fillSeats_9 ?_
        refine gx_iload_n C dX0_fillSeats_12 (by rfl) (by rfl) ?_
        refine gx_ialdN (k := r) C (sh_e8 he) rfl (by omega) (by decide) dX0_fillSeats_13 ?_
        refine gx_st (st' := [.int (K1 8 r)]) (by rw [hK1.r8 (p := r) (by omega)]) ?_
        refine gx_aload_n C dX0_fillSeats_14 (by rfl) (by rfl) ?_
        refine gx_iload_n C dX0_fillSeats_15 (by rfl) (by rfl) ?_
        refine gx_callVI (As := [.int (nI r)]) (rest := [.int (K1 8 r)]) C (k_X0_sizeOf E τ e he K1 hK1 hO1 r (by omega)) z_X0_sizeOf ck0 (sh_e he) (by rfl) ml_X0_77 (by rfl) (Nat.le_of_ble_eq_true rfl) ⟨Nat.le_of_ble_eq_true rfl, Nat.le_of_ble_eq_true rfl⟩ dX0_fillSeats_16 (fun r2 σ2 w2 => ?_)
        obtain ⟨u1, u2⟩ := w2; rw [u1, u2]; clear u1 u2
        refine gx_isub C dX0_fillSeats_19 ?_
        refine gx_istore_n (lv2 := [(2, .int ((K1 8 r) - (nI (cnt (inP K1 (nI r)) (nn K1))))), (0, .ref (eA E e)), (1, .int (nI r))]) C dX0_fillSeats_20 (by rfl) (by decide) rfl ?_
        have loop21 : ∀ (f : Nat) (τ2 K2 : Mm), Emp τ2 e K2 → Ok K2 → cnt (inP K2 (nI (r + 1))) (nn K2) < f → flR r f K2 = flR r 13 K1 → Fr e σ τ2 → Gx E p e0 (rmF 3 65) s m ([.ref (eA E e)] : List Value).toArray below meth c (MQ below (va_Qv (fun σ2 => Emp σ2 e (flA 7 K) ∧ Fr e σ σ2) (WQ E) (AA E s.heap.size)) ([.ref (eA E e)] : List Value).toArray s 0 0 (AA E s.heap.size)) 4 21 [(0, .ref (eA E e)), (1, .int (nI r)), (2, .int (K2 8 r - nI (cnt (inP K2 (nI r)) (nn K2))))] [] τ2 := by
          intro f
          induction f with
          | zero => intro τ2 K2 _ _ q; exact absurd q (by omega)
          | succ f ih21 =>
            intro τ2 K2 hK2 hO2 hf2 eT2 hF2
            have h122 := hO2.1.2
            have q3 := cnt_le (inP K2 (nI r)) (nn K2)
            refine gx_iload_n C dX0_fillSeats_21 (by rfl) (by rfl) ?_
            refine gx_if_le (tgt := 69) C dX0_fillSeats_22 (by decide) (fun h3 => ?_) (fun h3 => ?_)
            ·
              have q8 : ¬ nI (cnt (inP K2 (nI r)) (nn K2)) < K2 8 r := (sub_pos (hO2.2.2.2.2.2 r (by omega)) (by omega)).mp h3
              have eT2 : K2 = flR r 13 K1 := by rw [← eT2, flR, if_neg (fun q => q8 q.1)]
              refine gx_iinc (v := nI (r + 1)) (lv2 := [(1, .int (nI (r + 1))), (0, .ref (eA E e)), (2, .int (K2 8 r - nI (cnt (inP K2 (nI r)) (nn K2))))]) C dX0_fillSeats_69 (by rfl) (by exact nI_p1 _) (by decide) rfl ?_
              refine gx_goto (tgt := 2) C dX0_fillSeats_72 (by decide) ?_
              refine gx_sub [1, 0] (lv' := [(0, .ref (eA E e)), (1, .int (nI (r + 1)))]) rfl ?_
              exact ih2 (r + 1) (by omega) (by omega) τ2 K2 hK2 hO2 (by rw [flA, ← eK1]; exact eT2) hF2
            ·
              have h5 : nI (cnt (inP K2 (nI r)) (nn K2)) < K2 8 r := Classical.not_not.mp (fun q => h3 ((sub_pos (hO2.2.2.2.2.2 r (by omega)) (by omega)).mpr q))
              refine gx_aload_n C dX0_fillSeats_25 (by rfl) (by rfl) ?_
              refine gx_getr (j := e + 9) (k := 8) C ck0 (sh_e he) (by rfl) (by decide) fl_X0_36 dX0_fillSeats_26 ?_
              refine gx_iload_n C dX0_fillSeats_29 (by rfl) (by rfl) ?_
              refine gx_iconst (v := 1) C dX0_fillSeats_30 (by decide) ?_
              refine gx_iadd C dX0_fillSeats_31 ?_
              refine gx_st (st' := [.int (nI (r + 1)), .ref (eA E (e + 9))]) (by rw [show (nI r) + 1 = nI (r + 1) from nI_add r 1]) ?_
              refine gx_ialdN (k := (r + 1)) C (sh_e9 he) rfl (by omega) (by decide) dX0_fillSeats_32 ?_
              refine gx_st (st' := [.int (bset (nn K2) (inP K2 (nI (r + 1))))]) (by rw [hK2.in (r := r + 1) (by omega)]) ?_
              refine gx_if_eq (tgt := 69) C dX0_fillSeats_33 (by decide) (fun h4 => ?_) (fun h4 => ?_)
              ·
                have q8 : hrS K2 (inP K2 (nI (r + 1))) = -1 := (hrS_or K2 (inP K2 (nI (r + 1)))).resolve_right (fun ⟨b, x1, x2, x3⟩ => by rw [(bset_eq0 h122).mp h4 b x1] at x3; cases x3)
                have eT2 : K2 = flR r 13 K1 := by rw [← eT2, flR, if_neg (fun q => q.2 q8)]
                refine gx_iinc (v := nI (r + 1)) (lv2 := [(1, .int (nI (r + 1))), (0, .ref (eA E e)), (2, .int (K2 8 r - nI (cnt (inP K2 (nI r)) (nn K2))))]) C dX0_fillSeats_69 (by rfl) (by exact nI_p1 _) (by decide) rfl ?_
                refine gx_goto (tgt := 2) C dX0_fillSeats_72 (by decide) ?_
                refine gx_sub [1, 0] (lv' := [(0, .ref (eA E e)), (1, .int (nI (r + 1)))]) rfl ?_
                exact ih2 (r + 1) (by omega) (by omega) τ2 K2 hK2 hO2 (by rw [flA, ← eK1]; exact eT2) hF2
              ·
                refine gx_aload_n C dX0_fillSeats_36 (by rfl) (by rfl) ?_
                refine gx_aload_n C dX0_fillSeats_37 (by rfl) (by rfl) ?_
                refine gx_getr (j := e + 9) (k := 8) C ck0 (sh_e he) (by rfl) (by decide) fl_X0_36 dX0_fillSeats_38 ?_
                refine gx_iload_n C dX0_fillSeats_41 (by rfl) (by rfl) ?_
                refine gx_iconst (v := 1) C dX0_fillSeats_42 (by decide) ?_
                refine gx_iadd C dX0_fillSeats_43 ?_
                refine gx_st (st' := [.int (nI (r + 1)), .ref (eA E (e + 9)), .ref (eA E e)]) (by rw [show (nI r) + 1 = nI (r + 1) from nI_add r 1]) ?_
                refine gx_ialdN (k := (r + 1)) C (sh_e9 he) rfl (by omega) (by decide) dX0_fillSeats_44 ?_
                refine gx_st (st' := [.int (bset (nn K2) (inP K2 (nI (r + 1)))), .ref (eA E e)]) (by rw [hK2.in (r := r + 1) (by omega)]) ?_
                refine gx_callVI (As := [.int (bset (nn K2) (inP K2 (nI (r + 1))))]) (rest := []) C (c_X0_firstByLaw E τ2 e he K2 hK2 hO2 (inP K2 (nI (r + 1)))) z_X0_firstByLaw ck0 (sh_e he) (by rfl) ml_X0_143 (by rfl) (Nat.le_of_ble_eq_true rfl) ⟨Nat.le_of_ble_eq_true rfl, Nat.le_of_ble_eq_true rfl⟩ dX0_fillSeats_45 (fun r5 σ5 w5 => ?_)
                obtain ⟨u1, u2⟩ := w5; rw [u1, u2]; clear u1 u2
                have q1 : ¬ hrS K2 (inP K2 (nI (r + 1))) = -1 := fun q => by
                    have q9 : ∀ b, b < nn K2 → inP K2 (nI (r + 1)) b = false := hr_none h122 hO2 q
                    exact absurd ((bset_eq0 h122).mpr q9) (by assumption)
                obtain ⟨x1, x2, x3⟩ := clamp_hr h122 q1
                obtain ⟨hx, q2⟩ : ∃ b, (hrS K2 (inP K2 (nI (r + 1)))).toNatClampNeg = b := ⟨_, rfl⟩
                rw [q2] at x1 x2
                refine gx_st (st' := [.int (nI hx)]) (by rw [x2]) ?_
                refine gx_istore_n (lv2 := [(3, .int (nI hx)), (0, .ref (eA E e)), (1, .int (nI r)), (2, .int (K2 8 r - nI (cnt (inP K2 (nI r)) (nn K2))))]) C dX0_fillSeats_48 (by rfl) (by decide) rfl ?_
                refine gx_aload_n C dX0_fillSeats_49 (by rfl) (by rfl) ?_
                refine gx_iload_n C dX0_fillSeats_50 (by rfl) (by rfl) ?_
                refine gx_callVI (As := [.int (nI hx)]) (rest := []) C (k_X0_has E τ2 e he K2 hK2 hO2 (nI hx)) z_X0_has ck0 (sh_e he) (by rfl) ml_X0_67 (by rfl) (Nat.le_of_ble_eq_true rfl) ⟨Nat.le_of_ble_eq_true rfl, Nat.le_of_ble_eq_true rfl⟩ dX0_fillSeats_51 (fun r6 σ6 w6 => ?_)
                obtain ⟨u1, u2⟩ := w6; rw [u1, u2]; clear u1 u2
                refine gx_if_eq (tgt := 63) C dX0_fillSeats_54 (by decide) (fun h7 => ?_) (fun h7 => ?_)
                ·
                  have h7 := b2_z.mp h7
                  exact absurd (⟨nI_pos' (by omega), by rw [hO2.1.1]; exact nI_lt x1 (by omega)⟩ : 0 ≤ nI hx ∧ nI hx < K2 0 0) h7
                ·
                  have h7 := b2_nz.mp h7
                  refine gx_aload_n C dX0_fillSeats_57 (by rfl) (by rfl) ?_
                  refine gx_iload_n C dX0_fillSeats_58 (by rfl) (by rfl) ?_
                  refine gx_iload_n C dX0_fillSeats_59 (by rfl) (by rfl) ?_
                  refine gx_callVV (As := [.int (nI hx), .int (nI r)]) (rest := []) C (c_X0_moveTo E τ2 e he K2 hK2 hO2 hx (by omega) (nI r) (rk_rg (by omega))) z_X0_moveTo ck0 (sh_e he) (by rfl) ml_X0_80 (by rfl) (Nat.le_of_ble_eq_true rfl) ⟨Nat.le_of_ble_eq_true rfl, Nat.le_of_ble_eq_true rfl⟩ dX0_fillSeats_60 (fun σ8 w8 => ?_)
                  obtain ⟨hK8, hF8⟩ := w8
                  have hO8 := Ok.rank (v := (nI r)) (p := hx) hO2 (by omega) (rk_rg (by omega))
                  refine gx_iinc (v := (K2 8 r - nI (cnt (inP K2 (nI r)) (nn K2))) + (-1)) (lv2 := [(2, .int ((K2 8 r - nI (cnt (inP K2 (nI r)) (nn K2))) + (-1))), (3, .int (nI hx)), (0, .ref (eA E e)), (1, .int (nI r))]) C dX0_fillSeats_63 (by rfl) rfl (by decide) rfl ?_
                  refine gx_goto (tgt := 21) C dX0_fillSeats_66 (by decide) ?_
                  refine gx_sub [2, 3, 0] (lv' := [(0, .ref (eA E e)), (1, .int (nI r)), (2, .int ((K2 8 r - nI (cnt (inP K2 (nI r)) (nn K2))) + (-1)))]) rfl ?_
                  have q5 := cnt_mv (K := K2) (h := hx) (r := r) (by omega) (by omega) (by have q6 := (clamp_hr h122 q1).2.2; simp only [inP] at q6; rw [q2] at q6; exact of_decide_eq_true q6)
                  have q7 : nn (up2 K2 2 hx (nI r)) = nn K2 := nn_up (Or.inl (by omega))
                  refine gx_lv (lv' := [(0, .ref (eA E e)), (1, .int (nI r)), (2, .int ((up2 K2 2 hx (nI r)) 8 r - nI (cnt (inP (up2 K2 2 hx (nI r)) (nI r)) (nn (up2 K2 2 hx (nI r))))))]) (by rw [q7, q5.1, ← sub_one]; rfl) ?_
                  exact ih21 σ8 (up2 K2 2 hx (nI r)) hK8 hO8 (by rw [q7]; omega) (by rw [← eT2, flR, if_pos ⟨h5, q1⟩, q2]) (hF2.tr hF8)
        refine gx_sub [1, 2, 0] (lv' := [(0, .ref (eA E e)), (1, .int (nI r)), (2, .int ((K1 8 r) - (nI (cnt (inP K1 (nI r)) (nn K1)))))]) rfl ?_
        have q4 := cnt_le (inP K1 (nI (r + 1))) (nn K1)
        exact loop21 13 τ K1 hK1 hO1 (by omega) rfl hF1
  refine gx_sub [1, 0] (lv' := [(0, .ref (eA E e)), (1, .int 0)]) rfl ?_
  refine gx_lv (lv' := [(0, .ref (eA E e)), (1, .int (nI 0))]) (by rfl) ?_
  exact loop2 8 0 (by omega) (by omega) σ K hK hO rfl Fr.rf
