set_option maxHeartbeats 4000000 in
set_option maxRecDepth 100000 in
theorem c_X3_found (E : En) (σ : Mm) (f : Int32) (k : Nat) (hk : k < 7) (hf : (-1000001) - f = nI k) : CtI E yX3_found cX3_found 3 (some .int) 1 22 [.ref (eA E 0), .int f] σ (fun rr σ2 => σ2 = up2 σ 1 k (σ 1 k + 1) ∧ rr = f) := by
  refine CtI.of (by decide +kernel) (Nat.le_of_ble_eq_true rfl) (fun p e0 s m below meth c C hr hlk => ?_)
  refine gx_lv (lv' := [(0, .ref (eA E 0)), (1, .int f)]) rfl ?_
  refine gx_ldc C kc_X3_48 dX3_found_0 ?_
  refine gx_iload_n C dX3_found_2 (by rfl) (by rfl) ?_
  refine gx_isub C dX3_found_3 ?_
  refine gx_st (st' := [.int (nI k)]) (by rw [hf]) ?_
  refine gx_istore_n (lv2 := [(2, .int (nI k)), (0, .ref (eA E 0)), (1, .int f)]) C dX3_found_4 (by rfl) (by decide) rfl ?_
  refine gx_iload_n C dX3_found_5 (by rfl) (by rfl) ?_
  refine gx_iconst (v := 0) C dX3_found_6 (by decide) ?_
  refine gx_bipush (v := 6) C dX3_found_7 (by decide) ?_
  refine gx_callSI (As := [.int (nI k), .int 0, .int 6]) (rest := []) C (c_X3_isWithin E σ (nI k) 0 6) z_X3_isWithin (by rfl) ml_X3_44 (by rfl) (Nat.le_of_ble_eq_true rfl) ⟨Nat.le_of_ble_eq_true rfl, Nat.le_of_ble_eq_true rfl⟩ dX3_found_9 (fun r1 σ1 w1 => ?_)
  obtain ⟨u1, u2⟩ := w1; rw [u1, u2]; clear u1 u2
  refine gx_if_eq (tgt := 25) C dX3_found_12 (by decide) (fun h2 => ?_) (fun h2 => ?_)
  ·
    have h2 := b2_z.mp h2
    exact absurd ⟨nI_pos' (by omega), nI_le (b := 6) (by omega) (by omega)⟩ h2
  ·
    have h2 := b2_nz.mp h2
    refine gx_aload_n C dX3_found_15 (by rfl) (by rfl) ?_
    refine gx_getr (j := 1) (k := 6) C ck3 (by rfl) (by rfl) (by decide) fl_X3_35 dX3_found_16 ?_
    refine gx_iload_n C dX3_found_19 (by rfl) (by rfl) ?_
    refine gx_dup2 C (by rfl) (by rfl) dX3_found_20 ?_
    refine gx_ialdN (k := k) C (by rfl) rfl (by omega) (by decide) dX3_found_21 ?_
    refine gx_iconst (v := 1) C dX3_found_22 (by decide) ?_
    refine gx_iadd C dX3_found_23 ?_
    refine gx_iastN (k := k) C (by rfl) rfl (by omega) (by decide) dX3_found_24 ?_
    refine gx_iload_n C dX3_found_25 (by rfl) (by rfl) ?_
    exact gx_iret C hr hlk rfl ⟨rfl, rfl⟩ dX3_found_26
set_option maxHeartbeats 4000000 in
set_option maxRecDepth 100000 in
theorem c_X3_isTooLate (E : En) (σ : Mm) (K : Mm) (hK : Emp σ 13 K) (n : Int32) : CtI E yX3_isTooLate cX3_isTooLate 2 (some .boolean) 0 0 [.ref (eA E 0), .int n] σ (fun rr σ2 => σ2 = σ ∧ rr = b2 (999 < K 0 1 + n)) := by
  refine CtI.of (by decide +kernel) (Nat.le_of_ble_eq_true rfl) (fun p e0 s m below meth c C hr hlk => ?_)
  refine gx_lv (lv' := [(0, .ref (eA E 0)), (1, .int n)]) rfl ?_
  refine gx_aload_n C dX3_isTooLate_0 (by rfl) (by rfl) ?_
  refine gx_getr (j := 13) (k := 0) C ck3 (by rfl) (by rfl) (by decide) fl_X3_10 dX3_isTooLate_1 ?_
  refine gx_geti (k := 12) C ck0 (by rfl) (by rfl) (by decide) fl_X3_270 dX3_isTooLate_4 ?_
  refine gx_st (st' := [.int (K 0 1)]) (by rw [hK.m]) ?_
  refine gx_iload_n C dX3_isTooLate_7 (by rfl) (by rfl) ?_
  refine gx_iadd C dX3_isTooLate_8 ?_
  refine gx_sipush (v := 999) C dX3_isTooLate_9 (by decide) ?_
  refine gx_icmp_le (tgt := 19) C dX3_isTooLate_12 (by decide) (fun h1 => ?_) (fun h1 => ?_)
  ·
    refine gx_iconst (v := 0) C dX3_isTooLate_19 (by decide) ?_
    exact gx_iret C hr hlk (by first | rfl | exact nb_b2 _) ⟨rfl, by first | exact b2_t (by grind) | exact b2_f (by grind)⟩ dX3_isTooLate_20
  ·
    refine gx_iconst (v := 1) C dX3_isTooLate_15 (by decide) ?_
    refine gx_goto (tgt := 20) C dX3_isTooLate_16 (by decide) ?_
    exact gx_iret C hr hlk (by first | rfl | exact nb_b2 _) ⟨rfl, by first | exact b2_t (by grind) | exact b2_f (by grind)⟩ dX3_isTooLate_20
set_option maxHeartbeats 4000000 in
set_option maxRecDepth 100000 in
theorem c_X3_seats (E : En) (σ : Mm) (K L : Mm) (g : Int32) (F : Nat → Int32) (tl : Int32) (Bt W Z : Nat → Int32) (N : Mm) (hC : CR σ (K, L, g, F, tl, Bt, W, Z, N)) (r v : Int32) : CtI E yX3_seats cX3_seats 4 (some .int) 2 44 [.ref (eA E 0), .int r, .int v] σ (fun rr σ2 => rr = (opSeats (K, L, g, F, tl, Bt, W, Z, N) r v).1 ∧ CR σ2 (opSeats (K, L, g, F, tl, Bt, W, Z, N) r v).2 ∧ FC σ σ2) := by
  obtain ⟨⟨hK, hO⟩, ⟨hg1, hg2, hg3⟩, hFd, ⟨⟨htl, htl2⟩, hBt⟩, hSh⟩ := id hC
  obtain ⟨⟨hn, h12⟩, hpp, hlw, hsp, hz0⟩ := id hO
  refine CtI.of (by decide +kernel) (Nat.le_of_ble_eq_true rfl) (fun p e0 s m below meth c C hr hlk => ?_)
  refine gx_lv (lv' := [(0, .ref (eA E 0)), (1, .int r), (2, .int v)]) rfl ?_
  refine gx_iload_n C dX3_seats_0 (by rfl) (by rfl) ?_
  refine gx_callSI (As := [.int r]) (rest := []) C (c_X3_isRank E σ r) z_X3_isRank (by rfl) ml_X3_40 (by rfl) (Nat.le_of_ble_eq_true rfl) ⟨Nat.le_of_ble_eq_true rfl, Nat.le_of_ble_eq_true rfl⟩ dX3_seats_1 (fun r1 σ1 w1 => ?_)
  obtain ⟨u1, u2⟩ := w1; rw [u1, u2]; clear u1 u2
  refine gx_if_eq (tgt := 16) C dX3_seats_4 (by decide) (fun h2 => ?_) (fun h2 => ?_)
  ·
    have h2 := b2_z.mp h2
    refine gx_aload_n C dX3_seats_16 (by rfl) (by rfl) ?_
    refine gx_ldc C kc_X3_48 dX3_seats_17 ?_
    refine gx_callVI (As := [.int (-1000001)]) (rest := []) C (c_X3_found E σ (-1000001) 0 (by decide) (by decide)) z_X3_found ck3 (by rfl) (by rfl) ml_X3_49 (by rfl) (Nat.le_of_ble_eq_true rfl) ⟨Nat.le_of_ble_eq_true rfl, Nat.le_of_ble_eq_true rfl⟩ dX3_seats_19 (fun r3 σ3 w3 => ?_)
    obtain ⟨u1, u2⟩ := w3; rw [u1, u2]; clear u1 u2
    exact gx_iret C hr hlk rfl (fin_fd hC (by decide) (by simp only [opSeats, bey, ful, knd, non, sta, mis, siz] <;> grind)) dX3_seats_22
  ·
    have h2 := b2_nz.mp h2
    obtain ⟨k, hk, rfl⟩ := r_nat h2
    have ck : (nI k).toNatClampNeg = k := nI_clamp (by omega)
    refine gx_iload_n C dX3_seats_7 (by rfl) (by rfl) ?_
    refine gx_iconst (v := 0) C dX3_seats_8 (by decide) ?_
    refine gx_iconst (v := 4) C dX3_seats_9 (by decide) ?_
    refine gx_callSI (As := [.int v, .int 0, .int 4]) (rest := []) C (c_X3_isWithin E σ v 0 4) z_X3_isWithin (by rfl) ml_X3_44 (by rfl) (Nat.le_of_ble_eq_true rfl) ⟨Nat.le_of_ble_eq_true rfl, Nat.le_of_ble_eq_true rfl⟩ dX3_seats_10 (fun r4 σ4 w4 => ?_)
    obtain ⟨u1, u2⟩ := w4; rw [u1, u2]; clear u1 u2
    refine gx_if_ne (tgt := 23) C dX3_seats_13 (by decide) (fun h5 => ?_) (fun h5 => ?_)
    ·
      have h5 := b2_nz.mp h5
      refine gx_aload_n C dX3_seats_23 (by rfl) (by rfl) ?_
      refine gx_getr (j := 13) (k := 0) C ck3 (by rfl) (by rfl) (by decide) fl_X3_10 dX3_seats_24 ?_
      refine gx_iload_n C dX3_seats_27 (by rfl) (by rfl) ?_
      refine gx_callVI (As := [.int (nI k)]) (rest := []) C (k_X0_sizeOf E σ 13 isE_13 K hK hO k (by omega)) z_X0_sizeOf ck0 (by rfl) (by rfl) ml_X3_53 (by rfl) (Nat.le_of_ble_eq_true rfl) ⟨Nat.le_of_ble_eq_true rfl, Nat.le_of_ble_eq_true rfl⟩ dX3_seats_28 (fun r6 σ6 w6 => ?_)
      obtain ⟨u1, u2⟩ := w6; rw [u1, u2]; clear u1 u2
      refine gx_iload_n C dX3_seats_31 (by rfl) (by rfl) ?_
      refine gx_icmp_le (tgt := 42) C dX3_seats_32 (by decide) (fun h7 => ?_) (fun h7 => ?_)
      ·
        refine gx_aload_n C dX3_seats_42 (by rfl) (by rfl) ?_
        refine gx_getr (j := 13) (k := 0) C ck3 (by rfl) (by rfl) (by decide) fl_X3_10 dX3_seats_43 ?_
        refine gx_getr (j := 21) (k := 7) C ck0 (by rfl) (by rfl) (by decide) fl_X3_57 dX3_seats_46 ?_
        refine gx_iload_n C dX3_seats_49 (by rfl) (by rfl) ?_
        refine gx_ialdN (k := k) C (by rfl) rfl (by omega) (by decide) dX3_seats_50 ?_
        refine gx_st (st' := [.int (K 8 k)]) (by rw [hK.r8 (p := k) (by omega)]) ?_
        refine gx_istore_n (lv2 := [(3, .int (K 8 k)), (0, .ref (eA E 0)), (1, .int (nI k)), (2, .int v)]) C dX3_seats_51 (by rfl) (by decide) rfl ?_
        refine gx_aload_n C dX3_seats_52 (by rfl) (by rfl) ?_
        refine gx_getr (j := 13) (k := 0) C ck3 (by rfl) (by rfl) (by decide) fl_X3_10 dX3_seats_53 ?_
        refine gx_getr (j := 21) (k := 7) C ck0 (by rfl) (by rfl) (by decide) fl_X3_57 dX3_seats_56 ?_
        refine gx_iload_n C dX3_seats_59 (by rfl) (by rfl) ?_
        refine gx_iload_n C dX3_seats_60 (by rfl) (by rfl) ?_
        refine gx_iastN (k := k) C (by rfl) rfl (by omega) (by decide) dX3_seats_61 ?_
        have hK8 := hK.u8 (p := k) (v := v) (by omega)
        refine gx_iload_n C dX3_seats_62 (by rfl) (by rfl) ?_
        exact gx_iret C hr hlk rfl (fin_now hC hK8 (hO.seats (p := k) (v := v) (by omega) (by grind)) ((Fr.rf).up (by decide) (by decide)) (by simp only [opSeats, bey, ful, knd, non, sta, mis, siz] <;> grind)) dX3_seats_63
      ·
        refine gx_aload_n C dX3_seats_35 (by rfl) (by rfl) ?_
        refine gx_ldc C kc_X3_56 dX3_seats_36 ?_
        refine gx_callVI (As := [.int (-1000005)]) (rest := []) C (c_X3_found E σ (-1000005) 4 (by decide) (by decide)) z_X3_found ck3 (by rfl) (by rfl) ml_X3_49 (by rfl) (Nat.le_of_ble_eq_true rfl) ⟨Nat.le_of_ble_eq_true rfl, Nat.le_of_ble_eq_true rfl⟩ dX3_seats_38 (fun r9 σ9 w9 => ?_)
        obtain ⟨u1, u2⟩ := w9; rw [u1, u2]; clear u1 u2
        exact gx_iret C hr hlk rfl (fin_fd hC (by decide) (by simp only [opSeats, bey, ful, knd, non, sta, mis, siz] <;> grind)) dX3_seats_41
    ·
      have h5 := b2_z.mp h5
      refine gx_aload_n C dX3_seats_16 (by rfl) (by rfl) ?_
      refine gx_ldc C kc_X3_48 dX3_seats_17 ?_
      refine gx_callVI (As := [.int (-1000001)]) (rest := []) C (c_X3_found E σ (-1000001) 0 (by decide) (by decide)) z_X3_found ck3 (by rfl) (by rfl) ml_X3_49 (by rfl) (Nat.le_of_ble_eq_true rfl) ⟨Nat.le_of_ble_eq_true rfl, Nat.le_of_ble_eq_true rfl⟩ dX3_seats_19 (fun r10 σ10 w10 => ?_)
      obtain ⟨u1, u2⟩ := w10; rw [u1, u2]; clear u1 u2
      exact gx_iret C hr hlk rfl (fin_fd hC (by decide) (by simp only [opSeats, bey, ful, knd, non, sta, mis, siz] <;> grind)) dX3_seats_22
set_option maxHeartbeats 4000000 in
set_option maxRecDepth 100000 in
theorem c_X3_rankOf (E : En) (σ : Mm) (K L : Mm) (g : Int32) (F : Nat → Int32) (tl : Int32) (Bt W Z : Nat → Int32) (N : Mm) (hC : CR σ (K, L, g, F, tl, Bt, W, Z, N)) (r w : Int32) : CtI E yX3_rankOf cX3_rankOf 3 (some .int) 2 44 [.ref (eA E 0), .int r, .int w] σ (fun rr σ2 => rr = (opRankOf (K, L, g, F, tl, Bt, W, Z, N) r w).1 ∧ CR σ2 (opRankOf (K, L, g, F, tl, Bt, W, Z, N) r w).2 ∧ FC σ σ2) := by
  obtain ⟨⟨hK, hO⟩, ⟨hg1, hg2, hg3⟩, hFd, ⟨⟨htl, htl2⟩, hBt⟩, hSh⟩ := id hC
  obtain ⟨⟨hn, h12⟩, hpp, hlw, hsp, hz0⟩ := id hO
  refine CtI.of (by decide +kernel) (Nat.le_of_ble_eq_true rfl) (fun p e0 s m below meth c C hr hlk => ?_)
  refine gx_lv (lv' := [(0, .ref (eA E 0)), (1, .int r), (2, .int w)]) rfl ?_
  refine gx_iload_n C dX3_rankOf_0 (by rfl) (by rfl) ?_
  refine gx_callSI (As := [.int r]) (rest := []) C (c_X3_isRank E σ r) z_X3_isRank (by rfl) ml_X3_40 (by rfl) (Nat.le_of_ble_eq_true rfl) ⟨Nat.le_of_ble_eq_true rfl, Nat.le_of_ble_eq_true rfl⟩ dX3_rankOf_1 (fun r1 σ1 w1 => ?_)
  obtain ⟨u1, u2⟩ := w1; rw [u1, u2]; clear u1 u2
  refine gx_if_ne (tgt := 14) C dX3_rankOf_4 (by decide) (fun h2 => ?_) (fun h2 => ?_)
  ·
    have h2 := b2_nz.mp h2
    obtain ⟨k, hk, rfl⟩ := r_nat h2
    have ck : (nI k).toNatClampNeg = k := nI_clamp (by omega)
    refine gx_iload_n C dX3_rankOf_14 (by rfl) (by rfl) ?_
    rcases sw_split w (0) 4 5 (by decide) with h3 | h3
    ·
      refine gx_tabOut (tgt := 115) C dX3_rankOf_15 h3 (by decide) ?_
      have qd3 : ¬ w = 0 ∧ ¬ w = 1 ∧ ¬ w = 2 ∧ ¬ w = 3 ∧ ¬ w = 4 := by refine ⟨?_, ?_, ?_, ?_, ?_⟩ <;> (intro q9; rw [q9] at h3; revert h3; decide)
      refine gx_aload_n C dX3_rankOf_115 (by rfl) (by rfl) ?_
      refine gx_ldc C kc_X3_48 dX3_rankOf_116 ?_
      refine gx_callVI (As := [.int (-1000001)]) (rest := []) C (c_X3_found E σ (-1000001) 0 (by decide) (by decide)) z_X3_found ck3 (by rfl) (by rfl) ml_X3_49 (by rfl) (Nat.le_of_ble_eq_true rfl) ⟨Nat.le_of_ble_eq_true rfl, Nat.le_of_ble_eq_true rfl⟩ dX3_rankOf_118 (fun r4 σ4 w4 => ?_)
      obtain ⟨u1, u2⟩ := w4; rw [u1, u2]; clear u1 u2
      exact gx_iret C hr hlk rfl (fin_fd hC (by decide) (by simp only [opRankOf, bey, ful, knd, non, sta, mis, siz] <;> grind)) dX3_rankOf_121
    ·
      obtain ⟨j3, hj3, ej3⟩ := h3
      have hj3 := hj3
      match j3, hj3, ej3 with
      | 0, _, ej3 =>
        have ex3 : w = (0 : Int32) := ej3.trans (by decide)
        refine gx_tabIn (off := 33) (tgt := 48) C dX3_rankOf_15 (by rw [ex3]; decide) (by rw [ex3]; decide) (by rw [ex3]; decide) (by decide) ?_
        refine gx_aload_n C dX3_rankOf_48 (by rfl) (by rfl) ?_
        refine gx_getr (j := 13) (k := 0) C ck3 (by rfl) (by rfl) (by decide) fl_X3_10 dX3_rankOf_49 ?_
        refine gx_getr (j := 21) (k := 7) C ck0 (by rfl) (by rfl) (by decide) fl_X3_57 dX3_rankOf_52 ?_
        refine gx_iload_n C dX3_rankOf_55 (by rfl) (by rfl) ?_
        refine gx_ialdN (k := k) C (by rfl) rfl (by omega) (by decide) dX3_rankOf_56 ?_
        refine gx_st (st' := [.int (K 8 k)]) (by rw [hK.r8 (p := k) (by omega)]) ?_
        exact gx_iret C hr hlk rfl (fin_rd hC (by simp only [opRankOf, bey, ful, knd, non, sta, mis, siz] <;> grind)) dX3_rankOf_57
      | 1, _, ej3 =>
        have ex3 : w = (1 : Int32) := ej3.trans (by decide)
        refine gx_tabIn (off := 43) (tgt := 58) C dX3_rankOf_15 (by rw [ex3]; decide) (by rw [ex3]; decide) (by rw [ex3]; decide) (by decide) ?_
        refine gx_aload_n C dX3_rankOf_58 (by rfl) (by rfl) ?_
        refine gx_getr (j := 13) (k := 0) C ck3 (by rfl) (by rfl) (by decide) fl_X3_10 dX3_rankOf_59 ?_
        refine gx_iload_n C dX3_rankOf_62 (by rfl) (by rfl) ?_
        refine gx_callVI (As := [.int (nI k)]) (rest := []) C (k_X0_sizeOf E σ 13 isE_13 K hK hO k (by omega)) z_X0_sizeOf ck0 (by rfl) (by rfl) ml_X3_53 (by rfl) (Nat.le_of_ble_eq_true rfl) ⟨Nat.le_of_ble_eq_true rfl, Nat.le_of_ble_eq_true rfl⟩ dX3_rankOf_63 (fun r5 σ5 w5 => ?_)
        obtain ⟨u1, u2⟩ := w5; rw [u1, u2]; clear u1 u2
        exact gx_iret C hr hlk rfl (fin_rd hC (by simp only [opRankOf, bey, ful, knd, non, sta, mis, siz] <;> grind)) dX3_rankOf_66
      | 2, _, ej3 =>
        have ex3 : w = (2 : Int32) := ej3.trans (by decide)
        refine gx_tabIn (off := 52) (tgt := 67) C dX3_rankOf_15 (by rw [ex3]; decide) (by rw [ex3]; decide) (by rw [ex3]; decide) (by decide) ?_
        refine gx_aload_n C dX3_rankOf_67 (by rfl) (by rfl) ?_
        refine gx_getr (j := 13) (k := 0) C ck3 (by rfl) (by rfl) (by decide) fl_X3_10 dX3_rankOf_68 ?_
        refine gx_getr (j := 22) (k := 8) C ck0 (by rfl) (by rfl) (by decide) fl_X3_60 dX3_rankOf_71 ?_
        refine gx_iload_n C dX3_rankOf_74 (by rfl) (by rfl) ?_
        refine gx_ialdN (k := k) C (by rfl) rfl (by omega) (by decide) dX3_rankOf_75 ?_
        refine gx_st (st' := [.int (bset (nn K) (inP K (nI k)))]) (by rw [hK.in (r := k) (by omega)]) ?_
        exact gx_iret C hr hlk rfl (fin_rd hC (by simp only [opRankOf, bey, ful, knd, non, sta, mis, siz] <;> grind)) dX3_rankOf_76
      | 3, _, ej3 =>
        have ex3 : w = (3 : Int32) := ej3.trans (by decide)
        refine gx_tabIn (off := 62) (tgt := 77) C dX3_rankOf_15 (by rw [ex3]; decide) (by rw [ex3]; decide) (by rw [ex3]; decide) (by decide) ?_
        refine gx_aload_n C dX3_rankOf_77 (by rfl) (by rfl) ?_
        refine gx_getr (j := 13) (k := 0) C ck3 (by rfl) (by rfl) (by decide) fl_X3_10 dX3_rankOf_78 ?_
        refine gx_getr (j := 22) (k := 8) C ck0 (by rfl) (by rfl) (by decide) fl_X3_60 dX3_rankOf_81 ?_
        refine gx_iload_n C dX3_rankOf_84 (by rfl) (by rfl) ?_
        refine gx_ialdN (k := k) C (by rfl) rfl (by omega) (by decide) dX3_rankOf_85 ?_
        refine gx_st (st' := [.int (bset (nn K) (inP K (nI k)))]) (by rw [hK.in (r := k) (by omega)]) ?_
        refine gx_aload_n C dX3_rankOf_86 (by rfl) (by rfl) ?_
        refine gx_getr (j := 13) (k := 0) C ck3 (by rfl) (by rfl) (by decide) fl_X3_10 dX3_rankOf_87 ?_
        refine gx_callVI (As := []) (rest := [.int (bset (nn K) (inP K (nI k)))]) C (c_X0_counting E σ 13 isE_13 K hK hO) z_X0_counting ck0 (by rfl) (by rfl) ml_X3_63 (by rfl) (Nat.le_of_ble_eq_true rfl) ⟨Nat.le_of_ble_eq_true rfl, Nat.le_of_ble_eq_true rfl⟩ dX3_rankOf_90 (fun r6 σ6 w6 => ?_)
        obtain ⟨u1, u2⟩ := w6; rw [u1, u2]; clear u1 u2
        refine gx_iand C dX3_rankOf_93 ?_
        refine gx_st (st' := [.int (bset (nn K) (fun q => (inP K (nI k)) q && (cgP K) q))]) (by rw [bset_and]) ?_
        refine gx_callSI (As := [.int (bset (nn K) (fun q => (inP K (nI k)) q && (cgP K) q))]) (rest := []) C (c_J6_bitCount_0f7a4 E σ (bset (nn K) (fun q => (inP K (nI k)) q && (cgP K) q))) z_J6_bitCount_0f7a4 (by rfl) ml_X3_67 (by rfl) (Nat.le_of_ble_eq_true rfl) ⟨Nat.le_of_ble_eq_true rfl, Nat.le_of_ble_eq_true rfl⟩ dX3_rankOf_94 (fun r7 σ7 w7 => ?_)
        obtain ⟨u1, u2⟩ := w7; rw [u1, u2]; clear u1 u2
        refine gx_st (st' := [.int (nI (cnt (fun q => (inP K (nI k)) q && (cgP K) q) (nn K)))]) (by rw [bitC_bset (n := (nn K)) (P := (fun q => (inP K (nI k)) q && (cgP K) q)) h12]) ?_
        exact gx_iret C hr hlk rfl (fin_rd hC (by simp only [opRankOf, bey, ful, knd, non, sta, mis, siz] <;> grind)) dX3_rankOf_97
      | 4, _, ej3 =>
        have ex3 : w = (4 : Int32) := ej3.trans (by decide)
        refine gx_tabIn (off := 83) (tgt := 98) C dX3_rankOf_15 (by rw [ex3]; decide) (by rw [ex3]; decide) (by rw [ex3]; decide) (by decide) ?_
        refine gx_aload_n C dX3_rankOf_98 (by rfl) (by rfl) ?_
        refine gx_getr (j := 13) (k := 0) C ck3 (by rfl) (by rfl) (by decide) fl_X3_10 dX3_rankOf_99 ?_
        refine gx_aload_n C dX3_rankOf_102 (by rfl) (by rfl) ?_
        refine gx_getr (j := 13) (k := 0) C ck3 (by rfl) (by rfl) (by decide) fl_X3_10 dX3_rankOf_103 ?_
        refine gx_getr (j := 22) (k := 8) C ck0 (by rfl) (by rfl) (by decide) fl_X3_60 dX3_rankOf_106 ?_
        refine gx_iload_n C dX3_rankOf_109 (by rfl) (by rfl) ?_
        refine gx_ialdN (k := k) C (by rfl) rfl (by omega) (by decide) dX3_rankOf_110 ?_
        refine gx_st (st' := [.int (bset (nn K) (inP K (nI k))), .ref (eA E 13)]) (by rw [hK.in (r := k) (by omega)]) ?_
        refine gx_callVI (As := [.int (bset (nn K) (inP K (nI k)))]) (rest := []) C (c_X0_goldOf E σ 13 isE_13 K hK hO (inP K (nI k))) z_X0_goldOf ck0 (by rfl) (by rfl) ml_X3_72 (by rfl) (Nat.le_of_ble_eq_true rfl) ⟨Nat.le_of_ble_eq_true rfl, Nat.le_of_ble_eq_true rfl⟩ dX3_rankOf_111 (fun r8 σ8 w8 => ?_)
        obtain ⟨u1, u2⟩ := w8; rw [u1, u2]; clear u1 u2
        exact gx_iret C hr hlk rfl (fin_rd hC (by simp only [opRankOf, bey, ful, knd, non, sta, mis, siz] <;> grind)) dX3_rankOf_114
      | j + 5, hj, _ => exact absurd hj (by omega)
  ·
    have h2 := b2_z.mp h2
    refine gx_aload_n C dX3_rankOf_7 (by rfl) (by rfl) ?_
    refine gx_ldc C kc_X3_48 dX3_rankOf_8 ?_
    refine gx_callVI (As := [.int (-1000001)]) (rest := []) C (c_X3_found E σ (-1000001) 0 (by decide) (by decide)) z_X3_found ck3 (by rfl) (by rfl) ml_X3_49 (by rfl) (Nat.le_of_ble_eq_true rfl) ⟨Nat.le_of_ble_eq_true rfl, Nat.le_of_ble_eq_true rfl⟩ dX3_rankOf_10 (fun r9 σ9 w9 => ?_)
    obtain ⟨u1, u2⟩ := w9; rw [u1, u2]; clear u1 u2
    exact gx_iret C hr hlk rfl (fin_fd hC (by decide) (by simp only [opRankOf, bey, ful, knd, non, sta, mis, siz] <;> grind)) dX3_rankOf_13
set_option maxHeartbeats 4000000 in
set_option maxRecDepth 100000 in
theorem c_X3_law (E : En) (σ : Mm) (K L : Mm) (g : Int32) (F : Nat → Int32) (tl : Int32) (Bt W Z : Nat → Int32) (N : Mm) (hC : CR σ (K, L, g, F, tl, Bt, W, Z, N)) (w v : Int32) : CtI E yX3_law cX3_law 4 (some .int) 2 44 [.ref (eA E 0), .int w, .int v] σ (fun rr σ2 => rr = (opLaw (K, L, g, F, tl, Bt, W, Z, N) w v).1 ∧ CR σ2 (opLaw (K, L, g, F, tl, Bt, W, Z, N) w v).2 ∧ FC σ σ2) := by
  obtain ⟨⟨hK, hO⟩, ⟨hg1, hg2, hg3⟩, hFd, ⟨⟨htl, htl2⟩, hBt⟩, hSh⟩ := id hC
  obtain ⟨⟨hn, h12⟩, hpp, hlw, hsp, hz0⟩ := id hO
  refine CtI.of (by decide +kernel) (Nat.le_of_ble_eq_true rfl) (fun p e0 s m below meth c C hr hlk => ?_)
  refine gx_lv (lv' := [(0, .ref (eA E 0)), (1, .int w), (2, .int v)]) rfl ?_
  refine gx_iload_n C dX3_law_0 (by rfl) (by rfl) ?_
  refine gx_iconst (v := 0) C dX3_law_1 (by decide) ?_
  refine gx_iconst (v := 2) C dX3_law_2 (by decide) ?_
  refine gx_callSI (As := [.int w, .int 0, .int 2]) (rest := []) C (c_X3_isWithin E σ w 0 2) z_X3_isWithin (by rfl) ml_X3_44 (by rfl) (Nat.le_of_ble_eq_true rfl) ⟨Nat.le_of_ble_eq_true rfl, Nat.le_of_ble_eq_true rfl⟩ dX3_law_3 (fun r1 σ1 w1 => ?_)
  obtain ⟨u1, u2⟩ := w1; rw [u1, u2]; clear u1 u2
  refine gx_if_eq (tgt := 26) C dX3_law_6 (by decide) (fun h2 => ?_) (fun h2 => ?_)
  ·
    have h2 := b2_z.mp h2
    refine gx_aload_n C dX3_law_26 (by rfl) (by rfl) ?_
    refine gx_ldc C kc_X3_48 dX3_law_27 ?_
    refine gx_callVI (As := [.int (-1000001)]) (rest := []) C (c_X3_found E σ (-1000001) 0 (by decide) (by decide)) z_X3_found ck3 (by rfl) (by rfl) ml_X3_49 (by rfl) (Nat.le_of_ble_eq_true rfl) ⟨Nat.le_of_ble_eq_true rfl, Nat.le_of_ble_eq_true rfl⟩ dX3_law_29 (fun r3 σ3 w3 => ?_)
    obtain ⟨u1, u2⟩ := w3; rw [u1, u2]; clear u1 u2
    exact gx_iret C hr hlk rfl (fin_fd hC (by decide) (by simp only [opLaw, bey, ful, knd, non, sta, mis, siz] <;> grind)) dX3_law_32
  ·
    have h2 := b2_nz.mp h2
    obtain ⟨k, hk, rfl⟩ := i_nat (M := 2) (n := 2) (by decide) h2
    have ck : (nI k).toNatClampNeg = k := nI_clamp (by omega)
    refine gx_iload_n C dX3_law_9 (by rfl) (by rfl) ?_
    refine gx_stat (q := 1) C C.2.2.2.2.2.2.2.2.1.1 fl_X3_75 dX3_law_10 ?_
    refine gx_iload_n C dX3_law_13 (by rfl) (by rfl) ?_
    refine gx_ext (k := k) (v := jLeast.getD k 0) C C.2.2.2.2.2.2.2.2.1.2 rfl (by omega) (by decide) (by rfl) dX3_law_14 ?_
    refine gx_stat (q := 2) C C.2.2.2.2.2.2.2.2.2.1.1 fl_X3_78 dX3_law_15 ?_
    refine gx_iload_n C dX3_law_18 (by rfl) (by rfl) ?_
    refine gx_ext (k := k) (v := jMost.getD k 0) C C.2.2.2.2.2.2.2.2.2.1.2 rfl (by omega) (by decide) (by rfl) dX3_law_19 ?_
    refine gx_callSI (As := [.int v, .int (jLeast.getD k 0), .int (jMost.getD k 0)]) (rest := []) C (c_X3_isWithin E σ v (jLeast.getD k 0) (jMost.getD k 0)) z_X3_isWithin (by rfl) ml_X3_44 (by rfl) (Nat.le_of_ble_eq_true rfl) ⟨Nat.le_of_ble_eq_true rfl, Nat.le_of_ble_eq_true rfl⟩ dX3_law_20 (fun r4 σ4 w4 => ?_)
    obtain ⟨u1, u2⟩ := w4; rw [u1, u2]; clear u1 u2
    refine gx_if_ne (tgt := 33) C dX3_law_23 (by decide) (fun h5 => ?_) (fun h5 => ?_)
    ·
      have h5 := b2_nz.mp h5
      refine gx_aload_n C dX3_law_33 (by rfl) (by rfl) ?_
      refine gx_getr (j := 13) (k := 0) C ck3 (by rfl) (by rfl) (by decide) fl_X3_10 dX3_law_34 ?_
      refine gx_getr (j := 23) (k := 9) C ck0 (by rfl) (by rfl) (by decide) fl_X3_81 dX3_law_37 ?_
      refine gx_iload_n C dX3_law_40 (by rfl) (by rfl) ?_
      refine gx_ialdN (k := k) C (by rfl) rfl (by omega) (by decide) dX3_law_41 ?_
      refine gx_st (st' := [.int (K 9 k)]) (by rw [hK.r9 (p := k) (by omega)]) ?_
      refine gx_istore_n (lv2 := [(3, .int (K 9 k)), (0, .ref (eA E 0)), (1, .int (nI k)), (2, .int v)]) C dX3_law_42 (by rfl) (by decide) rfl ?_
      refine gx_aload_n C dX3_law_43 (by rfl) (by rfl) ?_
      refine gx_getr (j := 13) (k := 0) C ck3 (by rfl) (by rfl) (by decide) fl_X3_10 dX3_law_44 ?_
      refine gx_getr (j := 23) (k := 9) C ck0 (by rfl) (by rfl) (by decide) fl_X3_81 dX3_law_47 ?_
      refine gx_iload_n C dX3_law_50 (by rfl) (by rfl) ?_
      refine gx_iload_n C dX3_law_51 (by rfl) (by rfl) ?_
      refine gx_iastN (k := k) C (by rfl) rfl (by omega) (by decide) dX3_law_52 ?_
      have hK6 := hK.u9 (p := k) (v := v) (by omega)
      refine gx_iload_n C dX3_law_53 (by rfl) (by rfl) ?_
      exact gx_iret C hr hlk rfl (fin_now hC hK6 (hO.laws (p := k) (v := v) (by omega) (fun q => by subst q; simp only [jLeast, jMost, List.getD_cons_zero] at *; grind)) ((Fr.rf).up (by decide) (by decide)) (by simp only [opLaw, bey, ful, knd, non, sta, mis, siz] <;> grind)) dX3_law_54
    ·
      have h5 := b2_z.mp h5
      refine gx_aload_n C dX3_law_26 (by rfl) (by rfl) ?_
      refine gx_ldc C kc_X3_48 dX3_law_27 ?_
      refine gx_callVI (As := [.int (-1000001)]) (rest := []) C (c_X3_found E σ (-1000001) 0 (by decide) (by decide)) z_X3_found ck3 (by rfl) (by rfl) ml_X3_49 (by rfl) (Nat.le_of_ble_eq_true rfl) ⟨Nat.le_of_ble_eq_true rfl, Nat.le_of_ble_eq_true rfl⟩ dX3_law_29 (fun r7 σ7 w7 => ?_)
      obtain ⟨u1, u2⟩ := w7; rw [u1, u2]; clear u1 u2
      exact gx_iret C hr hlk rfl (fin_fd hC (by decide) (by simp only [opLaw, bey, ful, knd, non, sta, mis, siz] <;> grind)) dX3_law_32
set_option maxHeartbeats 4000000 in
set_option maxRecDepth 100000 in
theorem c_X3_person (E : En) (σ : Mm) (K L : Mm) (g : Int32) (F : Nat → Int32) (tl : Int32) (Bt W Z : Nat → Int32) (N : Mm) (hC : CR σ (K, L, g, F, tl, Bt, W, Z, N)) (k r : Int32) : CtI E yX3_person cX3_person 3 (some .int) 4 88 [.ref (eA E 0), .int k, .int r] σ (fun rr σ2 => rr = (opPerson (K, L, g, F, tl, Bt, W, Z, N) k r).1 ∧ CR σ2 (opPerson (K, L, g, F, tl, Bt, W, Z, N) k r).2 ∧ FC σ σ2) := by
  obtain ⟨⟨hK, hO⟩, ⟨hg1, hg2, hg3⟩, hFd, ⟨⟨htl, htl2⟩, hBt⟩, hSh⟩ := id hC
  obtain ⟨⟨hn, h12⟩, hpp, hlw, hsp, hz0⟩ := id hO
  refine CtI.of (by decide +kernel) (Nat.le_of_ble_eq_true rfl) (fun p e0 s m below meth c C hr hlk => ?_)
  refine gx_lv (lv' := [(0, .ref (eA E 0)), (1, .int k), (2, .int r)]) rfl ?_
  refine gx_iload_n C dX3_person_0 (by rfl) (by rfl) ?_
  refine gx_callSI (As := [.int k]) (rest := []) C (c_X3_isKind E σ k) z_X3_isKind (by rfl) ml_X3_84 (by rfl) (Nat.le_of_ble_eq_true rfl) ⟨Nat.le_of_ble_eq_true rfl, Nat.le_of_ble_eq_true rfl⟩ dX3_person_1 (fun r1 σ1 w1 => ?_)
  obtain ⟨u1, u2⟩ := w1; rw [u1, u2]; clear u1 u2
  refine gx_if_eq (tgt := 14) C dX3_person_4 (by decide) (fun h2 => ?_) (fun h2 => ?_)
  ·
    have h2 := b2_z.mp h2
    refine gx_aload_n C dX3_person_14 (by rfl) (by rfl) ?_
    refine gx_ldc C kc_X3_48 dX3_person_15 ?_
    refine gx_callVI (As := [.int (-1000001)]) (rest := []) C (c_X3_found E σ (-1000001) 0 (by decide) (by decide)) z_X3_found ck3 (by rfl) (by rfl) ml_X3_49 (by rfl) (Nat.le_of_ble_eq_true rfl) ⟨Nat.le_of_ble_eq_true rfl, Nat.le_of_ble_eq_true rfl⟩ dX3_person_17 (fun r3 σ3 w3 => ?_)
    obtain ⟨u1, u2⟩ := w3; rw [u1, u2]; clear u1 u2
    exact gx_iret C hr hlk rfl (fin_fd hC (by decide) (by simp only [opPerson, bey, ful, knd, non, sta, mis, siz] <;> grind)) dX3_person_20
  ·
    have h2 := b2_nz.mp h2
    refine gx_iload_n C dX3_person_7 (by rfl) (by rfl) ?_
    refine gx_callSI (As := [.int r]) (rest := []) C (c_X3_isRank E σ r) z_X3_isRank (by rfl) ml_X3_40 (by rfl) (Nat.le_of_ble_eq_true rfl) ⟨Nat.le_of_ble_eq_true rfl, Nat.le_of_ble_eq_true rfl⟩ dX3_person_8 (fun r4 σ4 w4 => ?_)
    obtain ⟨u1, u2⟩ := w4; rw [u1, u2]; clear u1 u2
    refine gx_if_ne (tgt := 21) C dX3_person_11 (by decide) (fun h5 => ?_) (fun h5 => ?_)
    ·
      have h5 := b2_nz.mp h5
      obtain ⟨t, ht, rfl⟩ := r_nat h5
      have ct : (nI t).toNatClampNeg = t := nI_clamp (by omega)
      refine gx_aload_n C dX3_person_21 (by rfl) (by rfl) ?_
      refine gx_getr (j := 13) (k := 0) C ck3 (by rfl) (by rfl) (by decide) fl_X3_10 dX3_person_22 ?_
      refine gx_iload_n C dX3_person_25 (by rfl) (by rfl) ?_
      refine gx_callVI (As := [.int (nI t)]) (rest := []) C (k_X0_hasFree E σ 13 isE_13 K hK hO t (by omega)) z_X0_hasFree ck0 (by rfl) (by rfl) ml_X3_87 (by rfl) (Nat.le_of_ble_eq_true rfl) ⟨Nat.le_of_ble_eq_true rfl, Nat.le_of_ble_eq_true rfl⟩ dX3_person_26 (fun r6 σ6 w6 => ?_)
      obtain ⟨u1, u2⟩ := w6; rw [u1, u2]; clear u1 u2
      refine gx_if_ne (tgt := 39) C dX3_person_29 (by decide) (fun h7 => ?_) (fun h7 => ?_)
      ·
        have h7 := b2_nz.mp h7
        refine gx_aload_n C dX3_person_39 (by rfl) (by rfl) ?_
        refine gx_getr (j := 13) (k := 0) C ck3 (by rfl) (by rfl) (by decide) fl_X3_10 dX3_person_40 ?_
        refine gx_geti (k := 11) C ck0 (by rfl) (by rfl) (by decide) fl_X3_90 dX3_person_43 ?_
        refine gx_st (st' := [.int (nI (nn K))]) (by rw [hK.n, hn]) ?_
        refine gx_bipush (v := 12) C dX3_person_46 (by decide) ?_
        refine gx_icmp_lt (tgt := 58) C dX3_person_48 (by decide) (fun h8 => ?_) (fun h8 => ?_)
        ·
          have h8 := (nI_ltI (a := (nn K)) (b := 12) (by omega) (by omega)).mp h8
          refine gx_aload_n C dX3_person_58 (by rfl) (by rfl) ?_
          refine gx_getr (j := 13) (k := 0) C ck3 (by rfl) (by rfl) (by decide) fl_X3_10 dX3_person_59 ?_
          refine gx_iload_n C dX3_person_62 (by rfl) (by rfl) ?_
          refine gx_iload_n C dX3_person_63 (by rfl) (by rfl) ?_
          refine gx_callVI (As := [.int k, .int (nI t)]) (rest := []) C (c_X0_addOne E σ 13 isE_13 K hK hO (by omega) k (by assumption) t (by omega)) z_X0_addOne ck0 (by rfl) (by rfl) ml_X3_95 (by rfl) (Nat.le_of_ble_eq_true rfl) ⟨Nat.le_of_ble_eq_true rfl, Nat.le_of_ble_eq_true rfl⟩ dX3_person_64 (fun r9 σ9 w9 => ?_)
          obtain ⟨er9, hK9, hF9⟩ := w9
          refine gx_st (st' := [.int (nI (nn K))]) (by rw [er9]) ?_
          exact gx_iret C hr hlk rfl (fin_now hC hK9 ((Ok_nw hO (by omega) (by assumption)).rank (by omega) (rk_rg (by omega))) hF9 (by simp only [opPerson, bey, ful, knd, non, sta, mis, siz] <;> grind)) dX3_person_67
        ·
          have h8 := (not_congr (nI_ltI (a := (nn K)) (b := 12) (by omega) (by omega))).mp h8
          refine gx_aload_n C dX3_person_51 (by rfl) (by rfl) ?_
          refine gx_ldc C kc_X3_94 dX3_person_52 ?_
          refine gx_callVI (As := [.int (-1000002)]) (rest := []) C (c_X3_found E σ (-1000002) 1 (by decide) (by decide)) z_X3_found ck3 (by rfl) (by rfl) ml_X3_49 (by rfl) (Nat.le_of_ble_eq_true rfl) ⟨Nat.le_of_ble_eq_true rfl, Nat.le_of_ble_eq_true rfl⟩ dX3_person_54 (fun r10 σ10 w10 => ?_)
          obtain ⟨u1, u2⟩ := w10; rw [u1, u2]; clear u1 u2
          exact gx_iret C hr hlk rfl (fin_fd hC (by decide) (by simp only [opPerson, bey, ful, knd, non, sta, mis, siz] <;> grind)) dX3_person_57
      ·
        have h7 := b2_z.mp h7
        refine gx_aload_n C dX3_person_32 (by rfl) (by rfl) ?_
        refine gx_ldc C kc_X3_56 dX3_person_33 ?_
        refine gx_callVI (As := [.int (-1000005)]) (rest := []) C (c_X3_found E σ (-1000005) 4 (by decide) (by decide)) z_X3_found ck3 (by rfl) (by rfl) ml_X3_49 (by rfl) (Nat.le_of_ble_eq_true rfl) ⟨Nat.le_of_ble_eq_true rfl, Nat.le_of_ble_eq_true rfl⟩ dX3_person_35 (fun r11 σ11 w11 => ?_)
        obtain ⟨u1, u2⟩ := w11; rw [u1, u2]; clear u1 u2
        exact gx_iret C hr hlk rfl (fin_fd hC (by decide) (by simp only [opPerson, bey, ful, knd, non, sta, mis, siz] <;> grind)) dX3_person_38
    ·
      have h5 := b2_z.mp h5
      refine gx_aload_n C dX3_person_14 (by rfl) (by rfl) ?_
      refine gx_ldc C kc_X3_48 dX3_person_15 ?_
      refine gx_callVI (As := [.int (-1000001)]) (rest := []) C (c_X3_found E σ (-1000001) 0 (by decide) (by decide)) z_X3_found ck3 (by rfl) (by rfl) ml_X3_49 (by rfl) (Nat.le_of_ble_eq_true rfl) ⟨Nat.le_of_ble_eq_true rfl, Nat.le_of_ble_eq_true rfl⟩ dX3_person_17 (fun r12 σ12 w12 => ?_)
      obtain ⟨u1, u2⟩ := w12; rw [u1, u2]; clear u1 u2
      exact gx_iret C hr hlk rfl (fin_fd hC (by decide) (by simp only [opPerson, bey, ful, knd, non, sta, mis, siz] <;> grind)) dX3_person_20
set_option maxHeartbeats 4000000 in
set_option maxRecDepth 100000 in
theorem c_X3_of (E : En) (σ : Mm) (K L : Mm) (g : Int32) (F : Nat → Int32) (tl : Int32) (Bt W Z : Nat → Int32) (N : Mm) (hC : CR σ (K, L, g, F, tl, Bt, W, Z, N)) (q w : Int32) : CtI E yX3_of cX3_of 3 (some .int) 2 44 [.ref (eA E 0), .int q, .int w] σ (fun rr σ2 => rr = (opOf (K, L, g, F, tl, Bt, W, Z, N) q w).1 ∧ CR σ2 (opOf (K, L, g, F, tl, Bt, W, Z, N) q w).2 ∧ FC σ σ2) := by
  obtain ⟨⟨hK, hO⟩, ⟨hg1, hg2, hg3⟩, hFd, ⟨⟨htl, htl2⟩, hBt⟩, hSh⟩ := id hC
  obtain ⟨⟨hn, h12⟩, hpp, hlw, hsp, hz0⟩ := id hO
  refine CtI.of (by decide +kernel) (Nat.le_of_ble_eq_true rfl) (fun p e0 s m below meth c C hr hlk => ?_)
  refine gx_lv (lv' := [(0, .ref (eA E 0)), (1, .int q), (2, .int w)]) rfl ?_
  refine gx_aload_n C dX3_of_0 (by rfl) (by rfl) ?_
  refine gx_getr (j := 13) (k := 0) C ck3 (by rfl) (by rfl) (by decide) fl_X3_10 dX3_of_1 ?_
  refine gx_iload_n C dX3_of_4 (by rfl) (by rfl) ?_
  refine gx_callVI (As := [.int q]) (rest := []) C (k_X0_has E σ 13 isE_13 K hK hO q) z_X0_has ck0 (by rfl) (by rfl) ml_X3_99 (by rfl) (Nat.le_of_ble_eq_true rfl) ⟨Nat.le_of_ble_eq_true rfl, Nat.le_of_ble_eq_true rfl⟩ dX3_of_5 (fun r1 σ1 w1 => ?_)
  obtain ⟨u1, u2⟩ := w1; rw [u1, u2]; clear u1 u2
  refine gx_if_ne (tgt := 18) C dX3_of_8 (by decide) (fun h2 => ?_) (fun h2 => ?_)
  ·
    have h2 := b2_nz.mp h2
    obtain ⟨k, hk, rfl⟩ := has_nat hO h2
    have ck : (nI k).toNatClampNeg = k := nI_clamp (by omega)
    refine gx_iload_n C dX3_of_18 (by rfl) (by rfl) ?_
    rcases sw_split w (0) 6 7 (by decide) with h3 | h3
    ·
      refine gx_tabOut (tgt := 130) C dX3_of_19 h3 (by decide) ?_
      have qd3 : ¬ w = 0 ∧ ¬ w = 1 ∧ ¬ w = 2 ∧ ¬ w = 3 ∧ ¬ w = 4 ∧ ¬ w = 5 ∧ ¬ w = 6 := by refine ⟨?_, ?_, ?_, ?_, ?_, ?_, ?_⟩ <;> (intro q9; rw [q9] at h3; revert h3; decide)
      refine gx_aload_n C dX3_of_130 (by rfl) (by rfl) ?_
      refine gx_ldc C kc_X3_48 dX3_of_131 ?_
      refine gx_callVI (As := [.int (-1000001)]) (rest := []) C (c_X3_found E σ (-1000001) 0 (by decide) (by decide)) z_X3_found ck3 (by rfl) (by rfl) ml_X3_49 (by rfl) (Nat.le_of_ble_eq_true rfl) ⟨Nat.le_of_ble_eq_true rfl, Nat.le_of_ble_eq_true rfl⟩ dX3_of_133 (fun r4 σ4 w4 => ?_)
      obtain ⟨u1, u2⟩ := w4; rw [u1, u2]; clear u1 u2
      exact gx_iret C hr hlk rfl (fin_fd hC (by decide) (by simp only [opOf, bey, ful, knd, non, sta, mis, siz] <;> grind)) dX3_of_136
    ·
      obtain ⟨j3, hj3, ej3⟩ := h3
      have hj3 := hj3
      match j3, hj3, ej3 with
      | 0, _, ej3 =>
        have ex3 : w = (0 : Int32) := ej3.trans (by decide)
        refine gx_tabIn (off := 41) (tgt := 60) C dX3_of_19 (by rw [ex3]; decide) (by rw [ex3]; decide) (by rw [ex3]; decide) (by decide) ?_
        refine gx_aload_n C dX3_of_60 (by rfl) (by rfl) ?_
        refine gx_getr (j := 13) (k := 0) C ck3 (by rfl) (by rfl) (by decide) fl_X3_10 dX3_of_61 ?_
        refine gx_getr (j := 14) (k := 0) C ck0 (by rfl) (by rfl) (by decide) fl_X3_102 dX3_of_64 ?_
        refine gx_iload_n C dX3_of_67 (by rfl) (by rfl) ?_
        refine gx_ialdN (k := k) C (by rfl) rfl (by omega) (by decide) dX3_of_68 ?_
        refine gx_st (st' := [.int (K 1 k)]) (by rw [hK.r1 (p := k) (by omega)]) ?_
        exact gx_iret C hr hlk rfl (fin_rd hC (by simp only [opOf, bey, ful, knd, non, sta, mis, siz] <;> grind)) dX3_of_69
      | 1, _, ej3 =>
        have ex3 : w = (1 : Int32) := ej3.trans (by decide)
        refine gx_tabIn (off := 51) (tgt := 70) C dX3_of_19 (by rw [ex3]; decide) (by rw [ex3]; decide) (by rw [ex3]; decide) (by decide) ?_
        refine gx_aload_n C dX3_of_70 (by rfl) (by rfl) ?_
        refine gx_getr (j := 13) (k := 0) C ck3 (by rfl) (by rfl) (by decide) fl_X3_10 dX3_of_71 ?_
        refine gx_getr (j := 15) (k := 1) C ck0 (by rfl) (by rfl) (by decide) fl_X3_105 dX3_of_74 ?_
        refine gx_iload_n C dX3_of_77 (by rfl) (by rfl) ?_
        refine gx_ialdN (k := k) C (by rfl) rfl (by omega) (by decide) dX3_of_78 ?_
        refine gx_st (st' := [.int (K 2 k)]) (by rw [hK.r2 (p := k) (by omega)]) ?_
        exact gx_iret C hr hlk rfl (fin_rd hC (by simp only [opOf, bey, ful, knd, non, sta, mis, siz] <;> grind)) dX3_of_79
      | 2, _, ej3 =>
        have ex3 : w = (2 : Int32) := ej3.trans (by decide)
        refine gx_tabIn (off := 61) (tgt := 80) C dX3_of_19 (by rw [ex3]; decide) (by rw [ex3]; decide) (by rw [ex3]; decide) (by decide) ?_
        refine gx_aload_n C dX3_of_80 (by rfl) (by rfl) ?_
        refine gx_getr (j := 13) (k := 0) C ck3 (by rfl) (by rfl) (by decide) fl_X3_10 dX3_of_81 ?_
        refine gx_getr (j := 16) (k := 2) C ck0 (by rfl) (by rfl) (by decide) fl_X3_108 dX3_of_84 ?_
        refine gx_iload_n C dX3_of_87 (by rfl) (by rfl) ?_
        refine gx_ialdN (k := k) C (by rfl) rfl (by omega) (by decide) dX3_of_88 ?_
        refine gx_st (st' := [.int (K 3 k)]) (by rw [hK.r3 (p := k) (by omega)]) ?_
        exact gx_iret C hr hlk rfl (fin_rd hC (by simp only [opOf, bey, ful, knd, non, sta, mis, siz] <;> grind)) dX3_of_89
      | 3, _, ej3 =>
        have ex3 : w = (3 : Int32) := ej3.trans (by decide)
        refine gx_tabIn (off := 71) (tgt := 90) C dX3_of_19 (by rw [ex3]; decide) (by rw [ex3]; decide) (by rw [ex3]; decide) (by decide) ?_
        refine gx_aload_n C dX3_of_90 (by rfl) (by rfl) ?_
        refine gx_getr (j := 13) (k := 0) C ck3 (by rfl) (by rfl) (by decide) fl_X3_10 dX3_of_91 ?_
        refine gx_getr (j := 17) (k := 3) C ck0 (by rfl) (by rfl) (by decide) fl_X3_111 dX3_of_94 ?_
        refine gx_iload_n C dX3_of_97 (by rfl) (by rfl) ?_
        refine gx_ialdN (k := k) C (by rfl) rfl (by omega) (by decide) dX3_of_98 ?_
        refine gx_st (st' := [.int (K 4 k)]) (by rw [hK.r4 (p := k) (by omega)]) ?_
        exact gx_iret C hr hlk rfl (fin_rd hC (by simp only [opOf, bey, ful, knd, non, sta, mis, siz] <;> grind)) dX3_of_99
      | 4, _, ej3 =>
        have ex3 : w = (4 : Int32) := ej3.trans (by decide)
        refine gx_tabIn (off := 81) (tgt := 100) C dX3_of_19 (by rw [ex3]; decide) (by rw [ex3]; decide) (by rw [ex3]; decide) (by decide) ?_
        refine gx_aload_n C dX3_of_100 (by rfl) (by rfl) ?_
        refine gx_getr (j := 13) (k := 0) C ck3 (by rfl) (by rfl) (by decide) fl_X3_10 dX3_of_101 ?_
        refine gx_getr (j := 18) (k := 4) C ck0 (by rfl) (by rfl) (by decide) fl_X3_114 dX3_of_104 ?_
        refine gx_iload_n C dX3_of_107 (by rfl) (by rfl) ?_
        refine gx_ialdN (k := k) C (by rfl) rfl (by omega) (by decide) dX3_of_108 ?_
        refine gx_st (st' := [.int (K 5 k)]) (by rw [hK.r5 (p := k) (by omega)]) ?_
        exact gx_iret C hr hlk rfl (fin_rd hC (by simp only [opOf, bey, ful, knd, non, sta, mis, siz] <;> grind)) dX3_of_109
      | 5, _, ej3 =>
        have ex3 : w = (5 : Int32) := ej3.trans (by decide)
        refine gx_tabIn (off := 91) (tgt := 110) C dX3_of_19 (by rw [ex3]; decide) (by rw [ex3]; decide) (by rw [ex3]; decide) (by decide) ?_
        refine gx_aload_n C dX3_of_110 (by rfl) (by rfl) ?_
        refine gx_getr (j := 13) (k := 0) C ck3 (by rfl) (by rfl) (by decide) fl_X3_10 dX3_of_111 ?_
        refine gx_getr (j := 19) (k := 5) C ck0 (by rfl) (by rfl) (by decide) fl_X3_117 dX3_of_114 ?_
        refine gx_iload_n C dX3_of_117 (by rfl) (by rfl) ?_
        refine gx_ialdN (k := k) C (by rfl) rfl (by omega) (by decide) dX3_of_118 ?_
        refine gx_st (st' := [.int (K 6 k)]) (by rw [hK.r6 (p := k) (by omega)]) ?_
        exact gx_iret C hr hlk rfl (fin_rd hC (by simp only [opOf, bey, ful, knd, non, sta, mis, siz] <;> grind)) dX3_of_119
      | 6, _, ej3 =>
        have ex3 : w = (6 : Int32) := ej3.trans (by decide)
        refine gx_tabIn (off := 101) (tgt := 120) C dX3_of_19 (by rw [ex3]; decide) (by rw [ex3]; decide) (by rw [ex3]; decide) (by decide) ?_
        refine gx_aload_n C dX3_of_120 (by rfl) (by rfl) ?_
        refine gx_getr (j := 13) (k := 0) C ck3 (by rfl) (by rfl) (by decide) fl_X3_10 dX3_of_121 ?_
        refine gx_getr (j := 20) (k := 6) C ck0 (by rfl) (by rfl) (by decide) fl_X3_120 dX3_of_124 ?_
        refine gx_iload_n C dX3_of_127 (by rfl) (by rfl) ?_
        refine gx_ialdN (k := k) C (by rfl) rfl (by omega) (by decide) dX3_of_128 ?_
        refine gx_st (st' := [.int (K 7 k)]) (by rw [hK.r7 (p := k) (by omega)]) ?_
        exact gx_iret C hr hlk rfl (fin_rd hC (by simp only [opOf, bey, ful, knd, non, sta, mis, siz] <;> grind)) dX3_of_129
      | j + 7, hj, _ => exact absurd hj (by omega)
  ·
    have h2 := b2_z.mp h2
    refine gx_aload_n C dX3_of_11 (by rfl) (by rfl) ?_
    refine gx_ldc C kc_X3_48 dX3_of_12 ?_
    refine gx_callVI (As := [.int (-1000001)]) (rest := []) C (c_X3_found E σ (-1000001) 0 (by decide) (by decide)) z_X3_found ck3 (by rfl) (by rfl) ml_X3_49 (by rfl) (Nat.le_of_ble_eq_true rfl) ⟨Nat.le_of_ble_eq_true rfl, Nat.le_of_ble_eq_true rfl⟩ dX3_of_14 (fun r5 σ5 w5 => ?_)
    obtain ⟨u1, u2⟩ := w5; rw [u1, u2]; clear u1 u2
    exact gx_iret C hr hlk rfl (fin_fd hC (by decide) (by simp only [opOf, bey, ful, knd, non, sta, mis, siz] <;> grind)) dX3_of_17
set_option maxHeartbeats 4000000 in
set_option maxRecDepth 100000 in
theorem c_X3_replaced (E : En) (σ : Mm) (cx : Nat) (hcx : sh cx = .inl 12) (k : Nat) (hk : k < 12) (v mm : Int32) : CtI E yX3_replaced cX3_replaced 6 (some .int) 2 44 [.ref (eA E 0), .ref (eA E cx), .int (nI k), .int v, .int mm] σ (fun rr σ2 => (0 ≤ v ∧ v ≤ mm → σ2 = up2 σ cx k v ∧ rr = σ cx k) ∧ (¬ (0 ≤ v ∧ v ≤ mm) → σ2 = up2 σ 1 0 (σ 1 0 + 1) ∧ rr = -1000001)) := by
  refine CtI.of (by decide +kernel) (Nat.le_of_ble_eq_true rfl) (fun p e0 s m below meth c C hr hlk => ?_)
  refine gx_lv (lv' := [(0, .ref (eA E 0)), (1, .ref (eA E cx)), (2, .int (nI k)), (3, .int v), (4, .int mm)]) rfl ?_
  refine gx_iload_n C dX3_replaced_0 (by rfl) (by rfl) ?_
  refine gx_iconst (v := 0) C dX3_replaced_1 (by decide) ?_
  refine gx_iload C dX3_replaced_2 (by rfl) ?_
  refine gx_callSI (As := [.int v, .int 0, .int mm]) (rest := []) C (c_X3_isWithin E σ v 0 mm) z_X3_isWithin (by rfl) ml_X3_44 (by rfl) (Nat.le_of_ble_eq_true rfl) ⟨Nat.le_of_ble_eq_true rfl, Nat.le_of_ble_eq_true rfl⟩ dX3_replaced_4 (fun r1 σ1 w1 => ?_)
  obtain ⟨u1, u2⟩ := w1; rw [u1, u2]; clear u1 u2
  refine gx_if_ne (tgt := 17) C dX3_replaced_7 (by decide) (fun h2 => ?_) (fun h2 => ?_)
  ·
    have h2 := b2_nz.mp h2
    refine gx_aload_n C dX3_replaced_17 (by rfl) (by rfl) ?_
    refine gx_iload_n C dX3_replaced_18 (by rfl) (by rfl) ?_
    refine gx_ialdN (k := k) C hcx rfl (by omega) (by decide) dX3_replaced_19 ?_
    refine gx_istore (lv2 := [(5, .int (σ cx k)), (0, .ref (eA E 0)), (1, .ref (eA E cx)), (2, .int (nI k)), (3, .int v), (4, .int mm)]) C dX3_replaced_20 (by decide) rfl ?_
    refine gx_aload_n C dX3_replaced_22 (by rfl) (by rfl) ?_
    refine gx_iload_n C dX3_replaced_23 (by rfl) (by rfl) ?_
    refine gx_iload_n C dX3_replaced_24 (by rfl) (by rfl) ?_
    refine gx_iastN (k := k) C hcx rfl (by omega) (by decide) dX3_replaced_25 ?_
    refine gx_iload C dX3_replaced_26 (by rfl) ?_
    exact gx_iret C hr hlk rfl ⟨fun q9 => by first | exact ⟨rfl, rfl⟩ | exact absurd q9 (by assumption), fun q9 => by first | exact ⟨rfl, rfl⟩ | exact absurd (by assumption) q9⟩ dX3_replaced_28
  ·
    have h2 := b2_z.mp h2
    refine gx_aload_n C dX3_replaced_10 (by rfl) (by rfl) ?_
    refine gx_ldc C kc_X3_48 dX3_replaced_11 ?_
    refine gx_callVI (As := [.int (-1000001)]) (rest := []) C (c_X3_found E σ (-1000001) 0 (by decide) (by decide)) z_X3_found ck3 (by rfl) (by rfl) ml_X3_49 (by rfl) (Nat.le_of_ble_eq_true rfl) ⟨Nat.le_of_ble_eq_true rfl, Nat.le_of_ble_eq_true rfl⟩ dX3_replaced_13 (fun r3 σ3 w3 => ?_)
    obtain ⟨u1, u2⟩ := w3; rw [u1, u2]; clear u1 u2
    exact gx_iret C hr hlk rfl ⟨fun q9 => by first | exact ⟨rfl, rfl⟩ | exact absurd q9 (by assumption), fun q9 => by first | exact ⟨rfl, rfl⟩ | exact absurd (by assumption) q9⟩ dX3_replaced_16
set_option maxHeartbeats 4000000 in
set_option maxRecDepth 100000 in
theorem c_X3_change (E : En) (σ : Mm) (K L : Mm) (g : Int32) (F : Nat → Int32) (tl : Int32) (Bt W Z : Nat → Int32) (N : Mm) (hC : CR σ (K, L, g, F, tl, Bt, W, Z, N)) (q w v : Int32) : CtI E yX3_change cX3_change 4 (some .int) 3 69 [.ref (eA E 0), .int q, .int w, .int v] σ (fun rr σ2 => rr = (opChange (K, L, g, F, tl, Bt, W, Z, N) q w v).1 ∧ CR σ2 (opChange (K, L, g, F, tl, Bt, W, Z, N) q w v).2 ∧ FC σ σ2) := by
  obtain ⟨⟨hK, hO⟩, ⟨hg1, hg2, hg3⟩, hFd, ⟨⟨htl, htl2⟩, hBt⟩, hSh⟩ := id hC
  obtain ⟨⟨hn, h12⟩, hpp, hlw, hsp, hz0⟩ := id hO
  refine CtI.of (by decide +kernel) (Nat.le_of_ble_eq_true rfl) (fun p e0 s m below meth c C hr hlk => ?_)
  refine gx_lv (lv' := [(0, .ref (eA E 0)), (1, .int q), (2, .int w), (3, .int v)]) rfl ?_
  refine gx_aload_n C dX3_change_0 (by rfl) (by rfl) ?_
  refine gx_getr (j := 13) (k := 0) C ck3 (by rfl) (by rfl) (by decide) fl_X3_10 dX3_change_1 ?_
  refine gx_iload_n C dX3_change_4 (by rfl) (by rfl) ?_
  refine gx_callVI (As := [.int q]) (rest := []) C (k_X0_has E σ 13 isE_13 K hK hO q) z_X0_has ck0 (by rfl) (by rfl) ml_X3_99 (by rfl) (Nat.le_of_ble_eq_true rfl) ⟨Nat.le_of_ble_eq_true rfl, Nat.le_of_ble_eq_true rfl⟩ dX3_change_5 (fun r1 σ1 w1 => ?_)
  obtain ⟨u1, u2⟩ := w1; rw [u1, u2]; clear u1 u2
  refine gx_if_ne (tgt := 18) C dX3_change_8 (by decide) (fun h2 => ?_) (fun h2 => ?_)
  ·
    have h2 := b2_nz.mp h2
    obtain ⟨k, hk, rfl⟩ := has_nat hO h2
    have ck : (nI k).toNatClampNeg = k := nI_clamp (by omega)
    refine gx_iload_n C dX3_change_18 (by rfl) (by rfl) ?_
    rcases sw_split w (0) 4 5 (by decide) with h3 | h3
    ·
      refine gx_tabOut (tgt := 116) C dX3_change_19 h3 (by decide) ?_
      have qd3 : ¬ w = 0 ∧ ¬ w = 1 ∧ ¬ w = 2 ∧ ¬ w = 3 ∧ ¬ w = 4 := by refine ⟨?_, ?_, ?_, ?_, ?_⟩ <;> (intro q9; rw [q9] at h3; revert h3; decide)
      refine gx_aload_n C dX3_change_116 (by rfl) (by rfl) ?_
      refine gx_ldc C kc_X3_48 dX3_change_117 ?_
      refine gx_callVI (As := [.int (-1000001)]) (rest := []) C (c_X3_found E σ (-1000001) 0 (by decide) (by decide)) z_X3_found ck3 (by rfl) (by rfl) ml_X3_49 (by rfl) (Nat.le_of_ble_eq_true rfl) ⟨Nat.le_of_ble_eq_true rfl, Nat.le_of_ble_eq_true rfl⟩ dX3_change_119 (fun r4 σ4 w4 => ?_)
      obtain ⟨u1, u2⟩ := w4; rw [u1, u2]; clear u1 u2
      exact gx_iret C hr hlk rfl (fin_fd hC (by decide) (by simp only [opChange, bey, ful, knd, non, sta, mis, siz] <;> grind)) dX3_change_122
    ·
      obtain ⟨j3, hj3, ej3⟩ := h3
      have hj3 := hj3
      match j3, hj3, ej3 with
      | 0, _, ej3 =>
        have ex3 : w = (0 : Int32) := ej3.trans (by decide)
        refine gx_tabIn (off := 33) (tgt := 52) C dX3_change_19 (by rw [ex3]; decide) (by rw [ex3]; decide) (by rw [ex3]; decide) (by decide) ?_
        refine gx_aload_n C dX3_change_52 (by rfl) (by rfl) ?_
        refine gx_aload_n C dX3_change_53 (by rfl) (by rfl) ?_
        refine gx_getr (j := 13) (k := 0) C ck3 (by rfl) (by rfl) (by decide) fl_X3_10 dX3_change_54 ?_
        refine gx_getr (j := 14) (k := 0) C ck0 (by rfl) (by rfl) (by decide) fl_X3_102 dX3_change_57 ?_
        refine gx_iload_n C dX3_change_60 (by rfl) (by rfl) ?_
        refine gx_iload_n C dX3_change_61 (by rfl) (by rfl) ?_
        refine gx_bipush (v := 6) C dX3_change_62 (by decide) ?_
        refine gx_callVI (As := [.ref (eA E 14), .int (nI k), .int v, .int 6]) (rest := []) C (c_X3_replaced E σ 14 (by rfl) k (by omega) v 6) z_X3_replaced ck3 (by rfl) (by rfl) ml_X3_123 (by rfl) (Nat.le_of_ble_eq_true rfl) ⟨Nat.le_of_ble_eq_true rfl, Nat.le_of_ble_eq_true rfl⟩ dX3_change_64 (fun r5 σ5 w5 => ?_)
        by_cases hv : 0 ≤ v ∧ v ≤ 6
        ·
          obtain ⟨u1, u2⟩ := w5.1 hv; rw [u1, u2, hK.r1 (p := k) (by omega)]; clear u1 u2
          have hK5 := hK.u1 (p := k) (v := v) (by omega)
          exact gx_iret C hr hlk rfl (fin_now hC hK5 (hO.kind (p := k) (v := v) (by omega) hv) (by intro i hi; simp only [up2]; grind) (by simp only [opChange, bey, ful, knd, non, sta, mis, siz] <;> grind)) dX3_change_67
        ·
          obtain ⟨u1, u2⟩ := w5.2 hv; rw [u1, u2]; clear u1 u2
          exact gx_iret C hr hlk rfl (fin_fd hC (by decide) (by simp only [opChange, bey, ful, knd, non, sta, mis, siz] <;> grind)) dX3_change_67
      | 1, _, ej3 =>
        have ex3 : w = (1 : Int32) := ej3.trans (by decide)
        refine gx_tabIn (off := 97) (tgt := 116) C dX3_change_19 (by rw [ex3]; decide) (by rw [ex3]; decide) (by rw [ex3]; decide) (by decide) ?_
        refine gx_aload_n C dX3_change_116 (by rfl) (by rfl) ?_
        refine gx_ldc C kc_X3_48 dX3_change_117 ?_
        refine gx_callVI (As := [.int (-1000001)]) (rest := []) C (c_X3_found E σ (-1000001) 0 (by decide) (by decide)) z_X3_found ck3 (by rfl) (by rfl) ml_X3_49 (by rfl) (Nat.le_of_ble_eq_true rfl) ⟨Nat.le_of_ble_eq_true rfl, Nat.le_of_ble_eq_true rfl⟩ dX3_change_119 (fun r6 σ6 w6 => ?_)
        obtain ⟨u1, u2⟩ := w6; rw [u1, u2]; clear u1 u2
        exact gx_iret C hr hlk rfl (fin_fd hC (by decide) (by simp only [opChange, bey, ful, knd, non, sta, mis, siz] <;> grind)) dX3_change_122
      | 2, _, ej3 =>
        have ex3 : w = (2 : Int32) := ej3.trans (by decide)
        refine gx_tabIn (off := 49) (tgt := 68) C dX3_change_19 (by rw [ex3]; decide) (by rw [ex3]; decide) (by rw [ex3]; decide) (by decide) ?_
        refine gx_aload_n C dX3_change_68 (by rfl) (by rfl) ?_
        refine gx_aload_n C dX3_change_69 (by rfl) (by rfl) ?_
        refine gx_getr (j := 13) (k := 0) C ck3 (by rfl) (by rfl) (by decide) fl_X3_10 dX3_change_70 ?_
        refine gx_getr (j := 16) (k := 2) C ck0 (by rfl) (by rfl) (by decide) fl_X3_108 dX3_change_73 ?_
        refine gx_iload_n C dX3_change_76 (by rfl) (by rfl) ?_
        refine gx_iload_n C dX3_change_77 (by rfl) (by rfl) ?_
        refine gx_bipush (v := 99) C dX3_change_78 (by decide) ?_
        refine gx_callVI (As := [.ref (eA E 16), .int (nI k), .int v, .int 99]) (rest := []) C (c_X3_replaced E σ 16 (by rfl) k (by omega) v 99) z_X3_replaced ck3 (by rfl) (by rfl) ml_X3_123 (by rfl) (Nat.le_of_ble_eq_true rfl) ⟨Nat.le_of_ble_eq_true rfl, Nat.le_of_ble_eq_true rfl⟩ dX3_change_80 (fun r7 σ7 w7 => ?_)
        by_cases hv : 0 ≤ v ∧ v ≤ 99
        ·
          obtain ⟨u1, u2⟩ := w7.1 hv; rw [u1, u2, hK.r3 (p := k) (by omega)]; clear u1 u2
          have hK7 := hK.u3 (p := k) (v := v) (by omega)
          exact gx_iret C hr hlk rfl (fin_now hC hK7 (hO.age (p := k) (v := v) (by omega) hv) (by intro i hi; simp only [up2]; grind) (by simp only [opChange, bey, ful, knd, non, sta, mis, siz] <;> grind)) dX3_change_83
        ·
          obtain ⟨u1, u2⟩ := w7.2 hv; rw [u1, u2]; clear u1 u2
          exact gx_iret C hr hlk rfl (fin_fd hC (by decide) (by simp only [opChange, bey, ful, knd, non, sta, mis, siz] <;> grind)) dX3_change_83
      | 3, _, ej3 =>
        have ex3 : w = (3 : Int32) := ej3.trans (by decide)
        refine gx_tabIn (off := 65) (tgt := 84) C dX3_change_19 (by rw [ex3]; decide) (by rw [ex3]; decide) (by rw [ex3]; decide) (by decide) ?_
        refine gx_aload_n C dX3_change_84 (by rfl) (by rfl) ?_
        refine gx_aload_n C dX3_change_85 (by rfl) (by rfl) ?_
        refine gx_getr (j := 13) (k := 0) C ck3 (by rfl) (by rfl) (by decide) fl_X3_10 dX3_change_86 ?_
        refine gx_getr (j := 17) (k := 3) C ck0 (by rfl) (by rfl) (by decide) fl_X3_111 dX3_change_89 ?_
        refine gx_iload_n C dX3_change_92 (by rfl) (by rfl) ?_
        refine gx_iload_n C dX3_change_93 (by rfl) (by rfl) ?_
        refine gx_iconst (v := 3) C dX3_change_94 (by decide) ?_
        refine gx_callVI (As := [.ref (eA E 17), .int (nI k), .int v, .int 3]) (rest := []) C (c_X3_replaced E σ 17 (by rfl) k (by omega) v 3) z_X3_replaced ck3 (by rfl) (by rfl) ml_X3_123 (by rfl) (Nat.le_of_ble_eq_true rfl) ⟨Nat.le_of_ble_eq_true rfl, Nat.le_of_ble_eq_true rfl⟩ dX3_change_95 (fun r8 σ8 w8 => ?_)
        by_cases hv : 0 ≤ v ∧ v ≤ 3
        ·
          obtain ⟨u1, u2⟩ := w8.1 hv; rw [u1, u2, hK.r4 (p := k) (by omega)]; clear u1 u2
          have hK8 := hK.u4 (p := k) (v := v) (by omega)
          exact gx_iret C hr hlk rfl (fin_now hC hK8 (hO.house (p := k) (v := v) (by omega)) (by intro i hi; simp only [up2]; grind) (by simp only [opChange, bey, ful, knd, non, sta, mis, siz] <;> grind)) dX3_change_98
        ·
          obtain ⟨u1, u2⟩ := w8.2 hv; rw [u1, u2]; clear u1 u2
          exact gx_iret C hr hlk rfl (fin_fd hC (by decide) (by simp only [opChange, bey, ful, knd, non, sta, mis, siz] <;> grind)) dX3_change_98
      | 4, _, ej3 =>
        have ex3 : w = (4 : Int32) := ej3.trans (by decide)
        refine gx_tabIn (off := 80) (tgt := 99) C dX3_change_19 (by rw [ex3]; decide) (by rw [ex3]; decide) (by rw [ex3]; decide) (by decide) ?_
        refine gx_aload_n C dX3_change_99 (by rfl) (by rfl) ?_
        refine gx_aload_n C dX3_change_100 (by rfl) (by rfl) ?_
        refine gx_getr (j := 13) (k := 0) C ck3 (by rfl) (by rfl) (by decide) fl_X3_10 dX3_change_101 ?_
        refine gx_getr (j := 18) (k := 4) C ck0 (by rfl) (by rfl) (by decide) fl_X3_114 dX3_change_104 ?_
        refine gx_iload_n C dX3_change_107 (by rfl) (by rfl) ?_
        refine gx_iload_n C dX3_change_108 (by rfl) (by rfl) ?_
        refine gx_sipush (v := 9999) C dX3_change_109 (by decide) ?_
        refine gx_callVI (As := [.ref (eA E 18), .int (nI k), .int v, .int 9999]) (rest := []) C (c_X3_replaced E σ 18 (by rfl) k (by omega) v 9999) z_X3_replaced ck3 (by rfl) (by rfl) ml_X3_123 (by rfl) (Nat.le_of_ble_eq_true rfl) ⟨Nat.le_of_ble_eq_true rfl, Nat.le_of_ble_eq_true rfl⟩ dX3_change_112 (fun r9 σ9 w9 => ?_)
        by_cases hv : 0 ≤ v ∧ v ≤ 9999
        ·
          obtain ⟨u1, u2⟩ := w9.1 hv; rw [u1, u2, hK.r5 (p := k) (by omega)]; clear u1 u2
          have hK9 := hK.u5 (p := k) (v := v) (by omega)
          exact gx_iret C hr hlk rfl (fin_now hC hK9 (hO.gold (p := k) (v := v) (by omega) hv) (by intro i hi; simp only [up2]; grind) (by simp only [opChange, bey, ful, knd, non, sta, mis, siz] <;> grind)) dX3_change_115
        ·
          obtain ⟨u1, u2⟩ := w9.2 hv; rw [u1, u2]; clear u1 u2
          exact gx_iret C hr hlk rfl (fin_fd hC (by decide) (by simp only [opChange, bey, ful, knd, non, sta, mis, siz] <;> grind)) dX3_change_115
      | j + 5, hj, _ => exact absurd hj (by omega)
  ·
    have h2 := b2_z.mp h2
    refine gx_aload_n C dX3_change_11 (by rfl) (by rfl) ?_
    refine gx_ldc C kc_X3_48 dX3_change_12 ?_
    refine gx_callVI (As := [.int (-1000001)]) (rest := []) C (c_X3_found E σ (-1000001) 0 (by decide) (by decide)) z_X3_found ck3 (by rfl) (by rfl) ml_X3_49 (by rfl) (Nat.le_of_ble_eq_true rfl) ⟨Nat.le_of_ble_eq_true rfl, Nat.le_of_ble_eq_true rfl⟩ dX3_change_14 (fun r10 σ10 w10 => ?_)
    obtain ⟨u1, u2⟩ := w10; rw [u1, u2]; clear u1 u2
    exact gx_iret C hr hlk rfl (fin_fd hC (by decide) (by simp only [opChange, bey, ful, knd, non, sta, mis, siz] <;> grind)) dX3_change_17
theorem q_rg {K : Mm} (hO : Ok K) {q : Int32} (h : q = -1 ∨ (0 ≤ q ∧ q < K 0 0)) : -1 ≤ q ∧ q < K 0 0 := by
  rcases h with rfl | h
  · refine ⟨by decide, ?_⟩
    rw [hO.1.1]
    have := hO.1.2
    exact Int32.lt_of_lt_of_le (by decide) (nI_pos' (by omega))
  · exact ⟨Int32.le_trans (by decide) h.1, h.2⟩
theorem nI_has {K : Mm} (hO : Ok K) {k : Nat} (h : k < nn K) : 0 ≤ nI k ∧ nI k < K 0 0 := by
  have h12 := hO.1.2
  exact ⟨nI_pos' (by omega), by rw [hO.1.1]; exact nI_lt h (by omega)⟩
theorem Ok_tk {K : Mm} (hO : Ok K) {q g : Nat} {v : Int32} (hq : q < nn K) (hg : g < nn K) (hv : 0 ≤ v ∧ v ≤ 9999) (h1 : v ≤ K 5 g) (h2 : K 5 q + v ≤ 9999) : Ok (tkK K q g v) := by
  have h12 := hO.1.2
  obtain ⟨x, hx, ex⟩ := i_nat (M := 9999) (n := 9999) (by decide) (hO.2.1 g hg).2.2.2.1
  obtain ⟨y, hy, ey⟩ := i_nat (M := 9999) (n := 9999) (by decide) (hO.2.1 q hq).2.2.2.1
  obtain ⟨t, ht, rfl⟩ := i_nat (M := 9999) (n := 9999) (by decide) hv
  rw [ex] at h1
  have h1' : t ≤ x := (nI_leI (by omega) (by omega)).mp h1
  rw [ey, nI_add] at h2
  have h2' : y + t ≤ 9999 := (nI_leI (b := 9999) (by omega) (by omega)).mp h2
  have e1 : K 5 g - nI t = nI (x - t) := by rw [ex, pk_sub h1']
  unfold tkK
  refine Ok.gift (Ok.gold (hO.gold (by omega) ?_) (by omega) ?_) (by omega)
  · rw [e1]; exact nI_rg (n := 9999) (by omega) (by omega)
  · rw [e1, up2_up]
    split
    · rw [nI_add]; exact nI_rg (n := 9999) (by omega) (by omega)
    · rw [ey, nI_add]; exact nI_rg (n := 9999) (by omega) (by omega)
set_option maxHeartbeats 4000000 in
set_option maxRecDepth 100000 in
theorem c_X3_grudge (E : En) (σ : Mm) (K L : Mm) (g : Int32) (F : Nat → Int32) (tl : Int32) (Bt W Z : Nat → Int32) (N : Mm) (hC : CR σ (K, L, g, F, tl, Bt, W, Z, N)) (q t : Int32) : CtI E yX3_grudge cX3_grudge 4 (some .int) 2 44 [.ref (eA E 0), .int q, .int t] σ (fun rr σ2 => rr = (opGrudge (K, L, g, F, tl, Bt, W, Z, N) q t).1 ∧ CR σ2 (opGrudge (K, L, g, F, tl, Bt, W, Z, N) q t).2 ∧ FC σ σ2) := by
  obtain ⟨⟨hK, hO⟩, ⟨hg1, hg2, hg3⟩, hFd, ⟨⟨htl, htl2⟩, hBt⟩, hSh⟩ := id hC
  obtain ⟨⟨hn, h12⟩, hpp, hlw, hsp, hz0⟩ := id hO
  refine CtI.of (by decide +kernel) (Nat.le_of_ble_eq_true rfl) (fun p e0 s m below meth c C hr hlk => ?_)
  refine gx_lv (lv' := [(0, .ref (eA E 0)), (1, .int q), (2, .int t)]) rfl ?_
  refine gx_aload_n C dX3_grudge_0 (by rfl) (by rfl) ?_
  refine gx_getr (j := 13) (k := 0) C ck3 (by rfl) (by rfl) (by decide) fl_X3_10 dX3_grudge_1 ?_
  refine gx_iload_n C dX3_grudge_4 (by rfl) (by rfl) ?_
  refine gx_callVI (As := [.int q]) (rest := []) C (k_X0_has E σ 13 isE_13 K hK hO q) z_X0_has ck0 (by rfl) (by rfl) ml_X3_99 (by rfl) (Nat.le_of_ble_eq_true rfl) ⟨Nat.le_of_ble_eq_true rfl, Nat.le_of_ble_eq_true rfl⟩ dX3_grudge_5 (fun r1 σ1 w1 => ?_)
  obtain ⟨u1, u2⟩ := w1; rw [u1, u2]; clear u1 u2
  refine gx_if_eq (tgt := 27) C dX3_grudge_8 (by decide) (fun h2 => ?_) (fun h2 => ?_)
  ·
    have h2 := b2_z.mp h2
    refine gx_aload_n C dX3_grudge_27 (by rfl) (by rfl) ?_
    refine gx_ldc C kc_X3_48 dX3_grudge_28 ?_
    refine gx_callVI (As := [.int (-1000001)]) (rest := []) C (c_X3_found E σ (-1000001) 0 (by decide) (by decide)) z_X3_found ck3 (by rfl) (by rfl) ml_X3_49 (by rfl) (Nat.le_of_ble_eq_true rfl) ⟨Nat.le_of_ble_eq_true rfl, Nat.le_of_ble_eq_true rfl⟩ dX3_grudge_30 (fun r3 σ3 w3 => ?_)
    obtain ⟨u1, u2⟩ := w3; rw [u1, u2]; clear u1 u2
    exact gx_iret C hr hlk rfl (fin_fd hC (by decide) (by simp only [opGrudge, bey, ful, knd, non, sta, mis, siz] <;> grind)) dX3_grudge_33
  ·
    have h2 := b2_nz.mp h2
    obtain ⟨k, hk, rfl⟩ := has_nat hO h2
    have ck : (nI k).toNatClampNeg = k := nI_clamp (by omega)
    refine gx_aload_n C dX3_grudge_11 (by rfl) (by rfl) ?_
    refine gx_getr (j := 13) (k := 0) C ck3 (by rfl) (by rfl) (by decide) fl_X3_10 dX3_grudge_12 ?_
    refine gx_iload_n C dX3_grudge_15 (by rfl) (by rfl) ?_
    refine gx_callVI (As := [.int t]) (rest := []) C (k_X0_hasOrNobody E σ 13 isE_13 K hK hO t) z_X0_hasOrNobody ck0 (by rfl) (by rfl) ml_X3_127 (by rfl) (Nat.le_of_ble_eq_true rfl) ⟨Nat.le_of_ble_eq_true rfl, Nat.le_of_ble_eq_true rfl⟩ dX3_grudge_16 (fun r4 σ4 w4 => ?_)
    obtain ⟨u1, u2⟩ := w4; rw [u1, u2]; clear u1 u2
    refine gx_if_eq (tgt := 27) C dX3_grudge_19 (by decide) (fun h5 => ?_) (fun h5 => ?_)
    ·
      have h5 := b2_z.mp h5
      refine gx_aload_n C dX3_grudge_27 (by rfl) (by rfl) ?_
      refine gx_ldc C kc_X3_48 dX3_grudge_28 ?_
      refine gx_callVI (As := [.int (-1000001)]) (rest := []) C (c_X3_found E σ (-1000001) 0 (by decide) (by decide)) z_X3_found ck3 (by rfl) (by rfl) ml_X3_49 (by rfl) (Nat.le_of_ble_eq_true rfl) ⟨Nat.le_of_ble_eq_true rfl, Nat.le_of_ble_eq_true rfl⟩ dX3_grudge_30 (fun r6 σ6 w6 => ?_)
      obtain ⟨u1, u2⟩ := w6; rw [u1, u2]; clear u1 u2
      exact gx_iret C hr hlk rfl (fin_fd hC (by decide) (by simp only [opGrudge, bey, ful, knd, non, sta, mis, siz] <;> grind)) dX3_grudge_33
    ·
      have h5 := b2_nz.mp h5
      refine gx_iload_n C dX3_grudge_22 (by rfl) (by rfl) ?_
      refine gx_iload_n C dX3_grudge_23 (by rfl) (by rfl) ?_
      refine gx_icmp_ne (tgt := 34) C dX3_grudge_24 (by decide) (fun h7 => ?_) (fun h7 => ?_)
      ·
        refine gx_aload_n C dX3_grudge_34 (by rfl) (by rfl) ?_
        refine gx_getr (j := 13) (k := 0) C ck3 (by rfl) (by rfl) (by decide) fl_X3_10 dX3_grudge_35 ?_
        refine gx_getr (j := 19) (k := 5) C ck0 (by rfl) (by rfl) (by decide) fl_X3_117 dX3_grudge_38 ?_
        refine gx_iload_n C dX3_grudge_41 (by rfl) (by rfl) ?_
        refine gx_ialdN (k := k) C (by rfl) rfl (by omega) (by decide) dX3_grudge_42 ?_
        refine gx_st (st' := [.int (K 6 k)]) (by rw [hK.r6 (p := k) (by omega)]) ?_
        refine gx_istore_n (lv2 := [(3, .int (K 6 k)), (0, .ref (eA E 0)), (1, .int (nI k)), (2, .int t)]) C dX3_grudge_43 (by rfl) (by decide) rfl ?_
        refine gx_aload_n C dX3_grudge_44 (by rfl) (by rfl) ?_
        refine gx_getr (j := 13) (k := 0) C ck3 (by rfl) (by rfl) (by decide) fl_X3_10 dX3_grudge_45 ?_
        refine gx_iload_n C dX3_grudge_48 (by rfl) (by rfl) ?_
        refine gx_iload_n C dX3_grudge_49 (by rfl) (by rfl) ?_
        refine gx_callVV (As := [.int (nI k), .int t]) (rest := []) C (c_X0_resent E σ 13 isE_13 k (by omega) t) z_X0_resent ck0 (by rfl) (by rfl) ml_X3_130 (by rfl) (Nat.le_of_ble_eq_true rfl) ⟨Nat.le_of_ble_eq_true rfl, Nat.le_of_ble_eq_true rfl⟩ dX3_grudge_50 (fun σ8 w8 => ?_)
        have hK8 : Emp σ8 13 (up2 (up2 K 6 k t) 7 k 0) := by rw [w8]; exact (hK.u6 (by omega)).u7 (by omega)
        have hF8 : Fr 13 σ σ8 := by rw [w8]; exact (Fr.rf.up (by omega) (by omega)).up (by omega) (by omega)
        clear w8
        refine gx_iload_n C dX3_grudge_53 (by rfl) (by rfl) ?_
        exact gx_iret C hr hlk rfl (fin_now hC hK8 ((hO.grudge (p := k) (v := t) (by omega) (q_rg hO (by assumption))).gift (p := k) (v := 0) (by omega)) ((Fr.rf).tr hF8) (by simp only [opGrudge, bey, ful, knd, non, sta, mis, siz] <;> grind)) dX3_grudge_54
      ·
        refine gx_aload_n C dX3_grudge_27 (by rfl) (by rfl) ?_
        refine gx_ldc C kc_X3_48 dX3_grudge_28 ?_
        refine gx_callVI (As := [.int (-1000001)]) (rest := []) C (c_X3_found E σ (-1000001) 0 (by decide) (by decide)) z_X3_found ck3 (by rfl) (by rfl) ml_X3_49 (by rfl) (Nat.le_of_ble_eq_true rfl) ⟨Nat.le_of_ble_eq_true rfl, Nat.le_of_ble_eq_true rfl⟩ dX3_grudge_30 (fun r9 σ9 w9 => ?_)
        obtain ⟨u1, u2⟩ := w9; rw [u1, u2]; clear u1 u2
        exact gx_iret C hr hlk rfl (fin_fd hC (by decide) (by simp only [opGrudge, bey, ful, knd, non, sta, mis, siz] <;> grind)) dX3_grudge_33
set_option maxHeartbeats 4000000 in
set_option maxRecDepth 100000 in
theorem c_X3_put (E : En) (σ : Mm) (K L : Mm) (g : Int32) (F : Nat → Int32) (tl : Int32) (Bt W Z : Nat → Int32) (N : Mm) (hC : CR σ (K, L, g, F, tl, Bt, W, Z, N)) (q r : Int32) : CtI E yX3_put cX3_put 6 (some .int) 3 65 [.ref (eA E 0), .int q, .int r] σ (fun rr σ2 => rr = (opPut (K, L, g, F, tl, Bt, W, Z, N) q r).1 ∧ CR σ2 (opPut (K, L, g, F, tl, Bt, W, Z, N) q r).2 ∧ FC σ σ2) := by
  obtain ⟨⟨hK, hO⟩, ⟨hg1, hg2, hg3⟩, hFd, ⟨⟨htl, htl2⟩, hBt⟩, hSh⟩ := id hC
  obtain ⟨⟨hn, h12⟩, hpp, hlw, hsp, hz0⟩ := id hO
  refine CtI.of (by decide +kernel) (Nat.le_of_ble_eq_true rfl) (fun p e0 s m below meth c C hr hlk => ?_)
  refine gx_lv (lv' := [(0, .ref (eA E 0)), (1, .int q), (2, .int r)]) rfl ?_
  refine gx_aload_n C dX3_put_0 (by rfl) (by rfl) ?_
  refine gx_getr (j := 13) (k := 0) C ck3 (by rfl) (by rfl) (by decide) fl_X3_10 dX3_put_1 ?_
  refine gx_iload_n C dX3_put_4 (by rfl) (by rfl) ?_
  refine gx_callVI (As := [.int q]) (rest := []) C (k_X0_has E σ 13 isE_13 K hK hO q) z_X0_has ck0 (by rfl) (by rfl) ml_X3_99 (by rfl) (Nat.le_of_ble_eq_true rfl) ⟨Nat.le_of_ble_eq_true rfl, Nat.le_of_ble_eq_true rfl⟩ dX3_put_5 (fun r1 σ1 w1 => ?_)
  obtain ⟨u1, u2⟩ := w1; rw [u1, u2]; clear u1 u2
  refine gx_if_eq (tgt := 21) C dX3_put_8 (by decide) (fun h2 => ?_) (fun h2 => ?_)
  ·
    have h2 := b2_z.mp h2
    refine gx_aload_n C dX3_put_21 (by rfl) (by rfl) ?_
    refine gx_ldc C kc_X3_48 dX3_put_22 ?_
    refine gx_callVI (As := [.int (-1000001)]) (rest := []) C (c_X3_found E σ (-1000001) 0 (by decide) (by decide)) z_X3_found ck3 (by rfl) (by rfl) ml_X3_49 (by rfl) (Nat.le_of_ble_eq_true rfl) ⟨Nat.le_of_ble_eq_true rfl, Nat.le_of_ble_eq_true rfl⟩ dX3_put_24 (fun r3 σ3 w3 => ?_)
    obtain ⟨u1, u2⟩ := w3; rw [u1, u2]; clear u1 u2
    exact gx_iret C hr hlk rfl (fin_fd hC (by decide) (by simp only [opPut, bey, ful, knd, non, sta, mis, siz] <;> grind)) dX3_put_27
  ·
    have h2 := b2_nz.mp h2
    obtain ⟨k, hk, rfl⟩ := has_nat hO h2
    have ck : (nI k).toNatClampNeg = k := nI_clamp (by omega)
    refine gx_iload_n C dX3_put_11 (by rfl) (by rfl) ?_
    refine gx_iconst (v := (-1)) C dX3_put_12 (by decide) ?_
    refine gx_bipush (v := 7) C dX3_put_13 (by decide) ?_
    refine gx_callSI (As := [.int r, .int (-1), .int 7]) (rest := []) C (c_X3_isWithin E σ r (-1) 7) z_X3_isWithin (by rfl) ml_X3_44 (by rfl) (Nat.le_of_ble_eq_true rfl) ⟨Nat.le_of_ble_eq_true rfl, Nat.le_of_ble_eq_true rfl⟩ dX3_put_15 (fun r4 σ4 w4 => ?_)
    obtain ⟨u1, u2⟩ := w4; rw [u1, u2]; clear u1 u2
    refine gx_if_ne (tgt := 28) C dX3_put_18 (by decide) (fun h5 => ?_) (fun h5 => ?_)
    ·
      have h5 := b2_nz.mp h5
      refine gx_aload_n C dX3_put_28 (by rfl) (by rfl) ?_
      refine gx_getr (j := 13) (k := 0) C ck3 (by rfl) (by rfl) (by decide) fl_X3_10 dX3_put_29 ?_
      refine gx_getr (j := 15) (k := 1) C ck0 (by rfl) (by rfl) (by decide) fl_X3_105 dX3_put_32 ?_
      refine gx_iload_n C dX3_put_35 (by rfl) (by rfl) ?_
      refine gx_ialdN (k := k) C (by rfl) rfl (by omega) (by decide) dX3_put_36 ?_
      refine gx_st (st' := [.int (K 2 k)]) (by rw [hK.r2 (p := k) (by omega)]) ?_
      refine gx_istore_n (lv2 := [(3, .int (K 2 k)), (0, .ref (eA E 0)), (1, .int (nI k)), (2, .int r)]) C dX3_put_37 (by rfl) (by decide) rfl ?_
      refine gx_iload_n C dX3_put_38 (by rfl) (by rfl) ?_
      refine gx_iconst (v := (-1)) C dX3_put_39 (by decide) ?_
      refine gx_icmp_eq (tgt := 47) C dX3_put_40 (by decide) (fun h6 => ?_) (fun h6 => ?_)
      ·
        refine gx_iconst (v := 0) C dX3_put_47 (by decide) ?_
        refine gx_istore (lv2 := [(4, .int 0), (3, .int (K 2 k)), (0, .ref (eA E 0)), (1, .int (nI k)), (2, .int r)]) C dX3_put_48 (by decide) rfl ?_
        refine gx_iload_n C dX3_put_50 (by rfl) (by rfl) ?_
        refine gx_iconst (v := (-1)) C dX3_put_51 (by decide) ?_
        refine gx_icmp_ne (tgt := 59) C dX3_put_52 (by decide) (fun h7 => ?_) (fun h7 => ?_)
        ·
          refine gx_iconst (v := 0) C dX3_put_59 (by decide) ?_
          refine gx_istore (lv2 := [(5, .int 0), (4, .int 0), (3, .int (K 2 k)), (0, .ref (eA E 0)), (1, .int (nI k)), (2, .int r)]) C dX3_put_60 (by decide) rfl ?_
          refine gx_iload C dX3_put_62 (by rfl) ?_
          refine gx_iload C dX3_put_64 (by rfl) ?_
          refine gx_icmp_ne (tgt := 85) C dX3_put_66 (by decide) (fun h8 => ?_) (fun h8 => ?_)
          ·
            exact absurd h8 (by decide)
          ·
            clear h8
            refine gx_iload C dX3_put_69 (by rfl) ?_
            refine gx_if_eq (tgt := 92) C dX3_put_71 (by decide) (fun h9 => ?_) (fun h9 => ?_)
            ·
              clear h9
              refine gx_aload_n C dX3_put_92 (by rfl) (by rfl) ?_
              refine gx_getr (j := 13) (k := 0) C ck3 (by rfl) (by rfl) (by decide) fl_X3_10 dX3_put_93 ?_
              refine gx_iload_n C dX3_put_96 (by rfl) (by rfl) ?_
              refine gx_iload_n C dX3_put_97 (by rfl) (by rfl) ?_
              refine gx_callVV (As := [.int (nI k), .int r]) (rest := []) C (c_X0_moveTo E σ 13 isE_13 K hK hO k (by omega) r (by assumption)) z_X0_moveTo ck0 (by rfl) (by rfl) ml_X3_134 (by rfl) (Nat.le_of_ble_eq_true rfl) ⟨Nat.le_of_ble_eq_true rfl, Nat.le_of_ble_eq_true rfl⟩ dX3_put_98 (fun σ10 w10 => ?_)
              obtain ⟨hK10, hF10⟩ := w10
              have hO10 := Ok.rank (v := r) (p := k) hO (by omega) (by assumption)
              refine gx_iload_n C dX3_put_101 (by rfl) (by rfl) ?_
              exact gx_iret C hr hlk rfl (fin_now hC hK10 hO10 ((Fr.rf).tr hF10) (by simp only [opPut, bey, ful, knd, non, sta, mis, siz] <;> grind)) dX3_put_102
            ·
              exact absurd h9 (by decide)
        ·
          refine gx_iconst (v := 1) C dX3_put_55 (by decide) ?_
          refine gx_goto (tgt := 60) C dX3_put_56 (by decide) ?_
          refine gx_istore (lv2 := [(5, .int 1), (4, .int 0), (3, .int (K 2 k)), (0, .ref (eA E 0)), (1, .int (nI k)), (2, .int r)]) C dX3_put_60 (by decide) rfl ?_
          refine gx_iload C dX3_put_62 (by rfl) ?_
          refine gx_iload C dX3_put_64 (by rfl) ?_
          refine gx_icmp_ne (tgt := 85) C dX3_put_66 (by decide) (fun h11 => ?_) (fun h11 => ?_)
          ·
            clear h11
            refine gx_aload_n C dX3_put_85 (by rfl) (by rfl) ?_
            refine gx_ldc C kc_X3_56 dX3_put_86 ?_
            refine gx_callVI (As := [.int (-1000005)]) (rest := []) C (c_X3_found E σ (-1000005) 4 (by decide) (by decide)) z_X3_found ck3 (by rfl) (by rfl) ml_X3_49 (by rfl) (Nat.le_of_ble_eq_true rfl) ⟨Nat.le_of_ble_eq_true rfl, Nat.le_of_ble_eq_true rfl⟩ dX3_put_88 (fun r12 σ12 w12 => ?_)
            obtain ⟨u1, u2⟩ := w12; rw [u1, u2]; clear u1 u2
            exact gx_iret C hr hlk rfl (fin_fd hC (by decide) (by simp only [opPut, bey, ful, knd, non, sta, mis, siz] <;> grind)) dX3_put_91
          ·
            exact absurd h11 (by decide)
      ·
        refine gx_iconst (v := 1) C dX3_put_43 (by decide) ?_
        refine gx_goto (tgt := 48) C dX3_put_44 (by decide) ?_
        refine gx_istore (lv2 := [(4, .int 1), (3, .int (K 2 k)), (0, .ref (eA E 0)), (1, .int (nI k)), (2, .int r)]) C dX3_put_48 (by decide) rfl ?_
        refine gx_iload_n C dX3_put_50 (by rfl) (by rfl) ?_
        refine gx_iconst (v := (-1)) C dX3_put_51 (by decide) ?_
        refine gx_icmp_ne (tgt := 59) C dX3_put_52 (by decide) (fun h13 => ?_) (fun h13 => ?_)
        ·
          refine gx_iconst (v := 0) C dX3_put_59 (by decide) ?_
          refine gx_istore (lv2 := [(5, .int 0), (4, .int 1), (3, .int (K 2 k)), (0, .ref (eA E 0)), (1, .int (nI k)), (2, .int r)]) C dX3_put_60 (by decide) rfl ?_
          refine gx_iload C dX3_put_62 (by rfl) ?_
          refine gx_iload C dX3_put_64 (by rfl) ?_
          refine gx_icmp_ne (tgt := 85) C dX3_put_66 (by decide) (fun h14 => ?_) (fun h14 => ?_)
          ·
            clear h14
            refine gx_aload_n C dX3_put_85 (by rfl) (by rfl) ?_
            refine gx_ldc C kc_X3_56 dX3_put_86 ?_
            refine gx_callVI (As := [.int (-1000005)]) (rest := []) C (c_X3_found E σ (-1000005) 4 (by decide) (by decide)) z_X3_found ck3 (by rfl) (by rfl) ml_X3_49 (by rfl) (Nat.le_of_ble_eq_true rfl) ⟨Nat.le_of_ble_eq_true rfl, Nat.le_of_ble_eq_true rfl⟩ dX3_put_88 (fun r15 σ15 w15 => ?_)
            obtain ⟨u1, u2⟩ := w15; rw [u1, u2]; clear u1 u2
            exact gx_iret C hr hlk rfl (fin_fd hC (by decide) (by simp only [opPut, bey, ful, knd, non, sta, mis, siz] <;> grind)) dX3_put_91
          ·
            exact absurd h14 (by decide)
        ·
          refine gx_iconst (v := 1) C dX3_put_55 (by decide) ?_
          refine gx_goto (tgt := 60) C dX3_put_56 (by decide) ?_
          refine gx_istore (lv2 := [(5, .int 1), (4, .int 1), (3, .int (K 2 k)), (0, .ref (eA E 0)), (1, .int (nI k)), (2, .int r)]) C dX3_put_60 (by decide) rfl ?_
          refine gx_iload C dX3_put_62 (by rfl) ?_
          refine gx_iload C dX3_put_64 (by rfl) ?_
          refine gx_icmp_ne (tgt := 85) C dX3_put_66 (by decide) (fun h16 => ?_) (fun h16 => ?_)
          ·
            exact absurd h16 (by decide)
          ·
            clear h16
            refine gx_iload C dX3_put_69 (by rfl) ?_
            refine gx_if_eq (tgt := 92) C dX3_put_71 (by decide) (fun h17 => ?_) (fun h17 => ?_)
            ·
              exact absurd h17 (by decide)
            ·
              clear h17
              refine gx_aload_n C dX3_put_74 (by rfl) (by rfl) ?_
              refine gx_getr (j := 13) (k := 0) C ck3 (by rfl) (by rfl) (by decide) fl_X3_10 dX3_put_75 ?_
              obtain ⟨t, ht, et⟩ := r_nat (r := r) ⟨Int32.not_lt.mp (ge0 (by grind) (by assumption)), by grind⟩
              subst et
              have ct : (nI t).toNatClampNeg = t := nI_clamp (by omega)
              refine gx_iload_n C dX3_put_78 (by rfl) (by rfl) ?_
              refine gx_callVI (As := [.int (nI t)]) (rest := []) C (k_X0_hasFree E σ 13 isE_13 K hK hO t (by omega)) z_X0_hasFree ck0 (by rfl) (by rfl) ml_X3_87 (by rfl) (Nat.le_of_ble_eq_true rfl) ⟨Nat.le_of_ble_eq_true rfl, Nat.le_of_ble_eq_true rfl⟩ dX3_put_79 (fun r18 σ18 w18 => ?_)
              obtain ⟨u1, u2⟩ := w18; rw [u1, u2]; clear u1 u2
              refine gx_if_ne (tgt := 92) C dX3_put_82 (by decide) (fun h19 => ?_) (fun h19 => ?_)
              ·
                have h19 := b2_nz.mp h19
                refine gx_aload_n C dX3_put_92 (by rfl) (by rfl) ?_
                refine gx_getr (j := 13) (k := 0) C ck3 (by rfl) (by rfl) (by decide) fl_X3_10 dX3_put_93 ?_
                refine gx_iload_n C dX3_put_96 (by rfl) (by rfl) ?_
                refine gx_iload_n C dX3_put_97 (by rfl) (by rfl) ?_
                refine gx_callVV (As := [.int (nI k), .int (nI t)]) (rest := []) C (c_X0_moveTo E σ 13 isE_13 K hK hO k (by omega) (nI t) (by assumption)) z_X0_moveTo ck0 (by rfl) (by rfl) ml_X3_134 (by rfl) (Nat.le_of_ble_eq_true rfl) ⟨Nat.le_of_ble_eq_true rfl, Nat.le_of_ble_eq_true rfl⟩ dX3_put_98 (fun σ20 w20 => ?_)
                obtain ⟨hK20, hF20⟩ := w20
                have hO20 := Ok.rank (v := (nI t)) (p := k) hO (by omega) (by assumption)
                refine gx_iload_n C dX3_put_101 (by rfl) (by rfl) ?_
                exact gx_iret C hr hlk rfl (fin_now hC hK20 hO20 ((Fr.rf).tr hF20) (by simp only [opPut, bey, ful, knd, non, sta, mis, siz] <;> grind)) dX3_put_102
              ·
                have h19 := b2_z.mp h19
                refine gx_aload_n C dX3_put_85 (by rfl) (by rfl) ?_
                refine gx_ldc C kc_X3_56 dX3_put_86 ?_
                refine gx_callVI (As := [.int (-1000005)]) (rest := []) C (c_X3_found E σ (-1000005) 4 (by decide) (by decide)) z_X3_found ck3 (by rfl) (by rfl) ml_X3_49 (by rfl) (Nat.le_of_ble_eq_true rfl) ⟨Nat.le_of_ble_eq_true rfl, Nat.le_of_ble_eq_true rfl⟩ dX3_put_88 (fun r21 σ21 w21 => ?_)
                obtain ⟨u1, u2⟩ := w21; rw [u1, u2]; clear u1 u2
                exact gx_iret C hr hlk rfl (fin_fd hC (by decide) (by simp only [opPut, bey, ful, knd, non, sta, mis, siz] <;> grind)) dX3_put_91
    ·
      have h5 := b2_z.mp h5
      refine gx_aload_n C dX3_put_21 (by rfl) (by rfl) ?_
      refine gx_ldc C kc_X3_48 dX3_put_22 ?_
      refine gx_callVI (As := [.int (-1000001)]) (rest := []) C (c_X3_found E σ (-1000001) 0 (by decide) (by decide)) z_X3_found ck3 (by rfl) (by rfl) ml_X3_49 (by rfl) (Nat.le_of_ble_eq_true rfl) ⟨Nat.le_of_ble_eq_true rfl, Nat.le_of_ble_eq_true rfl⟩ dX3_put_24 (fun r22 σ22 w22 => ?_)
      obtain ⟨u1, u2⟩ := w22; rw [u1, u2]; clear u1 u2
      exact gx_iret C hr hlk rfl (fin_fd hC (by decide) (by simp only [opPut, bey, ful, knd, non, sta, mis, siz] <;> grind)) dX3_put_27
set_option maxHeartbeats 4000000 in
set_option maxRecDepth 100000 in
theorem c_X3_gift (E : En) (σ : Mm) (K L : Mm) (g : Int32) (F : Nat → Int32) (tl : Int32) (Bt W Z : Nat → Int32) (N : Mm) (hC : CR σ (K, L, g, F, tl, Bt, W, Z, N)) (q v : Int32) : CtI E yX3_gift cX3_gift 3 (some .int) 2 44 [.ref (eA E 0), .int q, .int v] σ (fun rr σ2 => rr = (opGift (K, L, g, F, tl, Bt, W, Z, N) q v).1 ∧ CR σ2 (opGift (K, L, g, F, tl, Bt, W, Z, N) q v).2 ∧ FC σ σ2) := by
  obtain ⟨⟨hK, hO⟩, ⟨hg1, hg2, hg3⟩, hFd, ⟨⟨htl, htl2⟩, hBt⟩, hSh⟩ := id hC
  obtain ⟨⟨hn, h12⟩, hpp, hlw, hsp, hz0⟩ := id hO
  refine CtI.of (by decide +kernel) (Nat.le_of_ble_eq_true rfl) (fun p e0 s m below meth c C hr hlk => ?_)
  refine gx_lv (lv' := [(0, .ref (eA E 0)), (1, .int q), (2, .int v)]) rfl ?_
  refine gx_aload_n C dX3_gift_0 (by rfl) (by rfl) ?_
  refine gx_getr (j := 13) (k := 0) C ck3 (by rfl) (by rfl) (by decide) fl_X3_10 dX3_gift_1 ?_
  refine gx_iload_n C dX3_gift_4 (by rfl) (by rfl) ?_
  refine gx_callVI (As := [.int q]) (rest := []) C (k_X0_has E σ 13 isE_13 K hK hO q) z_X0_has ck0 (by rfl) (by rfl) ml_X3_99 (by rfl) (Nat.le_of_ble_eq_true rfl) ⟨Nat.le_of_ble_eq_true rfl, Nat.le_of_ble_eq_true rfl⟩ dX3_gift_5 (fun r1 σ1 w1 => ?_)
  obtain ⟨u1, u2⟩ := w1; rw [u1, u2]; clear u1 u2
  refine gx_if_eq (tgt := 22) C dX3_gift_8 (by decide) (fun h2 => ?_) (fun h2 => ?_)
  ·
    have h2 := b2_z.mp h2
    refine gx_aload_n C dX3_gift_22 (by rfl) (by rfl) ?_
    refine gx_ldc C kc_X3_48 dX3_gift_23 ?_
    refine gx_callVI (As := [.int (-1000001)]) (rest := []) C (c_X3_found E σ (-1000001) 0 (by decide) (by decide)) z_X3_found ck3 (by rfl) (by rfl) ml_X3_49 (by rfl) (Nat.le_of_ble_eq_true rfl) ⟨Nat.le_of_ble_eq_true rfl, Nat.le_of_ble_eq_true rfl⟩ dX3_gift_25 (fun r3 σ3 w3 => ?_)
    obtain ⟨u1, u2⟩ := w3; rw [u1, u2]; clear u1 u2
    exact gx_iret C hr hlk rfl (fin_fd hC (by decide) (by simp only [opGift, bey, ful, knd, non, sta, mis, siz] <;> grind)) dX3_gift_28
  ·
    have h2 := b2_nz.mp h2
    obtain ⟨k, hk, rfl⟩ := has_nat hO h2
    have ck : (nI k).toNatClampNeg = k := nI_clamp (by omega)
    refine gx_iload_n C dX3_gift_11 (by rfl) (by rfl) ?_
    refine gx_iconst (v := 1) C dX3_gift_12 (by decide) ?_
    refine gx_sipush (v := 9999) C dX3_gift_13 (by decide) ?_
    refine gx_callSI (As := [.int v, .int 1, .int 9999]) (rest := []) C (c_X3_isWithin E σ v 1 9999) z_X3_isWithin (by rfl) ml_X3_44 (by rfl) (Nat.le_of_ble_eq_true rfl) ⟨Nat.le_of_ble_eq_true rfl, Nat.le_of_ble_eq_true rfl⟩ dX3_gift_16 (fun r4 σ4 w4 => ?_)
    obtain ⟨u1, u2⟩ := w4; rw [u1, u2]; clear u1 u2
    refine gx_if_ne (tgt := 29) C dX3_gift_19 (by decide) (fun h5 => ?_) (fun h5 => ?_)
    ·
      have h5 := b2_nz.mp h5
      refine gx_aload_n C dX3_gift_29 (by rfl) (by rfl) ?_
      refine gx_getr (j := 13) (k := 0) C ck3 (by rfl) (by rfl) (by decide) fl_X3_10 dX3_gift_30 ?_
      refine gx_iload_n C dX3_gift_33 (by rfl) (by rfl) ?_
      refine gx_iload_n C dX3_gift_34 (by rfl) (by rfl) ?_
      refine gx_callVI (As := [.int (nI k), .int v]) (rest := []) C (c_X0_canTake E σ 13 isE_13 K hK hO k (by omega) v) z_X0_canTake ck0 (by rfl) (by rfl) ml_X3_137 (by rfl) (Nat.le_of_ble_eq_true rfl) ⟨Nat.le_of_ble_eq_true rfl, Nat.le_of_ble_eq_true rfl⟩ dX3_gift_35 (fun r6 σ6 w6 => ?_)
      obtain ⟨u1, u2⟩ := w6; rw [u1, u2]; clear u1 u2
      refine gx_if_ne (tgt := 48) C dX3_gift_38 (by decide) (fun h7 => ?_) (fun h7 => ?_)
      ·
        have h7 := b2_nz.mp h7
        obtain ⟨g1, hg1, eg1⟩ := has_nat hO h7.1
        have cg1 : (K 6 k).toNatClampNeg = g1 := by rw [eg1]; exact nI_clamp (by omega)
        rw [cg1] at h7
        refine gx_aload_n C dX3_gift_48 (by rfl) (by rfl) ?_
        refine gx_getr (j := 13) (k := 0) C ck3 (by rfl) (by rfl) (by decide) fl_X3_10 dX3_gift_49 ?_
        refine gx_iload_n C dX3_gift_52 (by rfl) (by rfl) ?_
        refine gx_iload_n C dX3_gift_53 (by rfl) (by rfl) ?_
        refine gx_callVV (As := [.int (nI k), .int v]) (rest := []) C (c_X0_take E σ 13 isE_13 K hK hO k (by omega) g1 hg1 eg1 v) z_X0_take ck0 (by rfl) (by rfl) ml_X3_141 (by rfl) (Nat.le_of_ble_eq_true rfl) ⟨Nat.le_of_ble_eq_true rfl, Nat.le_of_ble_eq_true rfl⟩ dX3_gift_54 (fun σ8 w8 => ?_)
        obtain ⟨hK8, hF8⟩ := w8
        refine gx_aload_n C dX3_gift_57 (by rfl) (by rfl) ?_
        refine gx_getr (j := 13) (k := 0) C ck3 (by rfl) (by rfl) (by decide) fl_X3_10 dX3_gift_58 ?_
        refine gx_getr (j := 20) (k := 6) C ck0 (by rfl) (by rfl) (by decide) fl_X3_120 dX3_gift_61 ?_
        refine gx_iload_n C dX3_gift_64 (by rfl) (by rfl) ?_
        refine gx_ialdN (k := k) C (by rfl) rfl (by omega) (by decide) dX3_gift_65 ?_
        refine gx_st (st' := [.int ((tkK K k g1 v) 7 k)]) (by rw [hK8.r7 (p := k) (by omega)]) ?_
        exact gx_iret C hr hlk rfl (fin_now hC hK8 (Ok_tk hO (by omega) hg1 (by grind) (by grind) (by grind)) ((Fr.rf).tr hF8) (by simp only [opGift, bey, ful, knd, non, sta, mis, siz] <;> grind)) dX3_gift_66
      ·
        have h7 := b2_z.mp h7
        refine gx_aload_n C dX3_gift_41 (by rfl) (by rfl) ?_
        refine gx_ldc C kc_X3_56 dX3_gift_42 ?_
        refine gx_callVI (As := [.int (-1000005)]) (rest := []) C (c_X3_found E σ (-1000005) 4 (by decide) (by decide)) z_X3_found ck3 (by rfl) (by rfl) ml_X3_49 (by rfl) (Nat.le_of_ble_eq_true rfl) ⟨Nat.le_of_ble_eq_true rfl, Nat.le_of_ble_eq_true rfl⟩ dX3_gift_44 (fun r9 σ9 w9 => ?_)
        obtain ⟨u1, u2⟩ := w9; rw [u1, u2]; clear u1 u2
        exact gx_iret C hr hlk rfl (fin_fd hC (by decide) (by simp only [opGift, bey, ful, knd, non, sta, mis, siz] <;> grind)) dX3_gift_47
    ·
      have h5 := b2_z.mp h5
      refine gx_aload_n C dX3_gift_22 (by rfl) (by rfl) ?_
      refine gx_ldc C kc_X3_48 dX3_gift_23 ?_
      refine gx_callVI (As := [.int (-1000001)]) (rest := []) C (c_X3_found E σ (-1000001) 0 (by decide) (by decide)) z_X3_found ck3 (by rfl) (by rfl) ml_X3_49 (by rfl) (Nat.le_of_ble_eq_true rfl) ⟨Nat.le_of_ble_eq_true rfl, Nat.le_of_ble_eq_true rfl⟩ dX3_gift_25 (fun r10 σ10 w10 => ?_)
      obtain ⟨u1, u2⟩ := w10; rw [u1, u2]; clear u1 u2
      exact gx_iret C hr hlk rfl (fin_fd hC (by decide) (by simp only [opGift, bey, ful, knd, non, sta, mis, siz] <;> grind)) dX3_gift_28
set_option maxHeartbeats 4000000 in
set_option maxRecDepth 100000 in
theorem c_X3_exchange (E : En) (σ : Mm) (K L : Mm) (g : Int32) (F : Nat → Int32) (tl : Int32) (Bt W Z : Nat → Int32) (N : Mm) (hC : CR σ (K, L, g, F, tl, Bt, W, Z, N)) (q t : Int32) : CtI E yX3_exchange cX3_exchange 5 (some .int) 3 65 [.ref (eA E 0), .int q, .int t] σ (fun rr σ2 => rr = (opExchange (K, L, g, F, tl, Bt, W, Z, N) q t).1 ∧ CR σ2 (opExchange (K, L, g, F, tl, Bt, W, Z, N) q t).2 ∧ FC σ σ2) := by
  obtain ⟨⟨hK, hO⟩, ⟨hg1, hg2, hg3⟩, hFd, ⟨⟨htl, htl2⟩, hBt⟩, hSh⟩ := id hC
  obtain ⟨⟨hn, h12⟩, hpp, hlw, hsp, hz0⟩ := id hO
  refine CtI.of (by decide +kernel) (Nat.le_of_ble_eq_true rfl) (fun p e0 s m below meth c C hr hlk => ?_)
  refine gx_lv (lv' := [(0, .ref (eA E 0)), (1, .int q), (2, .int t)]) rfl ?_
  refine gx_aload_n C dX3_exchange_0 (by rfl) (by rfl) ?_
  refine gx_getr (j := 13) (k := 0) C ck3 (by rfl) (by rfl) (by decide) fl_X3_10 dX3_exchange_1 ?_
  refine gx_iload_n C dX3_exchange_4 (by rfl) (by rfl) ?_
  refine gx_callVI (As := [.int q]) (rest := []) C (k_X0_has E σ 13 isE_13 K hK hO q) z_X0_has ck0 (by rfl) (by rfl) ml_X3_99 (by rfl) (Nat.le_of_ble_eq_true rfl) ⟨Nat.le_of_ble_eq_true rfl, Nat.le_of_ble_eq_true rfl⟩ dX3_exchange_5 (fun r1 σ1 w1 => ?_)
  obtain ⟨u1, u2⟩ := w1; rw [u1, u2]; clear u1 u2
  refine gx_if_eq (tgt := 27) C dX3_exchange_8 (by decide) (fun h2 => ?_) (fun h2 => ?_)
  ·
    have h2 := b2_z.mp h2
    refine gx_aload_n C dX3_exchange_27 (by rfl) (by rfl) ?_
    refine gx_ldc C kc_X3_48 dX3_exchange_28 ?_
    refine gx_callVI (As := [.int (-1000001)]) (rest := []) C (c_X3_found E σ (-1000001) 0 (by decide) (by decide)) z_X3_found ck3 (by rfl) (by rfl) ml_X3_49 (by rfl) (Nat.le_of_ble_eq_true rfl) ⟨Nat.le_of_ble_eq_true rfl, Nat.le_of_ble_eq_true rfl⟩ dX3_exchange_30 (fun r3 σ3 w3 => ?_)
    obtain ⟨u1, u2⟩ := w3; rw [u1, u2]; clear u1 u2
    exact gx_iret C hr hlk rfl (fin_fd hC (by decide) (by simp only [opExchange, bey, ful, knd, non, sta, mis, siz] <;> grind)) dX3_exchange_33
  ·
    have h2 := b2_nz.mp h2
    obtain ⟨k, hk, rfl⟩ := has_nat hO h2
    have ck : (nI k).toNatClampNeg = k := nI_clamp (by omega)
    refine gx_aload_n C dX3_exchange_11 (by rfl) (by rfl) ?_
    refine gx_getr (j := 13) (k := 0) C ck3 (by rfl) (by rfl) (by decide) fl_X3_10 dX3_exchange_12 ?_
    refine gx_iload_n C dX3_exchange_15 (by rfl) (by rfl) ?_
    refine gx_callVI (As := [.int t]) (rest := []) C (k_X0_has E σ 13 isE_13 K hK hO t) z_X0_has ck0 (by rfl) (by rfl) ml_X3_99 (by rfl) (Nat.le_of_ble_eq_true rfl) ⟨Nat.le_of_ble_eq_true rfl, Nat.le_of_ble_eq_true rfl⟩ dX3_exchange_16 (fun r4 σ4 w4 => ?_)
    obtain ⟨u1, u2⟩ := w4; rw [u1, u2]; clear u1 u2
    refine gx_if_eq (tgt := 27) C dX3_exchange_19 (by decide) (fun h5 => ?_) (fun h5 => ?_)
    ·
      have h5 := b2_z.mp h5
      refine gx_aload_n C dX3_exchange_27 (by rfl) (by rfl) ?_
      refine gx_ldc C kc_X3_48 dX3_exchange_28 ?_
      refine gx_callVI (As := [.int (-1000001)]) (rest := []) C (c_X3_found E σ (-1000001) 0 (by decide) (by decide)) z_X3_found ck3 (by rfl) (by rfl) ml_X3_49 (by rfl) (Nat.le_of_ble_eq_true rfl) ⟨Nat.le_of_ble_eq_true rfl, Nat.le_of_ble_eq_true rfl⟩ dX3_exchange_30 (fun r6 σ6 w6 => ?_)
      obtain ⟨u1, u2⟩ := w6; rw [u1, u2]; clear u1 u2
      exact gx_iret C hr hlk rfl (fin_fd hC (by decide) (by simp only [opExchange, bey, ful, knd, non, sta, mis, siz] <;> grind)) dX3_exchange_33
    ·
      have h5 := b2_nz.mp h5
      obtain ⟨j, hj, rfl⟩ := has_nat hO h5
      have cj : (nI j).toNatClampNeg = j := nI_clamp (by omega)
      refine gx_iload_n C dX3_exchange_22 (by rfl) (by rfl) ?_
      refine gx_iload_n C dX3_exchange_23 (by rfl) (by rfl) ?_
      refine gx_icmp_ne (tgt := 34) C dX3_exchange_24 (by decide) (fun h7 => ?_) (fun h7 => ?_)
      ·
        have h7 := (not_congr (nI_eq (a := k) (b := j) (by omega) (by omega))).mp h7
        refine gx_aload_n C dX3_exchange_34 (by rfl) (by rfl) ?_
        refine gx_getr (j := 13) (k := 0) C ck3 (by rfl) (by rfl) (by decide) fl_X3_10 dX3_exchange_35 ?_
        refine gx_getr (j := 15) (k := 1) C ck0 (by rfl) (by rfl) (by decide) fl_X3_105 dX3_exchange_38 ?_
        refine gx_iload_n C dX3_exchange_41 (by rfl) (by rfl) ?_
        refine gx_ialdN (k := k) C (by rfl) rfl (by omega) (by decide) dX3_exchange_42 ?_
        refine gx_st (st' := [.int (K 2 k)]) (by rw [hK.r2 (p := k) (by omega)]) ?_
        refine gx_istore_n (lv2 := [(3, .int (K 2 k)), (0, .ref (eA E 0)), (1, .int (nI k)), (2, .int (nI j))]) C dX3_exchange_43 (by rfl) (by decide) rfl ?_
        refine gx_aload_n C dX3_exchange_44 (by rfl) (by rfl) ?_
        refine gx_getr (j := 13) (k := 0) C ck3 (by rfl) (by rfl) (by decide) fl_X3_10 dX3_exchange_45 ?_
        refine gx_getr (j := 15) (k := 1) C ck0 (by rfl) (by rfl) (by decide) fl_X3_105 dX3_exchange_48 ?_
        refine gx_iload_n C dX3_exchange_51 (by rfl) (by rfl) ?_
        refine gx_ialdN (k := j) C (by rfl) rfl (by omega) (by decide) dX3_exchange_52 ?_
        refine gx_st (st' := [.int (K 2 j)]) (by rw [hK.r2 (p := j) (by omega)]) ?_
        refine gx_istore (lv2 := [(4, .int (K 2 j)), (3, .int (K 2 k)), (0, .ref (eA E 0)), (1, .int (nI k)), (2, .int (nI j))]) C dX3_exchange_53 (by decide) rfl ?_
        refine gx_iload_n C dX3_exchange_55 (by rfl) (by rfl) ?_
        refine gx_iconst (v := (-1)) C dX3_exchange_56 (by decide) ?_
        refine gx_icmp_eq (tgt := 66) C dX3_exchange_57 (by decide) (fun h8 => ?_) (fun h8 => ?_)
        ·
          refine gx_aload_n C dX3_exchange_66 (by rfl) (by rfl) ?_
          refine gx_ldc C kc_X3_56 dX3_exchange_67 ?_
          refine gx_callVI (As := [.int (-1000005)]) (rest := []) C (c_X3_found E σ (-1000005) 4 (by decide) (by decide)) z_X3_found ck3 (by rfl) (by rfl) ml_X3_49 (by rfl) (Nat.le_of_ble_eq_true rfl) ⟨Nat.le_of_ble_eq_true rfl, Nat.le_of_ble_eq_true rfl⟩ dX3_exchange_69 (fun r9 σ9 w9 => ?_)
          obtain ⟨u1, u2⟩ := w9; rw [u1, u2]; clear u1 u2
          exact gx_iret C hr hlk rfl (fin_fd hC (by decide) (by simp only [opExchange, bey, ful, knd, non, sta, mis, siz] <;> grind)) dX3_exchange_72
        ·
          refine gx_iload C dX3_exchange_60 (by rfl) ?_
          refine gx_iconst (v := (-1)) C dX3_exchange_62 (by decide) ?_
          refine gx_icmp_ne (tgt := 73) C dX3_exchange_63 (by decide) (fun h10 => ?_) (fun h10 => ?_)
          ·
            refine gx_aload_n C dX3_exchange_73 (by rfl) (by rfl) ?_
            refine gx_getr (j := 13) (k := 0) C ck3 (by rfl) (by rfl) (by decide) fl_X3_10 dX3_exchange_74 ?_
            refine gx_iload_n C dX3_exchange_77 (by rfl) (by rfl) ?_
            refine gx_iload C dX3_exchange_78 (by rfl) ?_
            refine gx_callVV (As := [.int (nI k), .int (K 2 j)]) (rest := []) C (c_X0_moveTo E σ 13 isE_13 K hK hO k (by omega) (K 2 j) (hpp j (by omega)).2.1) z_X0_moveTo ck0 (by rfl) (by rfl) ml_X3_134 (by rfl) (Nat.le_of_ble_eq_true rfl) ⟨Nat.le_of_ble_eq_true rfl, Nat.le_of_ble_eq_true rfl⟩ dX3_exchange_80 (fun σ11 w11 => ?_)
            obtain ⟨hK11, hF11⟩ := w11
            have hO11 := Ok.rank (v := (K 2 j)) (p := k) hO (by omega) (hpp j (by omega)).2.1
            refine gx_aload_n C dX3_exchange_83 (by rfl) (by rfl) ?_
            refine gx_getr (j := 13) (k := 0) C ck3 (by rfl) (by rfl) (by decide) fl_X3_10 dX3_exchange_84 ?_
            refine gx_iload_n C dX3_exchange_87 (by rfl) (by rfl) ?_
            refine gx_iload_n C dX3_exchange_88 (by rfl) (by rfl) ?_
            refine gx_callVV (As := [.int (nI j), .int (K 2 k)]) (rest := []) C (c_X0_moveTo E σ11 13 isE_13 (up2 K 2 k (K 2 j)) hK11 hO11 j (by rw [nn_up (Or.inl (by decide))]; exact (by omega)) (K 2 k) (hpp k (by omega)).2.1) z_X0_moveTo ck0 (by rfl) (by rfl) ml_X3_134 (by rfl) (Nat.le_of_ble_eq_true rfl) ⟨Nat.le_of_ble_eq_true rfl, Nat.le_of_ble_eq_true rfl⟩ dX3_exchange_89 (fun σ12 w12 => ?_)
            obtain ⟨hK12, hF12⟩ := w12
            have hO12 := Ok.rank (v := (K 2 k)) (p := j) hO11 (by omega) (hpp k (by omega)).2.1
            refine gx_iconst (v := 1) C dX3_exchange_92 (by decide) ?_
            exact gx_iret C hr hlk rfl (fin_now hC hK12 hO12 (((Fr.rf).tr hF11).tr hF12) (by simp only [opExchange, bey, ful, knd, non, sta, mis, siz] <;> grind)) dX3_exchange_93
          ·
            refine gx_aload_n C dX3_exchange_66 (by rfl) (by rfl) ?_
            refine gx_ldc C kc_X3_56 dX3_exchange_67 ?_
            refine gx_callVI (As := [.int (-1000005)]) (rest := []) C (c_X3_found E σ (-1000005) 4 (by decide) (by decide)) z_X3_found ck3 (by rfl) (by rfl) ml_X3_49 (by rfl) (Nat.le_of_ble_eq_true rfl) ⟨Nat.le_of_ble_eq_true rfl, Nat.le_of_ble_eq_true rfl⟩ dX3_exchange_69 (fun r13 σ13 w13 => ?_)
            obtain ⟨u1, u2⟩ := w13; rw [u1, u2]; clear u1 u2
            exact gx_iret C hr hlk rfl (fin_fd hC (by decide) (by simp only [opExchange, bey, ful, knd, non, sta, mis, siz] <;> grind)) dX3_exchange_72
      ·
        have h7 := (nI_eq (a := k) (b := j) (by omega) (by omega)).mp h7
        refine gx_aload_n C dX3_exchange_27 (by rfl) (by rfl) ?_
        refine gx_ldc C kc_X3_48 dX3_exchange_28 ?_
        refine gx_callVI (As := [.int (-1000001)]) (rest := []) C (c_X3_found E σ (-1000001) 0 (by decide) (by decide)) z_X3_found ck3 (by rfl) (by rfl) ml_X3_49 (by rfl) (Nat.le_of_ble_eq_true rfl) ⟨Nat.le_of_ble_eq_true rfl, Nat.le_of_ble_eq_true rfl⟩ dX3_exchange_30 (fun r14 σ14 w14 => ?_)
        obtain ⟨u1, u2⟩ := w14; rw [u1, u2]; clear u1 u2
        exact gx_iret C hr hlk rfl (fin_fd hC (by decide) (by simp only [opExchange, bey, ful, knd, non, sta, mis, siz] <;> grind)) dX3_exchange_33
set_option maxHeartbeats 4000000 in
set_option maxRecDepth 100000 in
theorem c_X3_wants (E : En) (σ : Mm) (K L : Mm) (g : Int32) (F : Nat → Int32) (tl : Int32) (Bt W Z : Nat → Int32) (N : Mm) (hC : CR σ (K, L, g, F, tl, Bt, W, Z, N)) (q t : Int32) : CtI E yX3_wants cX3_wants 3 (some .int) 2 46 [.ref (eA E 0), .int q, .int t] σ (fun rr σ2 => rr = (opWants (K, L, g, F, tl, Bt, W, Z, N) q t).1 ∧ CR σ2 (opWants (K, L, g, F, tl, Bt, W, Z, N) q t).2 ∧ FC σ σ2) := by
  obtain ⟨⟨hK, hO⟩, ⟨hg1, hg2, hg3⟩, hFd, ⟨⟨htl, htl2⟩, hBt⟩, hSh⟩ := id hC
  obtain ⟨⟨hn, h12⟩, hpp, hlw, hsp, hz0⟩ := id hO
  refine CtI.of (by decide +kernel) (Nat.le_of_ble_eq_true rfl) (fun p e0 s m below meth c C hr hlk => ?_)
  refine gx_lv (lv' := [(0, .ref (eA E 0)), (1, .int q), (2, .int t)]) rfl ?_
  refine gx_aload_n C dX3_wants_0 (by rfl) (by rfl) ?_
  refine gx_getr (j := 13) (k := 0) C ck3 (by rfl) (by rfl) (by decide) fl_X3_10 dX3_wants_1 ?_
  refine gx_iload_n C dX3_wants_4 (by rfl) (by rfl) ?_
  refine gx_callVI (As := [.int q]) (rest := []) C (k_X0_has E σ 13 isE_13 K hK hO q) z_X0_has ck0 (by rfl) (by rfl) ml_X3_99 (by rfl) (Nat.le_of_ble_eq_true rfl) ⟨Nat.le_of_ble_eq_true rfl, Nat.le_of_ble_eq_true rfl⟩ dX3_wants_5 (fun r1 σ1 w1 => ?_)
  obtain ⟨u1, u2⟩ := w1; rw [u1, u2]; clear u1 u2
  refine gx_if_eq (tgt := 27) C dX3_wants_8 (by decide) (fun h2 => ?_) (fun h2 => ?_)
  ·
    have h2 := b2_z.mp h2
    refine gx_aload_n C dX3_wants_27 (by rfl) (by rfl) ?_
    refine gx_ldc C kc_X3_48 dX3_wants_28 ?_
    refine gx_callVI (As := [.int (-1000001)]) (rest := []) C (c_X3_found E σ (-1000001) 0 (by decide) (by decide)) z_X3_found ck3 (by rfl) (by rfl) ml_X3_49 (by rfl) (Nat.le_of_ble_eq_true rfl) ⟨Nat.le_of_ble_eq_true rfl, Nat.le_of_ble_eq_true rfl⟩ dX3_wants_30 (fun r3 σ3 w3 => ?_)
    obtain ⟨u1, u2⟩ := w3; rw [u1, u2]; clear u1 u2
    exact gx_iret C hr hlk rfl (fin_fd hC (by decide) (by simp only [opWants, bey, ful, knd, non, sta, mis, siz] <;> grind)) dX3_wants_33
  ·
    have h2 := b2_nz.mp h2
    obtain ⟨k, hk, rfl⟩ := has_nat hO h2
    have ck : (nI k).toNatClampNeg = k := nI_clamp (by omega)
    refine gx_aload_n C dX3_wants_11 (by rfl) (by rfl) ?_
    refine gx_getr (j := 13) (k := 0) C ck3 (by rfl) (by rfl) (by decide) fl_X3_10 dX3_wants_12 ?_
    refine gx_iload_n C dX3_wants_15 (by rfl) (by rfl) ?_
    refine gx_callVI (As := [.int t]) (rest := []) C (k_X0_has E σ 13 isE_13 K hK hO t) z_X0_has ck0 (by rfl) (by rfl) ml_X3_99 (by rfl) (Nat.le_of_ble_eq_true rfl) ⟨Nat.le_of_ble_eq_true rfl, Nat.le_of_ble_eq_true rfl⟩ dX3_wants_16 (fun r4 σ4 w4 => ?_)
    obtain ⟨u1, u2⟩ := w4; rw [u1, u2]; clear u1 u2
    refine gx_if_eq (tgt := 27) C dX3_wants_19 (by decide) (fun h5 => ?_) (fun h5 => ?_)
    ·
      have h5 := b2_z.mp h5
      refine gx_aload_n C dX3_wants_27 (by rfl) (by rfl) ?_
      refine gx_ldc C kc_X3_48 dX3_wants_28 ?_
      refine gx_callVI (As := [.int (-1000001)]) (rest := []) C (c_X3_found E σ (-1000001) 0 (by decide) (by decide)) z_X3_found ck3 (by rfl) (by rfl) ml_X3_49 (by rfl) (Nat.le_of_ble_eq_true rfl) ⟨Nat.le_of_ble_eq_true rfl, Nat.le_of_ble_eq_true rfl⟩ dX3_wants_30 (fun r6 σ6 w6 => ?_)
      obtain ⟨u1, u2⟩ := w6; rw [u1, u2]; clear u1 u2
      exact gx_iret C hr hlk rfl (fin_fd hC (by decide) (by simp only [opWants, bey, ful, knd, non, sta, mis, siz] <;> grind)) dX3_wants_33
    ·
      have h5 := b2_nz.mp h5
      obtain ⟨j, hj, rfl⟩ := has_nat hO h5
      have cj : (nI j).toNatClampNeg = j := nI_clamp (by omega)
      refine gx_iload_n C dX3_wants_22 (by rfl) (by rfl) ?_
      refine gx_iload_n C dX3_wants_23 (by rfl) (by rfl) ?_
      refine gx_icmp_ne (tgt := 34) C dX3_wants_24 (by decide) (fun h7 => ?_) (fun h7 => ?_)
      ·
        have h7 := (not_congr (nI_eq (a := k) (b := j) (by omega) (by omega))).mp h7
        refine gx_aload_n C dX3_wants_34 (by rfl) (by rfl) ?_
        refine gx_getr (j := 13) (k := 0) C ck3 (by rfl) (by rfl) (by decide) fl_X3_10 dX3_wants_35 ?_
        refine gx_iload_n C dX3_wants_38 (by rfl) (by rfl) ?_
        refine gx_iload_n C dX3_wants_39 (by rfl) (by rfl) ?_
        refine gx_callVI (As := [.int (nI k), .int (nI j)]) (rest := []) C (c_X0_isWanting E σ 13 isE_13 K hK hO k (by omega) j (by omega)) z_X0_isWanting ck0 (by rfl) (by rfl) ml_X3_144 (by rfl) (Nat.le_of_ble_eq_true rfl) ⟨Nat.le_of_ble_eq_true rfl, Nat.le_of_ble_eq_true rfl⟩ dX3_wants_40 (fun r8 σ8 w8 => ?_)
        obtain ⟨u1, u2⟩ := w8; rw [u1, u2]; clear u1 u2
        refine gx_if_eq (tgt := 50) C dX3_wants_43 (by decide) (fun h9 => ?_) (fun h9 => ?_)
        ·
          have h9 := b2_z.mp h9
          refine gx_iconst (v := 0) C dX3_wants_50 (by decide) ?_
          exact gx_iret C hr hlk rfl (fin_rd hC (by simp only [opWants, bey]; rw [if_pos (by grind)]; simp only [ck, cj]; exact congrArg (fun z => (z, _)) (b2_f (by assumption)).symm)) dX3_wants_51
        ·
          have h9 := b2_nz.mp h9
          refine gx_iconst (v := 1) C dX3_wants_46 (by decide) ?_
          refine gx_goto (tgt := 51) C dX3_wants_47 (by decide) ?_
          exact gx_iret C hr hlk rfl (fin_rd hC (by simp only [opWants, bey]; rw [if_pos (by grind)]; simp only [ck, cj]; exact congrArg (fun z => (z, _)) (b2_t (by assumption)).symm)) dX3_wants_51
      ·
        have h7 := (nI_eq (a := k) (b := j) (by omega) (by omega)).mp h7
        refine gx_aload_n C dX3_wants_27 (by rfl) (by rfl) ?_
        refine gx_ldc C kc_X3_48 dX3_wants_28 ?_
        refine gx_callVI (As := [.int (-1000001)]) (rest := []) C (c_X3_found E σ (-1000001) 0 (by decide) (by decide)) z_X3_found ck3 (by rfl) (by rfl) ml_X3_49 (by rfl) (Nat.le_of_ble_eq_true rfl) ⟨Nat.le_of_ble_eq_true rfl, Nat.le_of_ble_eq_true rfl⟩ dX3_wants_30 (fun r10 σ10 w10 => ?_)
        obtain ⟨u1, u2⟩ := w10; rw [u1, u2]; clear u1 u2
        exact gx_iret C hr hlk rfl (fin_fd hC (by decide) (by simp only [opWants, bey, ful, knd, non, sta, mis, siz] <;> grind)) dX3_wants_33
set_option maxHeartbeats 4000000 in
set_option maxRecDepth 100000 in
theorem c_X3_against (E : En) (σ : Mm) (K L : Mm) (g : Int32) (F : Nat → Int32) (tl : Int32) (Bt W Z : Nat → Int32) (N : Mm) (hC : CR σ (K, L, g, F, tl, Bt, W, Z, N)) (q : Int32) : CtI E yX3_against cX3_against 2 (some .int) 3 70 [.ref (eA E 0), .int q] σ (fun rr σ2 => rr = (opAgainst (K, L, g, F, tl, Bt, W, Z, N) q).1 ∧ CR σ2 (opAgainst (K, L, g, F, tl, Bt, W, Z, N) q).2 ∧ FC σ σ2) := by
  obtain ⟨⟨hK, hO⟩, ⟨hg1, hg2, hg3⟩, hFd, ⟨⟨htl, htl2⟩, hBt⟩, hSh⟩ := id hC
  obtain ⟨⟨hn, h12⟩, hpp, hlw, hsp, hz0⟩ := id hO
  refine CtI.of (by decide +kernel) (Nat.le_of_ble_eq_true rfl) (fun p e0 s m below meth c C hr hlk => ?_)
  refine gx_lv (lv' := [(0, .ref (eA E 0)), (1, .int q)]) rfl ?_
  refine gx_aload_n C dX3_against_0 (by rfl) (by rfl) ?_
  refine gx_getr (j := 13) (k := 0) C ck3 (by rfl) (by rfl) (by decide) fl_X3_10 dX3_against_1 ?_
  refine gx_iload_n C dX3_against_4 (by rfl) (by rfl) ?_
  refine gx_callVI (As := [.int q]) (rest := []) C (k_X0_has E σ 13 isE_13 K hK hO q) z_X0_has ck0 (by rfl) (by rfl) ml_X3_99 (by rfl) (Nat.le_of_ble_eq_true rfl) ⟨Nat.le_of_ble_eq_true rfl, Nat.le_of_ble_eq_true rfl⟩ dX3_against_5 (fun r1 σ1 w1 => ?_)
  obtain ⟨u1, u2⟩ := w1; rw [u1, u2]; clear u1 u2
  refine gx_if_ne (tgt := 18) C dX3_against_8 (by decide) (fun h2 => ?_) (fun h2 => ?_)
  ·
    have h2 := b2_nz.mp h2
    obtain ⟨k, hk, rfl⟩ := has_nat hO h2
    have ck : (nI k).toNatClampNeg = k := nI_clamp (by omega)
    refine gx_aload_n C dX3_against_18 (by rfl) (by rfl) ?_
    refine gx_getr (j := 13) (k := 0) C ck3 (by rfl) (by rfl) (by decide) fl_X3_10 dX3_against_19 ?_
    refine gx_getr (j := 15) (k := 1) C ck0 (by rfl) (by rfl) (by decide) fl_X3_105 dX3_against_22 ?_
    refine gx_iload_n C dX3_against_25 (by rfl) (by rfl) ?_
    refine gx_ialdN (k := k) C (by rfl) rfl (by omega) (by decide) dX3_against_26 ?_
    refine gx_st (st' := [.int (K 2 k)]) (by rw [hK.r2 (p := k) (by omega)]) ?_
    refine gx_iconst (v := (-1)) C dX3_against_27 (by decide) ?_
    refine gx_icmp_ne (tgt := 38) C dX3_against_28 (by decide) (fun h3 => ?_) (fun h3 => ?_)
    ·
      refine gx_aload_n C dX3_against_38 (by rfl) (by rfl) ?_
      refine gx_getr (j := 13) (k := 0) C ck3 (by rfl) (by rfl) (by decide) fl_X3_10 dX3_against_39 ?_
      refine gx_aload_n C dX3_against_42 (by rfl) (by rfl) ?_
      refine gx_getr (j := 13) (k := 0) C ck3 (by rfl) (by rfl) (by decide) fl_X3_10 dX3_against_43 ?_
      refine gx_iload_n C dX3_against_46 (by rfl) (by rfl) ?_
      refine gx_aload_n C dX3_against_47 (by rfl) (by rfl) ?_
      refine gx_getr (j := 13) (k := 0) C ck3 (by rfl) (by rfl) (by decide) fl_X3_10 dX3_against_48 ?_
      refine gx_callVI (As := []) (rest := [.int (nI k), .ref (eA E 13), .ref (eA E 13)]) C (c_X0_counting E σ 13 isE_13 K hK hO) z_X0_counting ck0 (by rfl) (by rfl) ml_X3_63 (by rfl) (Nat.le_of_ble_eq_true rfl) ⟨Nat.le_of_ble_eq_true rfl, Nat.le_of_ble_eq_true rfl⟩ dX3_against_51 (fun r4 σ4 w4 => ?_)
      obtain ⟨u1, u2⟩ := w4; rw [u1, u2]; clear u1 u2
      refine gx_callVI (As := [.int (nI k), .int (bset (nn K) (cgP K))]) (rest := [.ref (eA E 13)]) C (c_X0_judgesOf E σ 13 isE_13 K hK hO k (by omega)) z_X0_judgesOf ck0 (by rfl) (by rfl) ml_X3_147 (by rfl) (Nat.le_of_ble_eq_true rfl) ⟨Nat.le_of_ble_eq_true rfl, Nat.le_of_ble_eq_true rfl⟩ dX3_against_54 (fun r5 σ5 w5 => ?_)
      obtain ⟨u1, u2⟩ := w5; rw [u1, u2]; clear u1 u2
      refine gx_iload_n C dX3_against_57 (by rfl) (by rfl) ?_
      refine gx_callVI (As := [.int (bset (nn K) (blP K k)), .int (nI k)]) (rest := []) C (c_X0_wanting E σ 13 isE_13 K hK hO (blP K k) k (by omega)) z_X0_wanting ck0 (by rfl) (by rfl) ml_X3_150 (by rfl) (Nat.le_of_ble_eq_true rfl) ⟨Nat.le_of_ble_eq_true rfl, Nat.le_of_ble_eq_true rfl⟩ dX3_against_58 (fun r6 σ6 w6 => ?_)
      obtain ⟨u1, u2⟩ := w6; rw [u1, u2]; clear u1 u2
      refine gx_st (st' := [.int (bset (nn K) (agP K k))]) (by rw [show bset (nn K) (fun t => (blP K k) t && wn K t k) = bset (nn K) (agP K k) from rfl]) ?_
      exact gx_iret C hr hlk rfl (fin_rd hC (by simp only [opAgainst, bey, ful, knd, non, sta, mis, siz] <;> grind)) dX3_against_61
    ·
      refine gx_aload_n C dX3_against_31 (by rfl) (by rfl) ?_
      refine gx_ldc C kc_X3_56 dX3_against_32 ?_
      refine gx_callVI (As := [.int (-1000005)]) (rest := []) C (c_X3_found E σ (-1000005) 4 (by decide) (by decide)) z_X3_found ck3 (by rfl) (by rfl) ml_X3_49 (by rfl) (Nat.le_of_ble_eq_true rfl) ⟨Nat.le_of_ble_eq_true rfl, Nat.le_of_ble_eq_true rfl⟩ dX3_against_34 (fun r7 σ7 w7 => ?_)
      obtain ⟨u1, u2⟩ := w7; rw [u1, u2]; clear u1 u2
      exact gx_iret C hr hlk rfl (fin_fd hC (by decide) (by simp only [opAgainst, bey, ful, knd, non, sta, mis, siz] <;> grind)) dX3_against_37
  ·
    have h2 := b2_z.mp h2
    refine gx_aload_n C dX3_against_11 (by rfl) (by rfl) ?_
    refine gx_ldc C kc_X3_48 dX3_against_12 ?_
    refine gx_callVI (As := [.int (-1000001)]) (rest := []) C (c_X3_found E σ (-1000001) 0 (by decide) (by decide)) z_X3_found ck3 (by rfl) (by rfl) ml_X3_49 (by rfl) (Nat.le_of_ble_eq_true rfl) ⟨Nat.le_of_ble_eq_true rfl, Nat.le_of_ble_eq_true rfl⟩ dX3_against_14 (fun r8 σ8 w8 => ?_)
    obtain ⟨u1, u2⟩ := w8; rw [u1, u2]; clear u1 u2
    exact gx_iret C hr hlk rfl (fin_fd hC (by decide) (by simp only [opAgainst, bey, ful, knd, non, sta, mis, siz] <;> grind)) dX3_against_17
set_option maxHeartbeats 4000000 in
set_option maxRecDepth 100000 in
theorem c_X3_tremble (E : En) (σ : Mm) (K L : Mm) (g : Int32) (F : Nat → Int32) (tl : Int32) (Bt W Z : Nat → Int32) (N : Mm) (hC : CR σ (K, L, g, F, tl, Bt, W, Z, N)) : CtI E yX3_tremble cX3_tremble 1 (some .int) 4 94 [.ref (eA E 0)] σ (fun rr σ2 => rr = (opTremble (K, L, g, F, tl, Bt, W, Z, N)).1 ∧ CR σ2 (opTremble (K, L, g, F, tl, Bt, W, Z, N)).2 ∧ FC σ σ2) := by
  obtain ⟨⟨hK, hO⟩, ⟨hg1, hg2, hg3⟩, hFd, ⟨⟨htl, htl2⟩, hBt⟩, hSh⟩ := id hC
  obtain ⟨⟨hn, h12⟩, hpp, hlw, hsp, hz0⟩ := id hO
  refine CtI.of (by decide +kernel) (Nat.le_of_ble_eq_true rfl) (fun p e0 s m below meth c C hr hlk => ?_)
  refine gx_lv (lv' := [(0, .ref (eA E 0))]) rfl ?_
  refine gx_aload_n C dX3_tremble_0 (by rfl) (by rfl) ?_
  refine gx_getr (j := 13) (k := 0) C ck3 (by rfl) (by rfl) (by decide) fl_X3_10 dX3_tremble_1 ?_
  refine gx_callVI (As := []) (rest := []) C (c_X0_falling E σ 13 isE_13 K hK hO) z_X0_falling ck0 (by rfl) (by rfl) ml_X3_157 (by rfl) (Nat.le_of_ble_eq_true rfl) ⟨Nat.le_of_ble_eq_true rfl, Nat.le_of_ble_eq_true rfl⟩ dX3_tremble_4 (fun r1 σ1 w1 => ?_)
  obtain ⟨u1, u2⟩ := w1; rw [u1, u2]; clear u1 u2
  exact gx_iret C hr hlk rfl (fin_rd hC (by simp only [opTremble, bey, ful, knd, non, sta, mis, siz] <;> grind)) dX3_tremble_7
set_option maxHeartbeats 4000000 in
set_option maxRecDepth 100000 in
theorem c_X3_heir (E : En) (σ : Mm) (K L : Mm) (g : Int32) (F : Nat → Int32) (tl : Int32) (Bt W Z : Nat → Int32) (N : Mm) (hC : CR σ (K, L, g, F, tl, Bt, W, Z, N)) (r : Int32) : CtI E yX3_heir cX3_heir 3 (some .int) 2 45 [.ref (eA E 0), .int r] σ (fun rr σ2 => rr = (opHeir (K, L, g, F, tl, Bt, W, Z, N) r).1 ∧ CR σ2 (opHeir (K, L, g, F, tl, Bt, W, Z, N) r).2 ∧ FC σ σ2) := by
  obtain ⟨⟨hK, hO⟩, ⟨hg1, hg2, hg3⟩, hFd, ⟨⟨htl, htl2⟩, hBt⟩, hSh⟩ := id hC
  obtain ⟨⟨hn, h12⟩, hpp, hlw, hsp, hz0⟩ := id hO
  refine CtI.of (by decide +kernel) (Nat.le_of_ble_eq_true rfl) (fun p e0 s m below meth c C hr hlk => ?_)
  refine gx_lv (lv' := [(0, .ref (eA E 0)), (1, .int r)]) rfl ?_
  refine gx_iload_n C dX3_heir_0 (by rfl) (by rfl) ?_
  refine gx_iconst (v := 0) C dX3_heir_1 (by decide) ?_
  refine gx_bipush (v := 6) C dX3_heir_2 (by decide) ?_
  refine gx_callSI (As := [.int r, .int 0, .int 6]) (rest := []) C (c_X3_isWithin E σ r 0 6) z_X3_isWithin (by rfl) ml_X3_44 (by rfl) (Nat.le_of_ble_eq_true rfl) ⟨Nat.le_of_ble_eq_true rfl, Nat.le_of_ble_eq_true rfl⟩ dX3_heir_4 (fun r1 σ1 w1 => ?_)
  obtain ⟨u1, u2⟩ := w1; rw [u1, u2]; clear u1 u2
  refine gx_if_ne (tgt := 17) C dX3_heir_7 (by decide) (fun h2 => ?_) (fun h2 => ?_)
  ·
    have h2 := b2_nz.mp h2
    obtain ⟨k, hk, rfl⟩ := i_nat (M := 6) (n := 6) (by decide) h2
    have ck : (nI k).toNatClampNeg = k := nI_clamp (by omega)
    have ck1 : nI k + 1 = nI (k + 1) := nI_1 k
    refine gx_aload_n C dX3_heir_17 (by rfl) (by rfl) ?_
    refine gx_getr (j := 13) (k := 0) C ck3 (by rfl) (by rfl) (by decide) fl_X3_10 dX3_heir_18 ?_
    refine gx_aload_n C dX3_heir_21 (by rfl) (by rfl) ?_
    refine gx_getr (j := 13) (k := 0) C ck3 (by rfl) (by rfl) (by decide) fl_X3_10 dX3_heir_22 ?_
    refine gx_getr (j := 22) (k := 8) C ck0 (by rfl) (by rfl) (by decide) fl_X3_60 dX3_heir_25 ?_
    refine gx_iload_n C dX3_heir_28 (by rfl) (by rfl) ?_
    refine gx_iconst (v := 1) C dX3_heir_29 (by decide) ?_
    refine gx_iadd C dX3_heir_30 ?_
    refine gx_st (st' := [.int (nI (k + 1)), .ref (eA E 22), .ref (eA E 13)]) (by rw [show (nI k) + 1 = nI (k + 1) from nI_add k 1]) ?_
    refine gx_ialdN (k := (k + 1)) C (by rfl) rfl (by omega) (by decide) dX3_heir_31 ?_
    refine gx_st (st' := [.int (bset (nn K) (inP K (nI (k + 1)))), .ref (eA E 13)]) (by rw [hK.in (r := k + 1) (by omega)]) ?_
    refine gx_callVI (As := [.int (bset (nn K) (inP K (nI (k + 1))))]) (rest := []) C (c_X0_firstByLaw E σ 13 isE_13 K hK hO (inP K (nI (k + 1)))) z_X0_firstByLaw ck0 (by rfl) (by rfl) ml_X3_160 (by rfl) (Nat.le_of_ble_eq_true rfl) ⟨Nat.le_of_ble_eq_true rfl, Nat.le_of_ble_eq_true rfl⟩ dX3_heir_32 (fun r3 σ3 w3 => ?_)
    obtain ⟨u1, u2⟩ := w3; rw [u1, u2]; clear u1 u2
    refine gx_istore_n (lv2 := [(2, .int (hrS K (inP K (nI (k + 1))))), (0, .ref (eA E 0)), (1, .int (nI k))]) C dX3_heir_35 (by rfl) (by decide) rfl ?_
    refine gx_iload_n C dX3_heir_36 (by rfl) (by rfl) ?_
    refine gx_iconst (v := (-1)) C dX3_heir_37 (by decide) ?_
    refine gx_icmp_ne (tgt := 50) C dX3_heir_38 (by decide) (fun h4 => ?_) (fun h4 => ?_)
    ·
      refine gx_iload_n C dX3_heir_50 (by rfl) (by rfl) ?_
      exact gx_iret C hr hlk rfl (fin_rd hC (by simp only [opHeir, bey, ful, knd, non, sta, mis, siz] <;> grind)) dX3_heir_51
    ·
      refine gx_aload_n C dX3_heir_41 (by rfl) (by rfl) ?_
      refine gx_ldc C kc_X3_156 dX3_heir_42 ?_
      refine gx_callVI (As := [.int (-1000004)]) (rest := []) C (c_X3_found E σ (-1000004) 3 (by decide) (by decide)) z_X3_found ck3 (by rfl) (by rfl) ml_X3_49 (by rfl) (Nat.le_of_ble_eq_true rfl) ⟨Nat.le_of_ble_eq_true rfl, Nat.le_of_ble_eq_true rfl⟩ dX3_heir_44 (fun r5 σ5 w5 => ?_)
      obtain ⟨u1, u2⟩ := w5; rw [u1, u2]; clear u1 u2
      refine gx_goto (tgt := 51) C dX3_heir_47 (by decide) ?_
      exact gx_iret C hr hlk rfl (fin_fd hC (by decide) (by simp only [opHeir, bey, ful, knd, non, sta, mis, siz] <;> grind)) dX3_heir_51
  ·
    have h2 := b2_z.mp h2
    refine gx_aload_n C dX3_heir_10 (by rfl) (by rfl) ?_
    refine gx_ldc C kc_X3_48 dX3_heir_11 ?_
    refine gx_callVI (As := [.int (-1000001)]) (rest := []) C (c_X3_found E σ (-1000001) 0 (by decide) (by decide)) z_X3_found ck3 (by rfl) (by rfl) ml_X3_49 (by rfl) (Nat.le_of_ble_eq_true rfl) ⟨Nat.le_of_ble_eq_true rfl, Nat.le_of_ble_eq_true rfl⟩ dX3_heir_13 (fun r6 σ6 w6 => ?_)
    obtain ⟨u1, u2⟩ := w6; rw [u1, u2]; clear u1 u2
    exact gx_iret C hr hlk rfl (fin_fd hC (by decide) (by simp only [opHeir, bey, ful, knd, non, sta, mis, siz] <;> grind)) dX3_heir_16
