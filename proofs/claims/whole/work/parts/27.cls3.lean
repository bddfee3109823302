set_option maxHeartbeats 4000000 in
set_option maxRecDepth 100000 in
theorem c_X3_lacks (E : En) (σ : Mm) (K L : Mm) (g : Int32) (F : Nat → Int32) (tl : Int32) (Bt W Z : Nat → Int32) (N : Mm) (hC : CR σ (K, L, g, F, tl, Bt, W, Z, N)) (q : Int32) : CtI E yX3_lacks cX3_lacks 6 (some .int) 3 70 [.ref (eA E 0), .int q] σ (fun rr σ2 => rr = (opLacks (K, L, g, F, tl, Bt, W, Z, N) q).1 ∧ CR σ2 (opLacks (K, L, g, F, tl, Bt, W, Z, N) q).2 ∧ FC σ σ2) := by
  obtain ⟨⟨hK, hO⟩, ⟨hg1, hg2, hg3⟩, hFd, ⟨⟨htl, htl2⟩, hBt⟩, hSh⟩ := id hC
  obtain ⟨⟨hn, h12⟩, hpp, hlw, hsp, hz0⟩ := id hO
  refine CtI.of (by decide +kernel) (Nat.le_of_ble_eq_true rfl) (fun p e0 s m below meth c C hr hlk => ?_)
  refine gx_lv (lv' := [(0, .ref (eA E 0)), (1, .int q)]) rfl ?_
  refine gx_aload_n C dX3_lacks_0 (by rfl) (by rfl) ?_
  refine gx_getr (j := 13) (k := 0) C ck3 (by rfl) (by rfl) (by decide) fl_X3_10 dX3_lacks_1 ?_
  refine gx_iload_n C dX3_lacks_4 (by rfl) (by rfl) ?_
  refine gx_callVI (As := [.int q]) (rest := []) C (k_X0_has E σ 13 isE_13 K hK hO q) z_X0_has ck0 (by rfl) (by rfl) ml_X3_99 (by rfl) (Nat.le_of_ble_eq_true rfl) ⟨Nat.le_of_ble_eq_true rfl, Nat.le_of_ble_eq_true rfl⟩ dX3_lacks_5 (fun r1 σ1 w1 => ?_)
  obtain ⟨u1, u2⟩ := w1; rw [u1, u2]; clear u1 u2
  refine gx_if_ne (tgt := 18) C dX3_lacks_8 (by decide) (fun h2 => ?_) (fun h2 => ?_)
  ·
    have h2 := b2_nz.mp h2
    obtain ⟨k, hk, rfl⟩ := has_nat hO h2
    have ck : (nI k).toNatClampNeg = k := nI_clamp (by omega)
    refine gx_aload_n C dX3_lacks_18 (by rfl) (by rfl) ?_
    refine gx_getr (j := 13) (k := 0) C ck3 (by rfl) (by rfl) (by decide) fl_X3_10 dX3_lacks_19 ?_
    refine gx_getr (j := 15) (k := 1) C ck0 (by rfl) (by rfl) (by decide) fl_X3_105 dX3_lacks_22 ?_
    refine gx_iload_n C dX3_lacks_25 (by rfl) (by rfl) ?_
    refine gx_ialdN (k := k) C (by rfl) rfl (by omega) (by decide) dX3_lacks_26 ?_
    refine gx_st (st' := [.int (K 2 k)]) (by rw [hK.r2 (p := k) (by omega)]) ?_
    refine gx_iconst (v := (-1)) C dX3_lacks_27 (by decide) ?_
    refine gx_icmp_ne (tgt := 38) C dX3_lacks_28 (by decide) (fun h3 => ?_) (fun h3 => ?_)
    ·
      refine gx_aload_n C dX3_lacks_38 (by rfl) (by rfl) ?_
      refine gx_getr (j := 13) (k := 0) C ck3 (by rfl) (by rfl) (by decide) fl_X3_10 dX3_lacks_39 ?_
      refine gx_iload_n C dX3_lacks_42 (by rfl) (by rfl) ?_
      refine gx_aload_n C dX3_lacks_43 (by rfl) (by rfl) ?_
      refine gx_getr (j := 13) (k := 0) C ck3 (by rfl) (by rfl) (by decide) fl_X3_10 dX3_lacks_44 ?_
      refine gx_callVI (As := []) (rest := [.int (nI k), .ref (eA E 13)]) C (c_X0_counting E σ 13 isE_13 K hK hO) z_X0_counting ck0 (by rfl) (by rfl) ml_X3_63 (by rfl) (Nat.le_of_ble_eq_true rfl) ⟨Nat.le_of_ble_eq_true rfl, Nat.le_of_ble_eq_true rfl⟩ dX3_lacks_47 (fun r4 σ4 w4 => ?_)
      obtain ⟨u1, u2⟩ := w4; rw [u1, u2]; clear u1 u2
      refine gx_callVI (As := [.int (nI k), .int (bset (nn K) (cgP K))]) (rest := []) C (c_X0_judgesOf E σ 13 isE_13 K hK hO k (by omega)) z_X0_judgesOf ck0 (by rfl) (by rfl) ml_X3_147 (by rfl) (Nat.le_of_ble_eq_true rfl) ⟨Nat.le_of_ble_eq_true rfl, Nat.le_of_ble_eq_true rfl⟩ dX3_lacks_50 (fun r5 σ5 w5 => ?_)
      obtain ⟨u1, u2⟩ := w5; rw [u1, u2]; clear u1 u2
      refine gx_istore_n (lv2 := [(2, .int (bset (nn K) (blP K k))), (0, .ref (eA E 0)), (1, .int (nI k))]) C dX3_lacks_53 (by rfl) (by decide) rfl ?_
      refine gx_iload_n C dX3_lacks_54 (by rfl) (by rfl) ?_
      refine gx_callSI (As := [.int (bset (nn K) (blP K k))]) (rest := []) C (c_J6_bitCount_0f7a4 E σ (bset (nn K) (blP K k))) z_J6_bitCount_0f7a4 (by rfl) ml_X3_67 (by rfl) (Nat.le_of_ble_eq_true rfl) ⟨Nat.le_of_ble_eq_true rfl, Nat.le_of_ble_eq_true rfl⟩ dX3_lacks_55 (fun r6 σ6 w6 => ?_)
      obtain ⟨u1, u2⟩ := w6; rw [u1, u2]; clear u1 u2
      refine gx_st (st' := [.int (nI (cnt (blP K k) (nn K)))]) (by rw [bitC_bset (n := (nn K)) (P := (blP K k)) h12]) ?_
      refine gx_istore_n (lv2 := [(3, .int (nI (cnt (blP K k) (nn K)))), (2, .int (bset (nn K) (blP K k))), (0, .ref (eA E 0)), (1, .int (nI k))]) C dX3_lacks_58 (by rfl) (by decide) rfl ?_
      refine gx_aload_n C dX3_lacks_59 (by rfl) (by rfl) ?_
      refine gx_getr (j := 13) (k := 0) C ck3 (by rfl) (by rfl) (by decide) fl_X3_10 dX3_lacks_60 ?_
      refine gx_iload_n C dX3_lacks_63 (by rfl) (by rfl) ?_
      refine gx_iload_n C dX3_lacks_64 (by rfl) (by rfl) ?_
      refine gx_callVI (As := [.int (bset (nn K) (blP K k)), .int (nI k)]) (rest := []) C (c_X0_wanting E σ 13 isE_13 K hK hO (blP K k) k (by omega)) z_X0_wanting ck0 (by rfl) (by rfl) ml_X3_150 (by rfl) (Nat.le_of_ble_eq_true rfl) ⟨Nat.le_of_ble_eq_true rfl, Nat.le_of_ble_eq_true rfl⟩ dX3_lacks_65 (fun r7 σ7 w7 => ?_)
      obtain ⟨u1, u2⟩ := w7; rw [u1, u2]; clear u1 u2
      refine gx_st (st' := [.int (bset (nn K) (agP K k))]) (by rw [show bset (nn K) (fun t => (blP K k) t && wn K t k) = bset (nn K) (agP K k) from rfl]) ?_
      refine gx_callSI (As := [.int (bset (nn K) (agP K k))]) (rest := []) C (c_J6_bitCount_0f7a4 E σ (bset (nn K) (agP K k))) z_J6_bitCount_0f7a4 (by rfl) ml_X3_67 (by rfl) (Nat.le_of_ble_eq_true rfl) ⟨Nat.le_of_ble_eq_true rfl, Nat.le_of_ble_eq_true rfl⟩ dX3_lacks_68 (fun r8 σ8 w8 => ?_)
      obtain ⟨u1, u2⟩ := w8; rw [u1, u2]; clear u1 u2
      refine gx_st (st' := [.int (nI (cnt (agP K k) (nn K)))]) (by rw [bitC_bset (n := (nn K)) (P := (agP K k)) h12]) ?_
      refine gx_istore (lv2 := [(4, .int (nI (cnt (agP K k) (nn K)))), (3, .int (nI (cnt (blP K k) (nn K)))), (2, .int (bset (nn K) (blP K k))), (0, .ref (eA E 0)), (1, .int (nI k))]) C dX3_lacks_71 (by decide) rfl ?_
      refine gx_iconst (v := 0) C dX3_lacks_73 (by decide) ?_
      refine gx_istore (lv2 := [(5, .int 0), (4, .int (nI (cnt (agP K k) (nn K)))), (3, .int (nI (cnt (blP K k) (nn K)))), (2, .int (bset (nn K) (blP K k))), (0, .ref (eA E 0)), (1, .int (nI k))]) C dX3_lacks_74 (by decide) rfl ?_
      have loop76 : ∀ (f : Nat) (mv : Nat), mv ≤ cnt (blP K k) (nn K) + 1 → f + mv = 14 → lkF K (cnt (agP K k) (nn K)) (cnt (blP K k) (nn K)) f mv = lkF K (cnt (agP K k) (nn K)) (cnt (blP K k) (nn K)) 14 0 → Gx E p e0 (rmF 3 70) s m ([.ref (eA E 0), .int (nI k)] : List Value).toArray below meth c (MQ below (va_Qi (fun rr σ2 => rr = (opLacks (K, L, g, F, tl, Bt, W, Z, N) (nI k)).1 ∧ CR σ2 (opLacks (K, L, g, F, tl, Bt, W, Z, N) (nI k)).2 ∧ FC σ σ2) (WQ E) (AA E s.heap.size)) ([.ref (eA E 0), .int (nI k)] : List Value).toArray s 0 0 (AA E s.heap.size)) 6 76 [(0, .ref (eA E 0)), (1, .int (nI k)), (2, .int (bset (nn K) (blP K k))), (3, .int (nI (cnt (blP K k) (nn K)))), (4, .int (nI (cnt (agP K k) (nn K)))), (5, .int (nI mv))] [] σ := by
        intro f
        induction f with
        | zero => intro mv hm hf eT; have ha := cnt_le (blP K k) (nn K); exact absurd hm (by omega)
        | succ f ih76 =>
          intro mv hm hf eT
          have ha := cnt_le (blP K k) (nn K)
          have hw := cnt_le (agP K k) (nn K)
          refine gx_iload C dX3_lacks_76 (by rfl) ?_
          refine gx_iload C dX3_lacks_78 (by rfl) ?_
          refine gx_iadd C dX3_lacks_80 ?_
          refine gx_st (st' := [.int (nI (cnt (agP K k) (nn K) + mv))]) (by rw [show (nI (cnt (agP K k) (nn K))) + (nI mv) = nI (cnt (agP K k) (nn K) + mv) from nI_add (cnt (agP K k) (nn K)) mv]) ?_
          refine gx_iload_n C dX3_lacks_81 (by rfl) (by rfl) ?_
          refine gx_icmp_gt (tgt := 110) C dX3_lacks_82 (by decide) (fun h9 => ?_) (fun h9 => ?_)
          ·
            have h9 := (nI_ltI (a := (cnt (blP K k) (nn K))) (b := (cnt (agP K k) (nn K) + mv)) (by omega) (by omega)).mp h9
            refine gx_aload_n C dX3_lacks_110 (by rfl) (by rfl) ?_
            refine gx_ldc C kc_X3_156 dX3_lacks_111 ?_
            refine gx_callVI (As := [.int (-1000004)]) (rest := []) C (c_X3_found E σ (-1000004) 3 (by decide) (by decide)) z_X3_found ck3 (by rfl) (by rfl) ml_X3_49 (by rfl) (Nat.le_of_ble_eq_true rfl) ⟨Nat.le_of_ble_eq_true rfl, Nat.le_of_ble_eq_true rfl⟩ dX3_lacks_113 (fun r10 σ10 w10 => ?_)
            obtain ⟨u1, u2⟩ := w10; rw [u1, u2]; clear u1 u2
            exact gx_iret C hr hlk rfl (fin_fd hC (by decide) (by have q1 : lkF K (cnt (agP K k) (nn K)) (cnt (blP K k) (nn K)) 14 0 = -1 := (by rw [← eT, lkF, if_neg (by omega)]); simp only [opLacks, ck, q1, bey, sta, non] <;> grind)) dX3_lacks_116
          ·
            have h9 := (not_congr (nI_ltI (a := (cnt (blP K k) (nn K))) (b := (cnt (agP K k) (nn K) + mv)) (by omega) (by omega))).mp h9
            refine gx_aload_n C dX3_lacks_85 (by rfl) (by rfl) ?_
            refine gx_getr (j := 13) (k := 0) C ck3 (by rfl) (by rfl) (by decide) fl_X3_10 dX3_lacks_86 ?_
            refine gx_iload C dX3_lacks_89 (by rfl) ?_
            refine gx_iload C dX3_lacks_91 (by rfl) ?_
            refine gx_iadd C dX3_lacks_93 ?_
            refine gx_st (st' := [.int (nI (cnt (agP K k) (nn K) + mv)), .ref (eA E 13)]) (by rw [show (nI (cnt (agP K k) (nn K))) + (nI mv) = nI (cnt (agP K k) (nn K) + mv) from nI_add (cnt (agP K k) (nn K)) mv]) ?_
            refine gx_iload_n C dX3_lacks_94 (by rfl) (by rfl) ?_
            refine gx_callVI (As := [.int (nI (cnt (agP K k) (nn K) + mv)), .int (nI (cnt (blP K k) (nn K)))]) (rest := []) C (c_X0_isEnough E σ 13 isE_13 K hK hO (nI (cnt (agP K k) (nn K) + mv)) (nI (cnt (blP K k) (nn K)))) z_X0_isEnough ck0 (by rfl) (by rfl) ml_X3_153 (by rfl) (Nat.le_of_ble_eq_true rfl) ⟨Nat.le_of_ble_eq_true rfl, Nat.le_of_ble_eq_true rfl⟩ dX3_lacks_95 (fun r11 σ11 w11 => ?_)
            obtain ⟨u1, u2⟩ := w11; rw [u1, u2]; clear u1 u2
            refine gx_if_eq (tgt := 104) C dX3_lacks_98 (by decide) (fun h12 => ?_) (fun h12 => ?_)
            ·
              have h12 := b2_z.mp h12
              refine gx_iinc (v := nI (mv + 1)) (lv2 := [(5, .int (nI (mv + 1))), (0, .ref (eA E 0)), (1, .int (nI k)), (2, .int (bset (nn K) (blP K k))), (3, .int (nI (cnt (blP K k) (nn K)))), (4, .int (nI (cnt (agP K k) (nn K))))]) C dX3_lacks_104 (by rfl) (by exact nI_p1 _) (by decide) rfl ?_
              refine gx_goto (tgt := 76) C dX3_lacks_107 (by decide) ?_
              refine gx_sub [1, 2, 3, 4, 5, 0] (lv' := [(0, .ref (eA E 0)), (1, .int (nI k)), (2, .int (bset (nn K) (blP K k))), (3, .int (nI (cnt (blP K k) (nn K)))), (4, .int (nI (cnt (agP K k) (nn K)))), (5, .int (nI (mv + 1)))]) rfl ?_
              exact ih76 (mv + 1) (by omega) (by omega) (by rw [← eT, lkF, if_pos (by omega), if_neg (by assumption)])
            ·
              have h12 := b2_nz.mp h12
              refine gx_iload C dX3_lacks_101 (by rfl) ?_
              exact gx_iret C hr hlk rfl (fin_rd hC (by have q1 : lkF K (cnt (agP K k) (nn K)) (cnt (blP K k) (nn K)) 14 0 = nI mv := (by rw [← eT, lkF, if_pos (by omega), if_pos (by assumption)]); have q2 : ¬ nI mv = -1 := nI_m1 (by omega); simp only [opLacks, ck, q1, bey, sta, non] <;> grind)) dX3_lacks_103
      refine gx_sub [4, 5, 3, 2, 1, 0] (lv' := [(0, .ref (eA E 0)), (1, .int (nI k)), (2, .int (bset (nn K) (blP K k))), (3, .int (nI (cnt (blP K k) (nn K)))), (4, .int (nI (cnt (agP K k) (nn K)))), (5, .int 0)]) rfl ?_
      exact loop76 14 0 (by omega) (by omega) rfl
    ·
      refine gx_aload_n C dX3_lacks_31 (by rfl) (by rfl) ?_
      refine gx_ldc C kc_X3_56 dX3_lacks_32 ?_
      refine gx_callVI (As := [.int (-1000005)]) (rest := []) C (c_X3_found E σ (-1000005) 4 (by decide) (by decide)) z_X3_found ck3 (by rfl) (by rfl) ml_X3_49 (by rfl) (Nat.le_of_ble_eq_true rfl) ⟨Nat.le_of_ble_eq_true rfl, Nat.le_of_ble_eq_true rfl⟩ dX3_lacks_34 (fun r13 σ13 w13 => ?_)
      obtain ⟨u1, u2⟩ := w13; rw [u1, u2]; clear u1 u2
      exact gx_iret C hr hlk rfl (fin_fd hC (by decide) (by simp only [opLacks, bey, ful, knd, non, sta, mis, siz] <;> grind)) dX3_lacks_37
  ·
    have h2 := b2_z.mp h2
    refine gx_aload_n C dX3_lacks_11 (by rfl) (by rfl) ?_
    refine gx_ldc C kc_X3_48 dX3_lacks_12 ?_
    refine gx_callVI (As := [.int (-1000001)]) (rest := []) C (c_X3_found E σ (-1000001) 0 (by decide) (by decide)) z_X3_found ck3 (by rfl) (by rfl) ml_X3_49 (by rfl) (Nat.le_of_ble_eq_true rfl) ⟨Nat.le_of_ble_eq_true rfl, Nat.le_of_ble_eq_true rfl⟩ dX3_lacks_14 (fun r14 σ14 w14 => ?_)
    obtain ⟨u1, u2⟩ := w14; rw [u1, u2]; clear u1 u2
    exact gx_iret C hr hlk rfl (fin_fd hC (by decide) (by simp only [opLacks, bey, ful, knd, non, sta, mis, siz] <;> grind)) dX3_lacks_17
set_option maxHeartbeats 4000000 in
set_option maxRecDepth 100000 in
theorem c_X3_least (E : En) (σ : Mm) (K L : Mm) (g : Int32) (F : Nat → Int32) (tl : Int32) (Bt W Z : Nat → Int32) (N : Mm) (hC : CR σ (K, L, g, F, tl, Bt, W, Z, N)) (q n : Int32) : CtI E yX3_least cX3_least 5 (some .int) 6 137 [.ref (eA E 0), .int q, .int n] σ (fun rr σ2 => rr = (opLeast (K, L, g, F, tl, Bt, W, Z, N) q n).1 ∧ CR σ2 (opLeast (K, L, g, F, tl, Bt, W, Z, N) q n).2 ∧ FC σ σ2) := by
  obtain ⟨⟨hK, hO⟩, ⟨hg1, hg2, hg3⟩, hFd, ⟨⟨htl, htl2⟩, hBt⟩, hSh⟩ := id hC
  obtain ⟨⟨hn, h12⟩, hpp, hlw, hsp, hz0⟩ := id hO
  refine CtI.of (by decide +kernel) (Nat.le_of_ble_eq_true rfl) (fun p e0 s m below meth c C hr hlk => ?_)
  refine gx_lv (lv' := [(0, .ref (eA E 0)), (1, .int q), (2, .int n)]) rfl ?_
  refine gx_aload_n C dX3_least_0 (by rfl) (by rfl) ?_
  refine gx_getr (j := 13) (k := 0) C ck3 (by rfl) (by rfl) (by decide) fl_X3_10 dX3_least_1 ?_
  refine gx_iload_n C dX3_least_4 (by rfl) (by rfl) ?_
  refine gx_callVI (As := [.int q]) (rest := []) C (k_X0_has E σ 13 isE_13 K hK hO q) z_X0_has ck0 (by rfl) (by rfl) ml_X3_99 (by rfl) (Nat.le_of_ble_eq_true rfl) ⟨Nat.le_of_ble_eq_true rfl, Nat.le_of_ble_eq_true rfl⟩ dX3_least_5 (fun r1 σ1 w1 => ?_)
  obtain ⟨u1, u2⟩ := w1; rw [u1, u2]; clear u1 u2
  refine gx_if_eq (tgt := 21) C dX3_least_8 (by decide) (fun h2 => ?_) (fun h2 => ?_)
  ·
    have h2 := b2_z.mp h2
    refine gx_aload_n C dX3_least_21 (by rfl) (by rfl) ?_
    refine gx_ldc C kc_X3_48 dX3_least_22 ?_
    refine gx_callVI (As := [.int (-1000001)]) (rest := []) C (c_X3_found E σ (-1000001) 0 (by decide) (by decide)) z_X3_found ck3 (by rfl) (by rfl) ml_X3_49 (by rfl) (Nat.le_of_ble_eq_true rfl) ⟨Nat.le_of_ble_eq_true rfl, Nat.le_of_ble_eq_true rfl⟩ dX3_least_24 (fun r3 σ3 w3 => ?_)
    obtain ⟨u1, u2⟩ := w3; rw [u1, u2]; clear u1 u2
    exact gx_iret C hr hlk rfl (fin_fd hC (by decide) (by first | (simp only [opLeast, ck, ct, cg1, bey, sta, non] <;> grind) | (simp only [opLeast, ck, ct, bey, sta, non] <;> grind) | (simp only [opLeast, bey, sta, non] <;> grind))) dX3_least_27
  ·
    have h2 := b2_nz.mp h2
    obtain ⟨k, hk, rfl⟩ := has_nat hO h2
    have ck : (nI k).toNatClampNeg = k := nI_clamp (by omega)
    refine gx_iload_n C dX3_least_11 (by rfl) (by rfl) ?_
    refine gx_iconst (v := 1) C dX3_least_12 (by decide) ?_
    refine gx_bipush (v := 24) C dX3_least_13 (by decide) ?_
    refine gx_callSI (As := [.int n, .int 1, .int 24]) (rest := []) C (c_X3_isWithin E σ n 1 24) z_X3_isWithin (by rfl) ml_X3_44 (by rfl) (Nat.le_of_ble_eq_true rfl) ⟨Nat.le_of_ble_eq_true rfl, Nat.le_of_ble_eq_true rfl⟩ dX3_least_15 (fun r4 σ4 w4 => ?_)
    obtain ⟨u1, u2⟩ := w4; rw [u1, u2]; clear u1 u2
    refine gx_if_ne (tgt := 28) C dX3_least_18 (by decide) (fun h5 => ?_) (fun h5 => ?_)
    ·
      have h5 := b2_nz.mp h5
      obtain ⟨t, ht, rfl⟩ := i_nat (M := 24) (n := 24) (by decide) ⟨Int32.le_trans (by decide) h5.1, h5.2⟩
      have ct : (nI t).toNatClampNeg = t := nI_clamp (by omega)
      refine gx_aload_n C dX3_least_28 (by rfl) (by rfl) ?_
      refine gx_getr (j := 13) (k := 0) C ck3 (by rfl) (by rfl) (by decide) fl_X3_10 dX3_least_29 ?_
      refine gx_getr (j := 19) (k := 5) C ck0 (by rfl) (by rfl) (by decide) fl_X3_117 dX3_least_32 ?_
      refine gx_iload_n C dX3_least_35 (by rfl) (by rfl) ?_
      refine gx_ialdN (k := k) C (by rfl) rfl (by omega) (by decide) dX3_least_36 ?_
      refine gx_st (st' := [.int (K 6 k)]) (by rw [hK.r6 (p := k) (by omega)]) ?_
      refine gx_istore_n (lv2 := [(3, .int (K 6 k)), (0, .ref (eA E 0)), (1, .int (nI k)), (2, .int (nI t))]) C dX3_least_37 (by rfl) (by decide) rfl ?_
      refine gx_aload_n C dX3_least_38 (by rfl) (by rfl) ?_
      refine gx_getr (j := 13) (k := 0) C ck3 (by rfl) (by rfl) (by decide) fl_X3_10 dX3_least_39 ?_
      refine gx_iload_n C dX3_least_42 (by rfl) (by rfl) ?_
      refine gx_callVI (As := [.int (K 6 k)]) (rest := []) C (k_X0_has E σ 13 isE_13 K hK hO (K 6 k)) z_X0_has ck0 (by rfl) (by rfl) ml_X3_99 (by rfl) (Nat.le_of_ble_eq_true rfl) ⟨Nat.le_of_ble_eq_true rfl, Nat.le_of_ble_eq_true rfl⟩ dX3_least_43 (fun r6 σ6 w6 => ?_)
      obtain ⟨u1, u2⟩ := w6; rw [u1, u2]; clear u1 u2
      refine gx_if_eq (tgt := 70) C dX3_least_46 (by decide) (fun h7 => ?_) (fun h7 => ?_)
      ·
        have h7 := b2_z.mp h7
        refine gx_aload_n C dX3_least_70 (by rfl) (by rfl) ?_
        refine gx_ldc C kc_X3_56 dX3_least_71 ?_
        refine gx_callVI (As := [.int (-1000005)]) (rest := []) C (c_X3_found E σ (-1000005) 4 (by decide) (by decide)) z_X3_found ck3 (by rfl) (by rfl) ml_X3_49 (by rfl) (Nat.le_of_ble_eq_true rfl) ⟨Nat.le_of_ble_eq_true rfl, Nat.le_of_ble_eq_true rfl⟩ dX3_least_73 (fun r8 σ8 w8 => ?_)
        obtain ⟨u1, u2⟩ := w8; rw [u1, u2]; clear u1 u2
        exact gx_iret C hr hlk rfl (fin_fd hC (by decide) (by first | (simp only [opLeast, ck, ct, cg1, bey, sta, non] <;> grind) | (simp only [opLeast, ck, ct, bey, sta, non] <;> grind) | (simp only [opLeast, bey, sta, non] <;> grind))) dX3_least_76
      ·
        have h7 := b2_nz.mp h7
        obtain ⟨g1, hg1, eg1⟩ := has_nat hO h7
        have cg1 : (K 6 k).toNatClampNeg = g1 := by rw [eg1]; exact nI_clamp (by omega)
        refine gx_lv (lv' := [(3, .int (nI g1)), (0, .ref (eA E 0)), (1, .int (nI k)), (2, .int (nI t))]) (by rw [eg1]) ?_
        refine gx_aload_n C dX3_least_49 (by rfl) (by rfl) ?_
        refine gx_getr (j := 13) (k := 0) C ck3 (by rfl) (by rfl) (by decide) fl_X3_10 dX3_least_50 ?_
        refine gx_getr (j := 15) (k := 1) C ck0 (by rfl) (by rfl) (by decide) fl_X3_105 dX3_least_53 ?_
        refine gx_iload_n C dX3_least_56 (by rfl) (by rfl) ?_
        refine gx_ialdN (k := g1) C (by rfl) rfl (by omega) (by decide) dX3_least_57 ?_
        refine gx_st (st' := [.int (K 2 g1)]) (by rw [hK.r2 (p := g1) (by omega)]) ?_
        refine gx_iconst (v := (-1)) C dX3_least_58 (by decide) ?_
        refine gx_icmp_eq (tgt := 70) C dX3_least_59 (by decide) (fun h9 => ?_) (fun h9 => ?_)
        ·
          refine gx_aload_n C dX3_least_70 (by rfl) (by rfl) ?_
          refine gx_ldc C kc_X3_56 dX3_least_71 ?_
          refine gx_callVI (As := [.int (-1000005)]) (rest := []) C (c_X3_found E σ (-1000005) 4 (by decide) (by decide)) z_X3_found ck3 (by rfl) (by rfl) ml_X3_49 (by rfl) (Nat.le_of_ble_eq_true rfl) ⟨Nat.le_of_ble_eq_true rfl, Nat.le_of_ble_eq_true rfl⟩ dX3_least_73 (fun r10 σ10 w10 => ?_)
          obtain ⟨u1, u2⟩ := w10; rw [u1, u2]; clear u1 u2
          exact gx_iret C hr hlk rfl (fin_fd hC (by decide) (by first | (simp only [opLeast, ck, ct, cg1, bey, sta, non] <;> grind) | (simp only [opLeast, ck, ct, bey, sta, non] <;> grind) | (simp only [opLeast, bey, sta, non] <;> grind))) dX3_least_76
        ·
          refine gx_aload_n C dX3_least_62 (by rfl) (by rfl) ?_
          refine gx_iload_n C dX3_least_63 (by rfl) (by rfl) ?_
          refine gx_callVI (As := [.int (nI t)]) (rest := []) C (c_X3_isTooLate E σ K hK (nI t)) z_X3_isTooLate ck3 (by rfl) (by rfl) ml_X3_163 (by rfl) (Nat.le_of_ble_eq_true rfl) ⟨Nat.le_of_ble_eq_true rfl, Nat.le_of_ble_eq_true rfl⟩ dX3_least_64 (fun r11 σ11 w11 => ?_)
          obtain ⟨u1, u2⟩ := w11; rw [u1, u2]; clear u1 u2
          refine gx_if_eq (tgt := 77) C dX3_least_67 (by decide) (fun h12 => ?_) (fun h12 => ?_)
          ·
            have h12 := b2_z.mp h12
            refine gx_iconst (v := 0) C dX3_least_77 (by decide) ?_
            refine gx_istore (lv2 := [(4, .int 0), (3, .int (nI g1)), (0, .ref (eA E 0)), (1, .int (nI k)), (2, .int (nI t))]) C dX3_least_78 (by decide) rfl ?_
            have loop80 : ∀ (kf vv : Nat), vv ≤ 1000 → 1000 < vv + kf → ∀ τ : Mm, (Fr 37 σ τ) → (lsF K k g1 t (1000 - vv) vv = lsF K k g1 t 1000 0) → Gx E p e0 (rmF 6 137) s m ([.ref (eA E 0), .int (nI k), .int (nI t)] : List Value).toArray below meth c (MQ below (va_Qi (fun rr σ2 => rr = (opLeast (K, L, g, F, tl, Bt, W, Z, N) (nI k) (nI t)).1 ∧ CR σ2 (opLeast (K, L, g, F, tl, Bt, W, Z, N) (nI k) (nI t)).2 ∧ FC σ σ2) (WQ E) (AA E s.heap.size)) ([.ref (eA E 0), .int (nI k), .int (nI t)] : List Value).toArray s 0 0 (AA E s.heap.size)) 5 80 [(0, .ref (eA E 0)), (1, .int (nI k)), (2, .int (nI t)), (3, .int (nI g1)), (4, .int (nI vv))] [] τ := by
              intro kf
              induction kf with
              | zero => intro vv q1 q2; exact absurd q2 (by omega)
              | succ kf ih80 =>
                intro vv a80 b80 τ hFt eT
                have hKn := Emp.fr (e2 := 37) hK hFt (by decide)
                refine gx_iload C dX3_least_80 (by rfl) ?_
                refine gx_sipush (v := 999) C dX3_least_82 (by decide) ?_
                refine gx_icmp_gt (tgt := 143) C dX3_least_85 (by decide) (fun h13 => ?_) (fun h13 => ?_)
                ·
                  have h13 := (nI_ltI (a := 999) (b := vv) (by omega) (by omega)).mp h13
                  refine gx_aload_n C dX3_least_143 (by rfl) (by rfl) ?_
                  refine gx_ldc C kc_X3_156 dX3_least_144 ?_
                  refine gx_callVI (As := [.int (-1000004)]) (rest := []) C (c_X3_found E τ (-1000004) 3 (by decide) (by decide)) z_X3_found ck3 (by rfl) (by rfl) ml_X3_49 (by rfl) (Nat.le_of_ble_eq_true rfl) ⟨Nat.le_of_ble_eq_true rfl, Nat.le_of_ble_eq_true rfl⟩ dX3_least_146 (fun r14 σ14 w14 => ?_)
                  obtain ⟨u1, u2⟩ := w14; rw [u1, u2]; clear u1 u2
                  exact gx_iret C hr hlk rfl (fin_tfd hC hFt (by decide) (by have q1 : lsF K k g1 t 1000 0 = -1 := (by first | (rw [← eT, show 1000 - vv = 0 by omega, lsF]; done) | rw [← eT, show 1000 - vv = (1000 - (vv + 1)) + 1 by omega, lsF, if_neg (by assumption)]); simp only [opLeast, ck, ct, cg1, q1, bey, sta, non] <;> grind)) dX3_least_149
                ·
                  have h13 := (not_congr (nI_ltI (a := 999) (b := vv) (by omega) (by omega))).mp h13
                  refine gx_aload_n C dX3_least_88 (by rfl) (by rfl) ?_
                  refine gx_getr (j := 13) (k := 0) C ck3 (by rfl) (by rfl) (by decide) fl_X3_10 dX3_least_89 ?_
                  refine gx_iload_n C dX3_least_92 (by rfl) (by rfl) ?_
                  refine gx_iload C dX3_least_93 (by rfl) ?_
                  refine gx_callVI (As := [.int (nI k), .int (nI vv)]) (rest := []) C (c_X0_canTake E τ 13 isE_13 K hKn hO k (by omega) (nI vv)) z_X0_canTake ck0 (by rfl) (by rfl) ml_X3_137 (by rfl) (Nat.le_of_ble_eq_true rfl) ⟨Nat.le_of_ble_eq_true rfl, Nat.le_of_ble_eq_true rfl⟩ dX3_least_95 (fun r15 σ15 w15 => ?_)
                  obtain ⟨u1, u2⟩ := w15; rw [u1, u2]; clear u1 u2
                  refine gx_if_eq (tgt := 143) C dX3_least_98 (by decide) (fun h16 => ?_) (fun h16 => ?_)
                  ·
                    have h16 := b2_z.mp h16
                    refine gx_aload_n C dX3_least_143 (by rfl) (by rfl) ?_
                    refine gx_ldc C kc_X3_156 dX3_least_144 ?_
                    refine gx_callVI (As := [.int (-1000004)]) (rest := []) C (c_X3_found E τ (-1000004) 3 (by decide) (by decide)) z_X3_found ck3 (by rfl) (by rfl) ml_X3_49 (by rfl) (Nat.le_of_ble_eq_true rfl) ⟨Nat.le_of_ble_eq_true rfl, Nat.le_of_ble_eq_true rfl⟩ dX3_least_146 (fun r17 σ17 w17 => ?_)
                    obtain ⟨u1, u2⟩ := w17; rw [u1, u2]; clear u1 u2
                    exact gx_iret C hr hlk rfl (fin_tfd hC hFt (by decide) (by have q1 : lsF K k g1 t 1000 0 = -1 := (by first | (rw [← eT, show 1000 - vv = 0 by omega, lsF]; done) | rw [← eT, show 1000 - vv = (1000 - (vv + 1)) + 1 by omega, lsF, if_neg (by assumption)]); simp only [opLeast, ck, ct, cg1, q1, bey, sta, non] <;> grind)) dX3_least_149
                  ·
                    have h16 := b2_nz.mp h16
                    refine gx_aload_n C dX3_least_101 (by rfl) (by rfl) ?_
                    refine gx_getr (j := 37) (k := 3) C ck3 (by rfl) (by rfl) (by decide) fl_X3_19 dX3_least_102 ?_
                    refine gx_aload_n C dX3_least_105 (by rfl) (by rfl) ?_
                    refine gx_getr (j := 13) (k := 0) C ck3 (by rfl) (by rfl) (by decide) fl_X3_10 dX3_least_106 ?_
                    refine gx_callVV (As := [.ref (eA E 13)]) (rest := []) C (c_X0_becomeLike E τ 37 isE_37 13 isE_13 (by decide) K hKn) z_X0_becomeLike ck0 (by rfl) (by rfl) ml_X3_169 (by rfl) (Nat.le_of_ble_eq_true rfl) ⟨Nat.le_of_ble_eq_true rfl, Nat.le_of_ble_eq_true rfl⟩ dX3_least_109 (fun σ18 w18 => ?_)
                    obtain ⟨hK18, hF18⟩ := w18
                    have hK18_13 := Emp.fr (e := 13) (e2 := 37) hKn hF18 (by decide)
                    refine gx_aload_n C dX3_least_112 (by rfl) (by rfl) ?_
                    refine gx_getr (j := 37) (k := 3) C ck3 (by rfl) (by rfl) (by decide) fl_X3_19 dX3_least_113 ?_
                    refine gx_iload_n C dX3_least_116 (by rfl) (by rfl) ?_
                    refine gx_iload C dX3_least_117 (by rfl) ?_
                    refine gx_callVV (As := [.int (nI k), .int (nI vv)]) (rest := []) C (c_X0_take E σ18 37 isE_37 K hK18 hO k (by omega) g1 hg1 eg1 (nI vv)) z_X0_take ck0 (by rfl) (by rfl) ml_X3_141 (by rfl) (Nat.le_of_ble_eq_true rfl) ⟨Nat.le_of_ble_eq_true rfl, Nat.le_of_ble_eq_true rfl⟩ dX3_least_119 (fun σ19 w19 => ?_)
                    obtain ⟨hK19, hF19⟩ := w19
                    have hK19_13 := Emp.fr (e := 13) (e2 := 37) hK18_13 hF19 (by decide)
                    refine gx_aload_n C dX3_least_122 (by rfl) (by rfl) ?_
                    refine gx_getr (j := 37) (k := 3) C ck3 (by rfl) (by rfl) (by decide) fl_X3_19 dX3_least_123 ?_
                    refine gx_iload_n C dX3_least_126 (by rfl) (by rfl) ?_
                    refine gx_iload_n C dX3_least_127 (by rfl) (by rfl) ?_
                    refine gx_callVI (As := [.int (nI g1), .int (nI t)]) (rest := []) C (c_X0_keeps E σ19 37 isE_37 (tkK K k g1 (nI vv)) hK19 (Ok_tk hO (by omega) hg1 (nI_rg (n := 9999) (by omega) (by omega)) (by grind) (by grind)) g1 (by omega) t (by omega)) z_X0_keeps ck0 (by rfl) (by rfl) ml_X3_190 (by rfl) (Nat.le_of_ble_eq_true rfl) ⟨Nat.le_of_ble_eq_true rfl, Nat.le_of_ble_eq_true rfl⟩ dX3_least_128 (fun r20 σ20 w20 => ?_)
                    obtain ⟨er20, -, hF20⟩ := w20
                    have hK20_13 := Emp.fr (e := 13) (e2 := 37) hK19_13 hF20 (by decide)
                    refine gx_st (st' := [.int (b2 (¬ mos t (tkK K k g1 (nI vv)) 2 g1 = -1))]) (by rw [er20]) ?_
                    refine gx_if_eq (tgt := 137) C dX3_least_131 (by decide) (fun h21 => ?_) (fun h21 => ?_)
                    ·
                      have h21 := b2_z.mp h21
                      refine gx_iinc (v := nI (vv + 1)) (lv2 := [(4, .int (nI (vv + 1))), (0, .ref (eA E 0)), (1, .int (nI k)), (2, .int (nI t)), (3, .int (nI g1))]) C dX3_least_137 (by rfl) (by exact nI_p1 _) (by decide) rfl ?_
                      refine gx_goto (tgt := 80) C dX3_least_140 (by decide) ?_
                      refine gx_sub [1, 2, 3, 4, 0] (lv' := [(0, .ref (eA E 0)), (1, .int (nI k)), (2, .int (nI t)), (3, .int (nI g1)), (4, .int (nI (vv + 1)))]) rfl ?_
                      exact ih80 (vv + 1) (by omega) (by omega) σ20 ((((hFt).tr hF18).tr hF19).tr hF20) (by rw [← eT, show 1000 - vv = (1000 - (vv + 1)) + 1 by omega, lsF, if_pos (by assumption), if_neg (by assumption)])
                    ·
                      have h21 := b2_nz.mp h21
                      refine gx_iload C dX3_least_134 (by rfl) ?_
                      exact gx_iret C hr hlk rfl (fin_try hC ((((hFt).tr hF18).tr hF19).tr hF20) (by have q1 : lsF K k g1 t 1000 0 = nI vv := (by rw [← eT, show 1000 - vv = (1000 - (vv + 1)) + 1 by omega, lsF, if_pos (by assumption), if_pos (by assumption)]); have q2 : ¬ nI vv = -1 := nI_m1 (by omega); simp only [opLeast, ck, ct, cg1, q1, bey, sta, non] <;> grind)) dX3_least_136
            refine gx_sub [2, 3, 4, 1, 0] (lv' := [(0, .ref (eA E 0)), (1, .int (nI k)), (2, .int (nI t)), (3, .int (nI g1)), (4, .int 0)]) rfl ?_
            refine gx_lv (lv' := [(0, .ref (eA E 0)), (1, .int (nI k)), (2, .int (nI t)), (3, .int (nI g1)), (4, .int (nI 0))]) (by rfl) ?_
            exact loop80 (1000 + 1) 0 (by omega) (by omega) σ Fr.rf rfl
          ·
            have h12 := b2_nz.mp h12
            refine gx_aload_n C dX3_least_70 (by rfl) (by rfl) ?_
            refine gx_ldc C kc_X3_56 dX3_least_71 ?_
            refine gx_callVI (As := [.int (-1000005)]) (rest := []) C (c_X3_found E σ (-1000005) 4 (by decide) (by decide)) z_X3_found ck3 (by rfl) (by rfl) ml_X3_49 (by rfl) (Nat.le_of_ble_eq_true rfl) ⟨Nat.le_of_ble_eq_true rfl, Nat.le_of_ble_eq_true rfl⟩ dX3_least_73 (fun r22 σ22 w22 => ?_)
            obtain ⟨u1, u2⟩ := w22; rw [u1, u2]; clear u1 u2
            exact gx_iret C hr hlk rfl (fin_fd hC (by decide) (by first | (simp only [opLeast, ck, ct, cg1, bey, sta, non] <;> grind) | (simp only [opLeast, ck, ct, bey, sta, non] <;> grind) | (simp only [opLeast, bey, sta, non] <;> grind))) dX3_least_76
    ·
      have h5 := b2_z.mp h5
      refine gx_aload_n C dX3_least_21 (by rfl) (by rfl) ?_
      refine gx_ldc C kc_X3_48 dX3_least_22 ?_
      refine gx_callVI (As := [.int (-1000001)]) (rest := []) C (c_X3_found E σ (-1000001) 0 (by decide) (by decide)) z_X3_found ck3 (by rfl) (by rfl) ml_X3_49 (by rfl) (Nat.le_of_ble_eq_true rfl) ⟨Nat.le_of_ble_eq_true rfl, Nat.le_of_ble_eq_true rfl⟩ dX3_least_24 (fun r23 σ23 w23 => ?_)
      obtain ⟨u1, u2⟩ := w23; rw [u1, u2]; clear u1 u2
      exact gx_iret C hr hlk rfl (fin_fd hC (by decide) (by first | (simp only [opLeast, ck, ct, cg1, bey, sta, non] <;> grind) | (simp only [opLeast, ck, ct, bey, sta, non] <;> grind) | (simp only [opLeast, bey, sta, non] <;> grind))) dX3_least_27
set_option maxHeartbeats 4000000 in
set_option maxRecDepth 100000 in
theorem c_X3_best (E : En) (σ : Mm) (K L : Mm) (g : Int32) (F : Nat → Int32) (tl : Int32) (Bt W Z : Nat → Int32) (N : Mm) (hC : CR σ (K, L, g, F, tl, Bt, W, Z, N)) (q n : Int32) : CtI E yX3_best cX3_best 6 (some .int) 6 137 [.ref (eA E 0), .int q, .int n] σ (fun rr σ2 => rr = (opBest (K, L, g, F, tl, Bt, W, Z, N) q n).1 ∧ CR σ2 (opBest (K, L, g, F, tl, Bt, W, Z, N) q n).2 ∧ FC σ σ2) := by
  obtain ⟨⟨hK, hO⟩, ⟨hg1, hg2, hg3⟩, hFd, ⟨⟨htl, htl2⟩, hBt⟩, hSh⟩ := id hC
  obtain ⟨⟨hn, h12⟩, hpp, hlw, hsp, hz0⟩ := id hO
  refine CtI.of (by decide +kernel) (Nat.le_of_ble_eq_true rfl) (fun p e0 s m below meth c C hr hlk => ?_)
  refine gx_lv (lv' := [(0, .ref (eA E 0)), (1, .int q), (2, .int n)]) rfl ?_
  refine gx_aload_n C dX3_best_0 (by rfl) (by rfl) ?_
  refine gx_getr (j := 13) (k := 0) C ck3 (by rfl) (by rfl) (by decide) fl_X3_10 dX3_best_1 ?_
  refine gx_iload_n C dX3_best_4 (by rfl) (by rfl) ?_
  refine gx_callVI (As := [.int q]) (rest := []) C (k_X0_has E σ 13 isE_13 K hK hO q) z_X0_has ck0 (by rfl) (by rfl) ml_X3_99 (by rfl) (Nat.le_of_ble_eq_true rfl) ⟨Nat.le_of_ble_eq_true rfl, Nat.le_of_ble_eq_true rfl⟩ dX3_best_5 (fun r1 σ1 w1 => ?_)
  obtain ⟨u1, u2⟩ := w1; rw [u1, u2]; clear u1 u2
  refine gx_if_eq (tgt := 21) C dX3_best_8 (by decide) (fun h2 => ?_) (fun h2 => ?_)
  ·
    have h2 := b2_z.mp h2
    refine gx_aload_n C dX3_best_21 (by rfl) (by rfl) ?_
    refine gx_ldc C kc_X3_48 dX3_best_22 ?_
    refine gx_callVI (As := [.int (-1000001)]) (rest := []) C (c_X3_found E σ (-1000001) 0 (by decide) (by decide)) z_X3_found ck3 (by rfl) (by rfl) ml_X3_49 (by rfl) (Nat.le_of_ble_eq_true rfl) ⟨Nat.le_of_ble_eq_true rfl, Nat.le_of_ble_eq_true rfl⟩ dX3_best_24 (fun r3 σ3 w3 => ?_)
    obtain ⟨u1, u2⟩ := w3; rw [u1, u2]; clear u1 u2
    exact gx_iret C hr hlk rfl (fin_fd hC (by decide) (by simp only [opBest, bey, ful, knd, non, sta, mis, siz] <;> grind)) dX3_best_27
  ·
    have h2 := b2_nz.mp h2
    obtain ⟨k, hk, rfl⟩ := has_nat hO h2
    have ck : (nI k).toNatClampNeg = k := nI_clamp (by omega)
    refine gx_iload_n C dX3_best_11 (by rfl) (by rfl) ?_
    refine gx_iconst (v := 1) C dX3_best_12 (by decide) ?_
    refine gx_bipush (v := 60) C dX3_best_13 (by decide) ?_
    refine gx_callSI (As := [.int n, .int 1, .int 60]) (rest := []) C (c_X3_isWithin E σ n 1 60) z_X3_isWithin (by rfl) ml_X3_44 (by rfl) (Nat.le_of_ble_eq_true rfl) ⟨Nat.le_of_ble_eq_true rfl, Nat.le_of_ble_eq_true rfl⟩ dX3_best_15 (fun r4 σ4 w4 => ?_)
    obtain ⟨u1, u2⟩ := w4; rw [u1, u2]; clear u1 u2
    refine gx_if_ne (tgt := 28) C dX3_best_18 (by decide) (fun h5 => ?_) (fun h5 => ?_)
    ·
      have h5 := b2_nz.mp h5
      obtain ⟨t, ht, rfl⟩ := i_nat (M := 60) (n := 60) (by decide) ⟨Int32.le_trans (by decide) h5.1, h5.2⟩
      have ct : (nI t).toNatClampNeg = t := nI_clamp (by omega)
      refine gx_aload_n C dX3_best_28 (by rfl) (by rfl) ?_
      refine gx_iload_n C dX3_best_29 (by rfl) (by rfl) ?_
      refine gx_callVI (As := [.int (nI t)]) (rest := []) C (c_X3_isTooLate E σ K hK (nI t)) z_X3_isTooLate ck3 (by rfl) (by rfl) ml_X3_163 (by rfl) (Nat.le_of_ble_eq_true rfl) ⟨Nat.le_of_ble_eq_true rfl, Nat.le_of_ble_eq_true rfl⟩ dX3_best_30 (fun r6 σ6 w6 => ?_)
      obtain ⟨u1, u2⟩ := w6; rw [u1, u2]; clear u1 u2
      refine gx_if_eq (tgt := 43) C dX3_best_33 (by decide) (fun h7 => ?_) (fun h7 => ?_)
      ·
        have h7 := b2_z.mp h7
        refine gx_iconst (v := 0) C dX3_best_43 (by decide) ?_
        refine gx_istore_n (lv2 := [(3, .int 0), (0, .ref (eA E 0)), (1, .int (nI k)), (2, .int (nI t))]) C dX3_best_44 (by rfl) (by decide) rfl ?_
        refine gx_bipush (v := 9) C dX3_best_45 (by decide) ?_
        refine gx_istore (lv2 := [(4, .int 9), (3, .int 0), (0, .ref (eA E 0)), (1, .int (nI k)), (2, .int (nI t))]) C dX3_best_47 (by decide) rfl ?_
        refine gx_stat (q := 1) C C.2.2.2.2.2.2.2.2.1.1 fl_X3_75 dX3_best_49 ?_
        refine gx_iconst (v := 0) C dX3_best_52 (by decide) ?_
        refine gx_ext (k := 0) (v := 0) C C.2.2.2.2.2.2.2.2.1.2 (by rfl) (by decide) (by decide) (by rfl) dX3_best_53 ?_
        refine gx_istore (lv2 := [(5, .int 0), (4, .int 9), (3, .int 0), (0, .ref (eA E 0)), (1, .int (nI k)), (2, .int (nI t))]) C dX3_best_54 (by decide) rfl ?_
        have loop56 : ∀ (kf i : Nat), i ≤ 3 → 3 < i + kf → ∀ τ : Mm, (Fr 37 σ τ) → Gx E p e0 (rmF 6 137) s m ([.ref (eA E 0), .int (nI k), .int (nI t)] : List Value).toArray below meth c (MQ below (va_Qi (fun rr σ2 => rr = (opBest (K, L, g, F, tl, Bt, W, Z, N) (nI k) (nI t)).1 ∧ CR σ2 (opBest (K, L, g, F, tl, Bt, W, Z, N) (nI k) (nI t)).2 ∧ FC σ σ2) (WQ E) (AA E s.heap.size)) ([.ref (eA E 0), .int (nI k), .int (nI t)] : List Value).toArray s 0 0 (AA E s.heap.size)) 6 56 [(0, .ref (eA E 0)), (1, .int (nI k)), (2, .int (nI t)), (3, .int ((bsF K k t i).1)), (4, .int ((bsF K k t i).2)), (5, .int (nI i))] [] τ := by
          intro kf
          induction kf with
          | zero => intro i q1 q2; exact absurd q2 (by omega)
          | succ kf ih56 =>
            intro i a56 b56 τ hFt
            have hKn := Emp.fr (e2 := 37) hK hFt (by decide)
            refine gx_iload C dX3_best_56 (by rfl) ?_
            refine gx_stat (q := 2) C C.2.2.2.2.2.2.2.2.2.1.1 fl_X3_78 dX3_best_58 ?_
            refine gx_iconst (v := 0) C dX3_best_61 (by decide) ?_
            refine gx_ext (k := 0) (v := 2) C C.2.2.2.2.2.2.2.2.2.1.2 (by rfl) (by decide) (by decide) (by rfl) dX3_best_62 ?_
            refine gx_icmp_gt (tgt := 129) C dX3_best_63 (by decide) (fun h8 => ?_) (fun h8 => ?_)
            ·
              have h8 := (nI_ltI (a := 2) (b := i) (by omega) (by omega)).mp h8
              refine gx_iload_n C dX3_best_129 (by rfl) (by rfl) ?_
              exact gx_iret C hr hlk rfl (fin_try hC hFt (by have q1 : i = 3 := (by omega); subst q1; first | (simp only [opBest, ck, ct, bey, sta] <;> grind) | (simp only [opBest, ct, bey, sta] <;> grind))) dX3_best_130
            ·
              have h8 := (not_congr (nI_ltI (a := 2) (b := i) (by omega) (by omega))).mp h8
              refine gx_aload_n C dX3_best_66 (by rfl) (by rfl) ?_
              refine gx_getr (j := 37) (k := 3) C ck3 (by rfl) (by rfl) (by decide) fl_X3_19 dX3_best_67 ?_
              refine gx_aload_n C dX3_best_70 (by rfl) (by rfl) ?_
              refine gx_getr (j := 13) (k := 0) C ck3 (by rfl) (by rfl) (by decide) fl_X3_10 dX3_best_71 ?_
              refine gx_callVV (As := [.ref (eA E 13)]) (rest := []) C (c_X0_becomeLike E τ 37 isE_37 13 isE_13 (by decide) K hKn) z_X0_becomeLike ck0 (by rfl) (by rfl) ml_X3_169 (by rfl) (Nat.le_of_ble_eq_true rfl) ⟨Nat.le_of_ble_eq_true rfl, Nat.le_of_ble_eq_true rfl⟩ dX3_best_74 (fun σ9 w9 => ?_)
              obtain ⟨hK9, hF9⟩ := w9
              have hK9_13 := Emp.fr (e := 13) (e2 := 37) hKn hF9 (by decide)
              refine gx_aload_n C dX3_best_77 (by rfl) (by rfl) ?_
              refine gx_getr (j := 37) (k := 3) C ck3 (by rfl) (by rfl) (by decide) fl_X3_19 dX3_best_78 ?_
              refine gx_getr (j := 47) (k := 9) C ck0 (by rfl) (by rfl) (by decide) fl_X3_81 dX3_best_81 ?_
              refine gx_iconst (v := 0) C dX3_best_84 (by decide) ?_
              refine gx_iload C dX3_best_85 (by rfl) ?_
              refine gx_iastN (k := 0) C (by rfl) (by rfl) (by decide) (by decide) dX3_best_87 ?_
              have hK10 : Emp (up2 σ9 47 0 (nI i)) 13 K := hK9_13.w (by omega)
              have hK11 := hK9.u9 (p := 0) (v := nI i) (by omega)
              refine gx_aload_n C dX3_best_88 (by rfl) (by rfl) ?_
              refine gx_getr (j := 37) (k := 3) C ck3 (by rfl) (by rfl) (by decide) fl_X3_19 dX3_best_89 ?_
              refine gx_iload_n C dX3_best_92 (by rfl) (by rfl) ?_
              refine gx_callVI (As := [.int (nI t)]) (rest := []) C (c_X0_pass E (up2 σ9 47 0 (nI i)) 37 isE_37 (up2 K 9 0 (nI i)) hK11 (hO.laws (p := 0) (v := nI i) (by omega) (fun _ => nI_rg (n := 2) (by omega) (by omega))) t (by omega)) z_X0_pass ck0 (by rfl) (by rfl) ml_X3_166 (by rfl) (Nat.le_of_ble_eq_true rfl) ⟨Nat.le_of_ble_eq_true rfl, Nat.le_of_ble_eq_true rfl⟩ dX3_best_93 (fun r12 σ12 w12 => ?_)
              obtain ⟨er12, hK12, hF12⟩ := w12
              have hK12_13 := Emp.fr (e := 13) (e2 := 37) hK10 hF12 (by decide)
              refine gx_st (st' := [.int (mos t (up2 K 9 0 (nI i)) 0 2 - (up2 K 9 0 (nI i)) 0 2)]) (by rw [er12]) ?_
              refine gx_pop C (by rfl) dX3_best_96 ?_
              refine gx_aload_n C dX3_best_97 (by rfl) (by rfl) ?_
              refine gx_getr (j := 37) (k := 3) C ck3 (by rfl) (by rfl) (by decide) fl_X3_19 dX3_best_98 ?_
              refine gx_iload_n C dX3_best_101 (by rfl) (by rfl) ?_
              refine gx_callVI (As := [.int (nI k)]) (rest := []) C (k_X0_standingOf E σ12 37 isE_37 (mos t (up2 K 9 0 (nI i))) hK12 ((mos_keep (hO.laws (p := 0) (v := nI i) (by omega) (fun _ => nI_rg (n := 2) (by omega) (by omega))) t).1) k (by omega)) z_X0_standingOf ck0 (by rfl) (by rfl) ml_X3_182 (by rfl) (Nat.le_of_ble_eq_true rfl) ⟨Nat.le_of_ble_eq_true rfl, Nat.le_of_ble_eq_true rfl⟩ dX3_best_102 (fun r13 σ13 w13 => ?_)
              obtain ⟨u1, u2⟩ := w13; rw [u1, u2]; clear u1 u2
              refine gx_iload C dX3_best_105 (by rfl) ?_
              refine gx_icmp_ge (tgt := 123) C dX3_best_107 (by decide) (fun h14 => ?_) (fun h14 => ?_)
              ·
                refine gx_iinc (v := nI (i + 1)) (lv2 := [(5, .int (nI (i + 1))), (0, .ref (eA E 0)), (1, .int (nI k)), (2, .int (nI t)), (3, .int ((bsF K k t i).1)), (4, .int ((bsF K k t i).2))]) C dX3_best_123 (by rfl) (by exact nI_p1 _) (by decide) rfl ?_
                refine gx_goto (tgt := 56) C dX3_best_126 (by decide) ?_
                refine gx_sub [1, 2, 3, 4, 5, 0] (lv' := [(0, .ref (eA E 0)), (1, .int (nI k)), (2, .int (nI t)), (3, .int ((bsF K k t i).1)), (4, .int ((bsF K k t i).2)), (5, .int (nI (i + 1)))]) rfl ?_
                refine gx_lv (lv' := [(0, .ref (eA E 0)), (1, .int (nI k)), (2, .int (nI t)), (3, .int ((bsF K k t (i + 1)).1)), (4, .int ((bsF K k t (i + 1)).2)), (5, .int (nI (i + 1)))]) (by simp only [bsF, sd]; grind) ?_
                exact ih56 (i + 1) (by omega) (by omega) σ12 ((((hFt).tr hF9).up (by decide) (by decide)).tr hF12)
              ·
                refine gx_iload C dX3_best_110 (by rfl) ?_
                refine gx_istore_n (lv2 := [(3, .int (nI i)), (0, .ref (eA E 0)), (1, .int (nI k)), (2, .int (nI t)), (4, .int ((bsF K k t i).2)), (5, .int (nI i))]) C dX3_best_112 (by rfl) (by decide) rfl ?_
                refine gx_aload_n C dX3_best_113 (by rfl) (by rfl) ?_
                refine gx_getr (j := 37) (k := 3) C ck3 (by rfl) (by rfl) (by decide) fl_X3_19 dX3_best_114 ?_
                refine gx_iload_n C dX3_best_117 (by rfl) (by rfl) ?_
                refine gx_callVI (As := [.int (nI k)]) (rest := []) C (k_X0_standingOf E σ12 37 isE_37 (mos t (up2 K 9 0 (nI i))) hK12 ((mos_keep (hO.laws (p := 0) (v := nI i) (by omega) (fun _ => nI_rg (n := 2) (by omega) (by omega))) t).1) k (by omega)) z_X0_standingOf ck0 (by rfl) (by rfl) ml_X3_182 (by rfl) (Nat.le_of_ble_eq_true rfl) ⟨Nat.le_of_ble_eq_true rfl, Nat.le_of_ble_eq_true rfl⟩ dX3_best_118 (fun r15 σ15 w15 => ?_)
                obtain ⟨u1, u2⟩ := w15; rw [u1, u2]; clear u1 u2
                refine gx_istore (lv2 := [(4, .int (if (mos t (up2 K 9 0 (nI i))) 2 k = -1 then 8 else (mos t (up2 K 9 0 (nI i))) 2 k)), (3, .int (nI i)), (0, .ref (eA E 0)), (1, .int (nI k)), (2, .int (nI t)), (5, .int (nI i))]) C dX3_best_121 (by decide) rfl ?_
                refine gx_iinc (v := nI (i + 1)) (lv2 := [(5, .int (nI (i + 1))), (4, .int (if (mos t (up2 K 9 0 (nI i))) 2 k = -1 then 8 else (mos t (up2 K 9 0 (nI i))) 2 k)), (3, .int (nI i)), (0, .ref (eA E 0)), (1, .int (nI k)), (2, .int (nI t))]) C dX3_best_123 (by rfl) (by exact nI_p1 _) (by decide) rfl ?_
                refine gx_goto (tgt := 56) C dX3_best_126 (by decide) ?_
                refine gx_sub [3, 4, 5, 2, 1, 0] (lv' := [(0, .ref (eA E 0)), (1, .int (nI k)), (2, .int (nI t)), (3, .int (nI i)), (4, .int (if (mos t (up2 K 9 0 (nI i))) 2 k = -1 then 8 else (mos t (up2 K 9 0 (nI i))) 2 k)), (5, .int (nI (i + 1)))]) rfl ?_
                refine gx_lv (lv' := [(0, .ref (eA E 0)), (1, .int (nI k)), (2, .int (nI t)), (3, .int ((bsF K k t (i + 1)).1)), (4, .int ((bsF K k t (i + 1)).2)), (5, .int (nI (i + 1)))]) (by simp only [bsF, sd]; grind) ?_
                exact ih56 (i + 1) (by omega) (by omega) σ12 ((((hFt).tr hF9).up (by decide) (by decide)).tr hF12)
        refine gx_sub [3, 4, 5, 2, 1, 0] (lv' := [(0, .ref (eA E 0)), (1, .int (nI k)), (2, .int (nI t)), (3, .int 0), (4, .int 9), (5, .int 0)]) rfl ?_
        refine gx_lv (lv' := [(0, .ref (eA E 0)), (1, .int (nI k)), (2, .int (nI t)), (3, .int ((bsF K k t 0).1)), (4, .int ((bsF K k t 0).2)), (5, .int (nI 0))]) (by rfl) ?_
        exact loop56 (3 + 1) 0 (by omega) (by omega) σ Fr.rf
      ·
        have h7 := b2_nz.mp h7
        refine gx_aload_n C dX3_best_36 (by rfl) (by rfl) ?_
        refine gx_ldc C kc_X3_56 dX3_best_37 ?_
        refine gx_callVI (As := [.int (-1000005)]) (rest := []) C (c_X3_found E σ (-1000005) 4 (by decide) (by decide)) z_X3_found ck3 (by rfl) (by rfl) ml_X3_49 (by rfl) (Nat.le_of_ble_eq_true rfl) ⟨Nat.le_of_ble_eq_true rfl, Nat.le_of_ble_eq_true rfl⟩ dX3_best_39 (fun r16 σ16 w16 => ?_)
        obtain ⟨u1, u2⟩ := w16; rw [u1, u2]; clear u1 u2
        exact gx_iret C hr hlk rfl (fin_fd hC (by decide) (by simp only [opBest, bey, ful, knd, non, sta, mis, siz] <;> grind)) dX3_best_42
    ·
      have h5 := b2_z.mp h5
      refine gx_aload_n C dX3_best_21 (by rfl) (by rfl) ?_
      refine gx_ldc C kc_X3_48 dX3_best_22 ?_
      refine gx_callVI (As := [.int (-1000001)]) (rest := []) C (c_X3_found E σ (-1000001) 0 (by decide) (by decide)) z_X3_found ck3 (by rfl) (by rfl) ml_X3_49 (by rfl) (Nat.le_of_ble_eq_true rfl) ⟨Nat.le_of_ble_eq_true rfl, Nat.le_of_ble_eq_true rfl⟩ dX3_best_24 (fun r17 σ17 w17 => ?_)
      obtain ⟨u1, u2⟩ := w17; rw [u1, u2]; clear u1 u2
      exact gx_iret C hr hlk rfl (fin_fd hC (by decide) (by simp only [opBest, bey, ful, knd, non, sta, mis, siz] <;> grind)) dX3_best_27
set_option maxHeartbeats 4000000 in
set_option maxRecDepth 100000 in
theorem c_X3_partsFor (E : En) (σ : Mm) (K L : Mm) (g : Int32) (F : Nat → Int32) (tl : Int32) (Bt W Z : Nat → Int32) (N : Mm) (hC : CR σ (K, L, g, F, tl, Bt, W, Z, N)) (n : Int32) : CtI E yX3_partsFor cX3_partsFor 6 (some .int) 6 137 [.ref (eA E 0), .int n] σ (fun rr σ2 => rr = (opPartsFor (K, L, g, F, tl, Bt, W, Z, N) n).1 ∧ CR σ2 (opPartsFor (K, L, g, F, tl, Bt, W, Z, N) n).2 ∧ FC σ σ2) := by
  obtain ⟨⟨hK, hO⟩, ⟨hg1, hg2, hg3⟩, hFd, ⟨⟨htl, htl2⟩, hBt⟩, hSh⟩ := id hC
  obtain ⟨⟨hn, h12⟩, hpp, hlw, hsp, hz0⟩ := id hO
  refine CtI.of (by decide +kernel) (Nat.le_of_ble_eq_true rfl) (fun p e0 s m below meth c C hr hlk => ?_)
  refine gx_lv (lv' := [(0, .ref (eA E 0)), (1, .int n)]) rfl ?_
  refine gx_iload_n C dX3_partsFor_0 (by rfl) (by rfl) ?_
  refine gx_iconst (v := 1) C dX3_partsFor_1 (by decide) ?_
  refine gx_bipush (v := 60) C dX3_partsFor_2 (by decide) ?_
  refine gx_callSI (As := [.int n, .int 1, .int 60]) (rest := []) C (c_X3_isWithin E σ n 1 60) z_X3_isWithin (by rfl) ml_X3_44 (by rfl) (Nat.le_of_ble_eq_true rfl) ⟨Nat.le_of_ble_eq_true rfl, Nat.le_of_ble_eq_true rfl⟩ dX3_partsFor_4 (fun r1 σ1 w1 => ?_)
  obtain ⟨u1, u2⟩ := w1; rw [u1, u2]; clear u1 u2
  refine gx_if_ne (tgt := 17) C dX3_partsFor_7 (by decide) (fun h2 => ?_) (fun h2 => ?_)
  ·
    have h2 := b2_nz.mp h2
    obtain ⟨t, ht, rfl⟩ := i_nat (M := 60) (n := 60) (by decide) ⟨Int32.le_trans (by decide) h2.1, h2.2⟩
    have ct : (nI t).toNatClampNeg = t := nI_clamp (by omega)
    refine gx_aload_n C dX3_partsFor_17 (by rfl) (by rfl) ?_
    refine gx_iload_n C dX3_partsFor_18 (by rfl) (by rfl) ?_
    refine gx_callVI (As := [.int (nI t)]) (rest := []) C (c_X3_isTooLate E σ K hK (nI t)) z_X3_isTooLate ck3 (by rfl) (by rfl) ml_X3_163 (by rfl) (Nat.le_of_ble_eq_true rfl) ⟨Nat.le_of_ble_eq_true rfl, Nat.le_of_ble_eq_true rfl⟩ dX3_partsFor_19 (fun r3 σ3 w3 => ?_)
    obtain ⟨u1, u2⟩ := w3; rw [u1, u2]; clear u1 u2
    refine gx_if_eq (tgt := 32) C dX3_partsFor_22 (by decide) (fun h4 => ?_) (fun h4 => ?_)
    ·
      have h4 := b2_z.mp h4
      refine gx_iconst (v := 1) C dX3_partsFor_32 (by decide) ?_
      refine gx_istore_n (lv2 := [(2, .int 1), (0, .ref (eA E 0)), (1, .int (nI t))]) C dX3_partsFor_33 (by rfl) (by decide) rfl ?_
      refine gx_bipush (v := 13) C dX3_partsFor_34 (by decide) ?_
      refine gx_istore_n (lv2 := [(3, .int 13), (2, .int 1), (0, .ref (eA E 0)), (1, .int (nI t))]) C dX3_partsFor_36 (by rfl) (by decide) rfl ?_
      refine gx_stat (q := 1) C C.2.2.2.2.2.2.2.2.1.1 fl_X3_75 dX3_partsFor_37 ?_
      refine gx_iconst (v := 1) C dX3_partsFor_40 (by decide) ?_
      refine gx_ext (k := 1) (v := 1) C C.2.2.2.2.2.2.2.2.1.2 (by rfl) (by decide) (by decide) (by rfl) dX3_partsFor_41 ?_
      refine gx_istore (lv2 := [(4, .int 1), (3, .int 13), (2, .int 1), (0, .ref (eA E 0)), (1, .int (nI t))]) C dX3_partsFor_42 (by decide) rfl ?_
      have loop44 : ∀ (kf i : Nat), i ≤ 5 → 5 < i + kf → ∀ τ : Mm, (Fr 37 σ τ) → Gx E p e0 (rmF 6 137) s m ([.ref (eA E 0), .int (nI t)] : List Value).toArray below meth c (MQ below (va_Qi (fun rr σ2 => rr = (opPartsFor (K, L, g, F, tl, Bt, W, Z, N) (nI t)).1 ∧ CR σ2 (opPartsFor (K, L, g, F, tl, Bt, W, Z, N) (nI t)).2 ∧ FC σ σ2) (WQ E) (AA E s.heap.size)) ([.ref (eA E 0), .int (nI t)] : List Value).toArray s 0 0 (AA E s.heap.size)) 6 44 [(0, .ref (eA E 0)), (1, .int (nI t)), (2, .int ((pfF K t i).1)), (3, .int ((pfF K t i).2)), (4, .int (nI (i + 1)))] [] τ := by
        intro kf
        induction kf with
        | zero => intro i q1 q2; exact absurd q2 (by omega)
        | succ kf ih44 =>
          intro i a44 b44 τ hFt
          have hKn := Emp.fr (e2 := 37) hK hFt (by decide)
          refine gx_iload C dX3_partsFor_44 (by rfl) ?_
          refine gx_stat (q := 2) C C.2.2.2.2.2.2.2.2.2.1.1 fl_X3_78 dX3_partsFor_46 ?_
          refine gx_iconst (v := 1) C dX3_partsFor_49 (by decide) ?_
          refine gx_ext (k := 1) (v := 5) C C.2.2.2.2.2.2.2.2.2.1.2 (by rfl) (by decide) (by decide) (by rfl) dX3_partsFor_50 ?_
          refine gx_icmp_gt (tgt := 104) C dX3_partsFor_51 (by decide) (fun h5 => ?_) (fun h5 => ?_)
          ·
            have h5 := (nI_ltI (a := 5) (b := (i + 1)) (by omega) (by omega)).mp h5
            refine gx_iload_n C dX3_partsFor_104 (by rfl) (by rfl) ?_
            exact gx_iret C hr hlk rfl (fin_try hC hFt (by have q1 : i = 5 := (by omega); subst q1; first | (simp only [opPartsFor, ck, ct, bey, sta] <;> grind) | (simp only [opPartsFor, ct, bey, sta] <;> grind))) dX3_partsFor_105
          ·
            have h5 := (not_congr (nI_ltI (a := 5) (b := (i + 1)) (by omega) (by omega))).mp h5
            refine gx_aload_n C dX3_partsFor_54 (by rfl) (by rfl) ?_
            refine gx_getr (j := 37) (k := 3) C ck3 (by rfl) (by rfl) (by decide) fl_X3_19 dX3_partsFor_55 ?_
            refine gx_aload_n C dX3_partsFor_58 (by rfl) (by rfl) ?_
            refine gx_getr (j := 13) (k := 0) C ck3 (by rfl) (by rfl) (by decide) fl_X3_10 dX3_partsFor_59 ?_
            refine gx_callVV (As := [.ref (eA E 13)]) (rest := []) C (c_X0_becomeLike E τ 37 isE_37 13 isE_13 (by decide) K hKn) z_X0_becomeLike ck0 (by rfl) (by rfl) ml_X3_169 (by rfl) (Nat.le_of_ble_eq_true rfl) ⟨Nat.le_of_ble_eq_true rfl, Nat.le_of_ble_eq_true rfl⟩ dX3_partsFor_62 (fun σ6 w6 => ?_)
            obtain ⟨hK6, hF6⟩ := w6
            have hK6_13 := Emp.fr (e := 13) (e2 := 37) hKn hF6 (by decide)
            refine gx_aload_n C dX3_partsFor_65 (by rfl) (by rfl) ?_
            refine gx_getr (j := 37) (k := 3) C ck3 (by rfl) (by rfl) (by decide) fl_X3_19 dX3_partsFor_66 ?_
            refine gx_getr (j := 47) (k := 9) C ck0 (by rfl) (by rfl) (by decide) fl_X3_81 dX3_partsFor_69 ?_
            refine gx_iconst (v := 1) C dX3_partsFor_72 (by decide) ?_
            refine gx_iload C dX3_partsFor_73 (by rfl) ?_
            refine gx_iastN (k := 1) C (by rfl) (by rfl) (by decide) (by decide) dX3_partsFor_75 ?_
            have hK7 : Emp (up2 σ6 47 1 (nI (i + 1))) 13 K := hK6_13.w (by omega)
            have hK8 := hK6.u9 (p := 1) (v := nI (i + 1)) (by omega)
            refine gx_aload_n C dX3_partsFor_76 (by rfl) (by rfl) ?_
            refine gx_getr (j := 37) (k := 3) C ck3 (by rfl) (by rfl) (by decide) fl_X3_19 dX3_partsFor_77 ?_
            refine gx_iload_n C dX3_partsFor_80 (by rfl) (by rfl) ?_
            refine gx_callVI (As := [.int (nI t)]) (rest := []) C (c_X0_pass E (up2 σ6 47 1 (nI (i + 1))) 37 isE_37 (up2 K 9 1 (nI (i + 1))) hK8 (hO.laws (p := 1) (v := nI (i + 1)) (by omega) (fun q => absurd q (by decide))) t (by omega)) z_X0_pass ck0 (by rfl) (by rfl) ml_X3_166 (by rfl) (Nat.le_of_ble_eq_true rfl) ⟨Nat.le_of_ble_eq_true rfl, Nat.le_of_ble_eq_true rfl⟩ dX3_partsFor_81 (fun r9 σ9 w9 => ?_)
            obtain ⟨er9, hK9, hF9⟩ := w9
            have hK9_13 := Emp.fr (e := 13) (e2 := 37) hK7 hF9 (by decide)
            refine gx_st (st' := [.int (mos t (up2 K 9 1 (nI (i + 1))) 0 2 - (up2 K 9 1 (nI (i + 1))) 0 2)]) (by rw [er9]) ?_
            refine gx_st (st' := [.int (mos t (up2 K 9 1 (nI (i + 1))) 0 2 - K 0 2)]) (by rw [show up2 K 9 1 (nI (i + 1)) 0 2 = K 0 2 from rfl]) ?_
            refine gx_istore (lv2 := [(5, .int (mos t (up2 K 9 1 (nI (i + 1))) 0 2 - K 0 2)), (0, .ref (eA E 0)), (1, .int (nI t)), (2, .int ((pfF K t i).1)), (3, .int ((pfF K t i).2)), (4, .int (nI (i + 1)))]) C dX3_partsFor_84 (by decide) rfl ?_
            refine gx_iload C dX3_partsFor_86 (by rfl) ?_
            refine gx_iload_n C dX3_partsFor_88 (by rfl) (by rfl) ?_
            refine gx_icmp_ge (tgt := 98) C dX3_partsFor_89 (by decide) (fun h10 => ?_) (fun h10 => ?_)
            ·
              refine gx_iinc (v := nI (i + 1 + 1)) (lv2 := [(4, .int (nI (i + 1 + 1))), (5, .int (mos t (up2 K 9 1 (nI (i + 1))) 0 2 - K 0 2)), (0, .ref (eA E 0)), (1, .int (nI t)), (2, .int ((pfF K t i).1)), (3, .int ((pfF K t i).2))]) C dX3_partsFor_98 (by rfl) (by exact nI_p1 _) (by decide) rfl ?_
              refine gx_goto (tgt := 44) C dX3_partsFor_101 (by decide) ?_
              refine gx_sub [2, 3, 4, 5, 0] (lv' := [(0, .ref (eA E 0)), (1, .int (nI t)), (2, .int ((pfF K t i).1)), (3, .int ((pfF K t i).2)), (4, .int (nI (i + 1 + 1)))]) rfl ?_
              refine gx_lv (lv' := [(0, .ref (eA E 0)), (1, .int (nI t)), (2, .int ((pfF K t (i + 1)).1)), (3, .int ((pfF K t (i + 1)).2)), (4, .int (nI ((i + 1) + 1)))]) (by simp only [pfF]; grind) ?_
              exact ih44 (i + 1) (by omega) (by omega) σ9 ((((hFt).tr hF6).up (by decide) (by decide)).tr hF9)
            ·
              refine gx_iload C dX3_partsFor_92 (by rfl) ?_
              refine gx_istore_n (lv2 := [(2, .int (nI (i + 1))), (5, .int (mos t (up2 K 9 1 (nI (i + 1))) 0 2 - K 0 2)), (0, .ref (eA E 0)), (1, .int (nI t)), (3, .int ((pfF K t i).2)), (4, .int (nI (i + 1)))]) C dX3_partsFor_94 (by rfl) (by decide) rfl ?_
              refine gx_iload C dX3_partsFor_95 (by rfl) ?_
              refine gx_istore_n (lv2 := [(3, .int (mos t (up2 K 9 1 (nI (i + 1))) 0 2 - K 0 2)), (2, .int (nI (i + 1))), (5, .int (mos t (up2 K 9 1 (nI (i + 1))) 0 2 - K 0 2)), (0, .ref (eA E 0)), (1, .int (nI t)), (4, .int (nI (i + 1)))]) C dX3_partsFor_97 (by rfl) (by decide) rfl ?_
              refine gx_iinc (v := nI (i + 1 + 1)) (lv2 := [(4, .int (nI (i + 1 + 1))), (3, .int (mos t (up2 K 9 1 (nI (i + 1))) 0 2 - K 0 2)), (2, .int (nI (i + 1))), (5, .int (mos t (up2 K 9 1 (nI (i + 1))) 0 2 - K 0 2)), (0, .ref (eA E 0)), (1, .int (nI t))]) C dX3_partsFor_98 (by rfl) (by exact nI_p1 _) (by decide) rfl ?_
              refine gx_goto (tgt := 44) C dX3_partsFor_101 (by decide) ?_
              refine gx_sub [4, 5, 2, 1, 0] (lv' := [(0, .ref (eA E 0)), (1, .int (nI t)), (2, .int (nI (i + 1))), (3, .int (mos t (up2 K 9 1 (nI (i + 1))) 0 2 - K 0 2)), (4, .int (nI (i + 1 + 1)))]) rfl ?_
              refine gx_lv (lv' := [(0, .ref (eA E 0)), (1, .int (nI t)), (2, .int ((pfF K t (i + 1)).1)), (3, .int ((pfF K t (i + 1)).2)), (4, .int (nI ((i + 1) + 1)))]) (by simp only [pfF]; grind) ?_
              exact ih44 (i + 1) (by omega) (by omega) σ9 ((((hFt).tr hF6).up (by decide) (by decide)).tr hF9)
      refine gx_sub [3, 4, 2, 1, 0] (lv' := [(0, .ref (eA E 0)), (1, .int (nI t)), (2, .int 1), (3, .int 13), (4, .int 1)]) rfl ?_
      refine gx_lv (lv' := [(0, .ref (eA E 0)), (1, .int (nI t)), (2, .int ((pfF K t 0).1)), (3, .int ((pfF K t 0).2)), (4, .int (nI (0 + 1)))]) (by rfl) ?_
      exact loop44 (5 + 1) 0 (by omega) (by omega) σ Fr.rf
    ·
      have h4 := b2_nz.mp h4
      refine gx_aload_n C dX3_partsFor_25 (by rfl) (by rfl) ?_
      refine gx_ldc C kc_X3_56 dX3_partsFor_26 ?_
      refine gx_callVI (As := [.int (-1000005)]) (rest := []) C (c_X3_found E σ (-1000005) 4 (by decide) (by decide)) z_X3_found ck3 (by rfl) (by rfl) ml_X3_49 (by rfl) (Nat.le_of_ble_eq_true rfl) ⟨Nat.le_of_ble_eq_true rfl, Nat.le_of_ble_eq_true rfl⟩ dX3_partsFor_28 (fun r11 σ11 w11 => ?_)
      obtain ⟨u1, u2⟩ := w11; rw [u1, u2]; clear u1 u2
      exact gx_iret C hr hlk rfl (fin_fd hC (by decide) (by simp only [opPartsFor, bey, ful, knd, non, sta, mis, siz] <;> grind)) dX3_partsFor_31
  ·
    have h2 := b2_z.mp h2
    refine gx_aload_n C dX3_partsFor_10 (by rfl) (by rfl) ?_
    refine gx_ldc C kc_X3_48 dX3_partsFor_11 ?_
    refine gx_callVI (As := [.int (-1000001)]) (rest := []) C (c_X3_found E σ (-1000001) 0 (by decide) (by decide)) z_X3_found ck3 (by rfl) (by rfl) ml_X3_49 (by rfl) (Nat.le_of_ble_eq_true rfl) ⟨Nat.le_of_ble_eq_true rfl, Nat.le_of_ble_eq_true rfl⟩ dX3_partsFor_13 (fun r12 σ12 w12 => ?_)
    obtain ⟨u1, u2⟩ := w12; rw [u1, u2]; clear u1 u2
    exact gx_iret C hr hlk rfl (fin_fd hC (by decide) (by simp only [opPartsFor, bey, ful, knd, non, sta, mis, siz] <;> grind)) dX3_partsFor_16
set_option maxHeartbeats 4000000 in
set_option maxRecDepth 100000 in
theorem c_X3_kindFor (E : En) (σ : Mm) (K L : Mm) (g : Int32) (F : Nat → Int32) (tl : Int32) (Bt W Z : Nat → Int32) (N : Mm) (hC : CR σ (K, L, g, F, tl, Bt, W, Z, N)) (q n : Int32) : CtI E yX3_kindFor cX3_kindFor 6 (some .int) 6 137 [.ref (eA E 0), .int q, .int n] σ (fun rr σ2 => rr = (opKindFor (K, L, g, F, tl, Bt, W, Z, N) q n).1 ∧ CR σ2 (opKindFor (K, L, g, F, tl, Bt, W, Z, N) q n).2 ∧ FC σ σ2) := by
  obtain ⟨⟨hK, hO⟩, ⟨hg1, hg2, hg3⟩, hFd, ⟨⟨htl, htl2⟩, hBt⟩, hSh⟩ := id hC
  obtain ⟨⟨hn, h12⟩, hpp, hlw, hsp, hz0⟩ := id hO
  refine CtI.of (by decide +kernel) (Nat.le_of_ble_eq_true rfl) (fun p e0 s m below meth c C hr hlk => ?_)
  refine gx_lv (lv' := [(0, .ref (eA E 0)), (1, .int q), (2, .int n)]) rfl ?_
  refine gx_aload_n C dX3_kindFor_0 (by rfl) (by rfl) ?_
  refine gx_getr (j := 13) (k := 0) C ck3 (by rfl) (by rfl) (by decide) fl_X3_10 dX3_kindFor_1 ?_
  refine gx_iload_n C dX3_kindFor_4 (by rfl) (by rfl) ?_
  refine gx_callVI (As := [.int q]) (rest := []) C (k_X0_has E σ 13 isE_13 K hK hO q) z_X0_has ck0 (by rfl) (by rfl) ml_X3_99 (by rfl) (Nat.le_of_ble_eq_true rfl) ⟨Nat.le_of_ble_eq_true rfl, Nat.le_of_ble_eq_true rfl⟩ dX3_kindFor_5 (fun r1 σ1 w1 => ?_)
  obtain ⟨u1, u2⟩ := w1; rw [u1, u2]; clear u1 u2
  refine gx_if_eq (tgt := 21) C dX3_kindFor_8 (by decide) (fun h2 => ?_) (fun h2 => ?_)
  ·
    have h2 := b2_z.mp h2
    refine gx_aload_n C dX3_kindFor_21 (by rfl) (by rfl) ?_
    refine gx_ldc C kc_X3_48 dX3_kindFor_22 ?_
    refine gx_callVI (As := [.int (-1000001)]) (rest := []) C (c_X3_found E σ (-1000001) 0 (by decide) (by decide)) z_X3_found ck3 (by rfl) (by rfl) ml_X3_49 (by rfl) (Nat.le_of_ble_eq_true rfl) ⟨Nat.le_of_ble_eq_true rfl, Nat.le_of_ble_eq_true rfl⟩ dX3_kindFor_24 (fun r3 σ3 w3 => ?_)
    obtain ⟨u1, u2⟩ := w3; rw [u1, u2]; clear u1 u2
    exact gx_iret C hr hlk rfl (fin_fd hC (by decide) (by simp only [opKindFor, bey, ful, knd, non, sta, mis, siz] <;> grind)) dX3_kindFor_27
  ·
    have h2 := b2_nz.mp h2
    obtain ⟨k, hk, rfl⟩ := has_nat hO h2
    have ck : (nI k).toNatClampNeg = k := nI_clamp (by omega)
    refine gx_iload_n C dX3_kindFor_11 (by rfl) (by rfl) ?_
    refine gx_iconst (v := 1) C dX3_kindFor_12 (by decide) ?_
    refine gx_bipush (v := 60) C dX3_kindFor_13 (by decide) ?_
    refine gx_callSI (As := [.int n, .int 1, .int 60]) (rest := []) C (c_X3_isWithin E σ n 1 60) z_X3_isWithin (by rfl) ml_X3_44 (by rfl) (Nat.le_of_ble_eq_true rfl) ⟨Nat.le_of_ble_eq_true rfl, Nat.le_of_ble_eq_true rfl⟩ dX3_kindFor_15 (fun r4 σ4 w4 => ?_)
    obtain ⟨u1, u2⟩ := w4; rw [u1, u2]; clear u1 u2
    refine gx_if_ne (tgt := 28) C dX3_kindFor_18 (by decide) (fun h5 => ?_) (fun h5 => ?_)
    ·
      have h5 := b2_nz.mp h5
      obtain ⟨t, ht, rfl⟩ := i_nat (M := 60) (n := 60) (by decide) ⟨Int32.le_trans (by decide) h5.1, h5.2⟩
      have ct : (nI t).toNatClampNeg = t := nI_clamp (by omega)
      refine gx_aload_n C dX3_kindFor_28 (by rfl) (by rfl) ?_
      refine gx_iload_n C dX3_kindFor_29 (by rfl) (by rfl) ?_
      refine gx_callVI (As := [.int (nI t)]) (rest := []) C (c_X3_isTooLate E σ K hK (nI t)) z_X3_isTooLate ck3 (by rfl) (by rfl) ml_X3_163 (by rfl) (Nat.le_of_ble_eq_true rfl) ⟨Nat.le_of_ble_eq_true rfl, Nat.le_of_ble_eq_true rfl⟩ dX3_kindFor_30 (fun r6 σ6 w6 => ?_)
      obtain ⟨u1, u2⟩ := w6; rw [u1, u2]; clear u1 u2
      refine gx_if_eq (tgt := 43) C dX3_kindFor_33 (by decide) (fun h7 => ?_) (fun h7 => ?_)
      ·
        have h7 := b2_z.mp h7
        refine gx_iconst (v := 0) C dX3_kindFor_43 (by decide) ?_
        refine gx_istore_n (lv2 := [(3, .int 0), (0, .ref (eA E 0)), (1, .int (nI k)), (2, .int (nI t))]) C dX3_kindFor_44 (by rfl) (by decide) rfl ?_
        refine gx_iconst (v := (-1)) C dX3_kindFor_45 (by decide) ?_
        refine gx_istore (lv2 := [(4, .int (-1)), (3, .int 0), (0, .ref (eA E 0)), (1, .int (nI k)), (2, .int (nI t))]) C dX3_kindFor_46 (by decide) rfl ?_
        refine gx_iconst (v := 0) C dX3_kindFor_48 (by decide) ?_
        refine gx_istore (lv2 := [(5, .int 0), (4, .int (-1)), (3, .int 0), (0, .ref (eA E 0)), (1, .int (nI k)), (2, .int (nI t))]) C dX3_kindFor_49 (by decide) rfl ?_
        have loop51 : ∀ (kf i : Nat), i ≤ 7 → 7 < i + kf → ∀ τ : Mm, (Fr 37 σ τ) → Gx E p e0 (rmF 6 137) s m ([.ref (eA E 0), .int (nI k), .int (nI t)] : List Value).toArray below meth c (MQ below (va_Qi (fun rr σ2 => rr = (opKindFor (K, L, g, F, tl, Bt, W, Z, N) (nI k) (nI t)).1 ∧ CR σ2 (opKindFor (K, L, g, F, tl, Bt, W, Z, N) (nI k) (nI t)).2 ∧ FC σ σ2) (WQ E) (AA E s.heap.size)) ([.ref (eA E 0), .int (nI k), .int (nI t)] : List Value).toArray s 0 0 (AA E s.heap.size)) 6 51 [(0, .ref (eA E 0)), (1, .int (nI k)), (2, .int (nI t)), (3, .int ((kfF K k t i).1)), (4, .int ((kfF K k t i).2)), (5, .int (nI i))] [] τ := by
          intro kf
          induction kf with
          | zero => intro i q1 q2; exact absurd q2 (by omega)
          | succ kf ih51 =>
            intro i a51 b51 τ hFt
            have hKn := Emp.fr (e2 := 37) hK hFt (by decide)
            refine gx_iload C dX3_kindFor_51 (by rfl) ?_
            refine gx_bipush (v := 7) C dX3_kindFor_53 (by decide) ?_
            refine gx_icmp_ge (tgt := 123) C dX3_kindFor_55 (by decide) (fun h8 => ?_) (fun h8 => ?_)
            ·
              have h8 := (nI_leI (a := 7) (b := i) (by omega) (by omega)).mp h8
              refine gx_iload_n C dX3_kindFor_123 (by rfl) (by rfl) ?_
              exact gx_iret C hr hlk rfl (fin_try hC hFt (by have q1 : i = 7 := (by omega); subst q1; first | (simp only [opKindFor, ck, ct, bey, sta] <;> grind) | (simp only [opKindFor, ct, bey, sta] <;> grind))) dX3_kindFor_124
            ·
              have h8 := (not_congr (nI_leI (a := 7) (b := i) (by omega) (by omega))).mp h8
              refine gx_aload_n C dX3_kindFor_58 (by rfl) (by rfl) ?_
              refine gx_getr (j := 37) (k := 3) C ck3 (by rfl) (by rfl) (by decide) fl_X3_19 dX3_kindFor_59 ?_
              refine gx_aload_n C dX3_kindFor_62 (by rfl) (by rfl) ?_
              refine gx_getr (j := 13) (k := 0) C ck3 (by rfl) (by rfl) (by decide) fl_X3_10 dX3_kindFor_63 ?_
              refine gx_callVV (As := [.ref (eA E 13)]) (rest := []) C (c_X0_becomeLike E τ 37 isE_37 13 isE_13 (by decide) K hKn) z_X0_becomeLike ck0 (by rfl) (by rfl) ml_X3_169 (by rfl) (Nat.le_of_ble_eq_true rfl) ⟨Nat.le_of_ble_eq_true rfl, Nat.le_of_ble_eq_true rfl⟩ dX3_kindFor_66 (fun σ9 w9 => ?_)
              obtain ⟨hK9, hF9⟩ := w9
              have hK9_13 := Emp.fr (e := 13) (e2 := 37) hKn hF9 (by decide)
              refine gx_aload_n C dX3_kindFor_69 (by rfl) (by rfl) ?_
              refine gx_getr (j := 37) (k := 3) C ck3 (by rfl) (by rfl) (by decide) fl_X3_19 dX3_kindFor_70 ?_
              refine gx_getr (j := 38) (k := 0) C ck0 (by rfl) (by rfl) (by decide) fl_X3_102 dX3_kindFor_73 ?_
              refine gx_iload_n C dX3_kindFor_76 (by rfl) (by rfl) ?_
              refine gx_iload C dX3_kindFor_77 (by rfl) ?_
              refine gx_iastN (k := k) C (by rfl) rfl (by omega) (by decide) dX3_kindFor_79 ?_
              have hK10 : Emp (up2 σ9 38 k (nI i)) 13 K := hK9_13.w (by omega)
              have hK11 := hK9.u1 (p := k) (v := nI i) (by omega)
              refine gx_aload_n C dX3_kindFor_80 (by rfl) (by rfl) ?_
              refine gx_getr (j := 37) (k := 3) C ck3 (by rfl) (by rfl) (by decide) fl_X3_19 dX3_kindFor_81 ?_
              refine gx_iload_n C dX3_kindFor_84 (by rfl) (by rfl) ?_
              refine gx_callVI (As := [.int (nI t)]) (rest := []) C (c_X0_pass E (up2 σ9 38 k (nI i)) 37 isE_37 (up2 K 1 k (nI i)) hK11 (hO.kind (p := k) (v := nI i) (by omega) (nI_rg (n := 6) (by omega) (by omega))) t (by omega)) z_X0_pass ck0 (by rfl) (by rfl) ml_X3_166 (by rfl) (Nat.le_of_ble_eq_true rfl) ⟨Nat.le_of_ble_eq_true rfl, Nat.le_of_ble_eq_true rfl⟩ dX3_kindFor_85 (fun r12 σ12 w12 => ?_)
              obtain ⟨er12, hK12, hF12⟩ := w12
              have hK12_13 := Emp.fr (e := 13) (e2 := 37) hK10 hF12 (by decide)
              refine gx_st (st' := [.int (mos t (up2 K 1 k (nI i)) 0 2 - (up2 K 1 k (nI i)) 0 2)]) (by rw [er12]) ?_
              refine gx_pop C (by rfl) dX3_kindFor_88 ?_
              refine gx_aload_n C dX3_kindFor_89 (by rfl) (by rfl) ?_
              refine gx_getr (j := 37) (k := 3) C ck3 (by rfl) (by rfl) (by decide) fl_X3_19 dX3_kindFor_90 ?_
              refine gx_getr (j := 42) (k := 4) C ck0 (by rfl) (by rfl) (by decide) fl_X3_114 dX3_kindFor_93 ?_
              refine gx_iload_n C dX3_kindFor_96 (by rfl) (by rfl) ?_
              refine gx_ialdN (k := k) C (by rfl) rfl (by omega) (by decide) dX3_kindFor_97 ?_
              refine gx_st (st' := [.int ((mos t (up2 K 1 k (nI i))) 5 k)]) (by rw [hK12.r5 (p := k) (by omega)]) ?_
              refine gx_iload C dX3_kindFor_98 (by rfl) ?_
              refine gx_icmp_le (tgt := 117) C dX3_kindFor_100 (by decide) (fun h13 => ?_) (fun h13 => ?_)
              ·
                refine gx_iinc (v := nI (i + 1)) (lv2 := [(5, .int (nI (i + 1))), (0, .ref (eA E 0)), (1, .int (nI k)), (2, .int (nI t)), (3, .int ((kfF K k t i).1)), (4, .int ((kfF K k t i).2))]) C dX3_kindFor_117 (by rfl) (by exact nI_p1 _) (by decide) rfl ?_
                refine gx_goto (tgt := 51) C dX3_kindFor_120 (by decide) ?_
                refine gx_sub [1, 2, 3, 4, 5, 0] (lv' := [(0, .ref (eA E 0)), (1, .int (nI k)), (2, .int (nI t)), (3, .int ((kfF K k t i).1)), (4, .int ((kfF K k t i).2)), (5, .int (nI (i + 1)))]) rfl ?_
                refine gx_lv (lv' := [(0, .ref (eA E 0)), (1, .int (nI k)), (2, .int (nI t)), (3, .int ((kfF K k t (i + 1)).1)), (4, .int ((kfF K k t (i + 1)).2)), (5, .int (nI (i + 1)))]) (by simp only [kfF]; grind) ?_
                exact ih51 (i + 1) (by omega) (by omega) σ12 ((((hFt).tr hF9).up (by decide) (by decide)).tr hF12)
              ·
                refine gx_iload C dX3_kindFor_103 (by rfl) ?_
                refine gx_istore_n (lv2 := [(3, .int (nI i)), (0, .ref (eA E 0)), (1, .int (nI k)), (2, .int (nI t)), (4, .int ((kfF K k t i).2)), (5, .int (nI i))]) C dX3_kindFor_105 (by rfl) (by decide) rfl ?_
                refine gx_aload_n C dX3_kindFor_106 (by rfl) (by rfl) ?_
                refine gx_getr (j := 37) (k := 3) C ck3 (by rfl) (by rfl) (by decide) fl_X3_19 dX3_kindFor_107 ?_
                refine gx_getr (j := 42) (k := 4) C ck0 (by rfl) (by rfl) (by decide) fl_X3_114 dX3_kindFor_110 ?_
                refine gx_iload_n C dX3_kindFor_113 (by rfl) (by rfl) ?_
                refine gx_ialdN (k := k) C (by rfl) rfl (by omega) (by decide) dX3_kindFor_114 ?_
                refine gx_st (st' := [.int ((mos t (up2 K 1 k (nI i))) 5 k)]) (by rw [hK12.r5 (p := k) (by omega)]) ?_
                refine gx_istore (lv2 := [(4, .int ((mos t (up2 K 1 k (nI i))) 5 k)), (3, .int (nI i)), (0, .ref (eA E 0)), (1, .int (nI k)), (2, .int (nI t)), (5, .int (nI i))]) C dX3_kindFor_115 (by decide) rfl ?_
                refine gx_iinc (v := nI (i + 1)) (lv2 := [(5, .int (nI (i + 1))), (4, .int ((mos t (up2 K 1 k (nI i))) 5 k)), (3, .int (nI i)), (0, .ref (eA E 0)), (1, .int (nI k)), (2, .int (nI t))]) C dX3_kindFor_117 (by rfl) (by exact nI_p1 _) (by decide) rfl ?_
                refine gx_goto (tgt := 51) C dX3_kindFor_120 (by decide) ?_
                refine gx_sub [3, 4, 5, 2, 1, 0] (lv' := [(0, .ref (eA E 0)), (1, .int (nI k)), (2, .int (nI t)), (3, .int (nI i)), (4, .int ((mos t (up2 K 1 k (nI i))) 5 k)), (5, .int (nI (i + 1)))]) rfl ?_
                refine gx_lv (lv' := [(0, .ref (eA E 0)), (1, .int (nI k)), (2, .int (nI t)), (3, .int ((kfF K k t (i + 1)).1)), (4, .int ((kfF K k t (i + 1)).2)), (5, .int (nI (i + 1)))]) (by simp only [kfF]; grind) ?_
                exact ih51 (i + 1) (by omega) (by omega) σ12 ((((hFt).tr hF9).up (by decide) (by decide)).tr hF12)
        refine gx_sub [3, 4, 5, 2, 1, 0] (lv' := [(0, .ref (eA E 0)), (1, .int (nI k)), (2, .int (nI t)), (3, .int 0), (4, .int (-1)), (5, .int 0)]) rfl ?_
        refine gx_lv (lv' := [(0, .ref (eA E 0)), (1, .int (nI k)), (2, .int (nI t)), (3, .int ((kfF K k t 0).1)), (4, .int ((kfF K k t 0).2)), (5, .int (nI 0))]) (by rfl) ?_
        exact loop51 (7 + 1) 0 (by omega) (by omega) σ Fr.rf
      ·
        have h7 := b2_nz.mp h7
        refine gx_aload_n C dX3_kindFor_36 (by rfl) (by rfl) ?_
        refine gx_ldc C kc_X3_56 dX3_kindFor_37 ?_
        refine gx_callVI (As := [.int (-1000005)]) (rest := []) C (c_X3_found E σ (-1000005) 4 (by decide) (by decide)) z_X3_found ck3 (by rfl) (by rfl) ml_X3_49 (by rfl) (Nat.le_of_ble_eq_true rfl) ⟨Nat.le_of_ble_eq_true rfl, Nat.le_of_ble_eq_true rfl⟩ dX3_kindFor_39 (fun r14 σ14 w14 => ?_)
        obtain ⟨u1, u2⟩ := w14; rw [u1, u2]; clear u1 u2
        exact gx_iret C hr hlk rfl (fin_fd hC (by decide) (by simp only [opKindFor, bey, ful, knd, non, sta, mis, siz] <;> grind)) dX3_kindFor_42
    ·
      have h5 := b2_z.mp h5
      refine gx_aload_n C dX3_kindFor_21 (by rfl) (by rfl) ?_
      refine gx_ldc C kc_X3_48 dX3_kindFor_22 ?_
      refine gx_callVI (As := [.int (-1000001)]) (rest := []) C (c_X3_found E σ (-1000001) 0 (by decide) (by decide)) z_X3_found ck3 (by rfl) (by rfl) ml_X3_49 (by rfl) (Nat.le_of_ble_eq_true rfl) ⟨Nat.le_of_ble_eq_true rfl, Nat.le_of_ble_eq_true rfl⟩ dX3_kindFor_24 (fun r15 σ15 w15 => ?_)
      obtain ⟨u1, u2⟩ := w15; rw [u1, u2]; clear u1 u2
      exact gx_iret C hr hlk rfl (fin_fd hC (by decide) (by simp only [opKindFor, bey, ful, knd, non, sta, mis, siz] <;> grind)) dX3_kindFor_27
set_option maxHeartbeats 4000000 in
set_option maxRecDepth 100000 in
theorem c_X3_rumours (E : En) (σ : Mm) (K L : Mm) (g : Int32) (F : Nat → Int32) (tl : Int32) (Bt W Z : Nat → Int32) (N : Mm) (hC : CR σ (K, L, g, F, tl, Bt, W, Z, N)) (n : Int32) : CtI E yX3_rumours cX3_rumours 5 (some .int) 2 44 [.ref (eA E 0), .int n] σ (fun rr σ2 => rr = (opRumours (K, L, g, F, tl, Bt, W, Z, N) n).1 ∧ CR σ2 (opRumours (K, L, g, F, tl, Bt, W, Z, N) n).2 ∧ FC σ σ2) := by
  obtain ⟨⟨hK, hO⟩, ⟨hg1, hg2, hg3⟩, hFd, ⟨⟨htl, htl2⟩, hBt⟩, hSh⟩ := id hC
  obtain ⟨⟨hn, h12⟩, hpp, hlw, hsp, hz0⟩ := id hO
  refine CtI.of (by decide +kernel) (Nat.le_of_ble_eq_true rfl) (fun p e0 s m below meth c C hr hlk => ?_)
  refine gx_lv (lv' := [(0, .ref (eA E 0)), (1, .int n)]) rfl ?_
  refine gx_iload_n C dX3_rumours_0 (by rfl) (by rfl) ?_
  refine gx_iconst (v := 1) C dX3_rumours_1 (by decide) ?_
  refine gx_bipush (v := 12) C dX3_rumours_2 (by decide) ?_
  refine gx_callSI (As := [.int n, .int 1, .int 12]) (rest := []) C (c_X3_isWithin E σ n 1 12) z_X3_isWithin (by rfl) ml_X3_44 (by rfl) (Nat.le_of_ble_eq_true rfl) ⟨Nat.le_of_ble_eq_true rfl, Nat.le_of_ble_eq_true rfl⟩ dX3_rumours_4 (fun r1 σ1 w1 => ?_)
  obtain ⟨u1, u2⟩ := w1; rw [u1, u2]; clear u1 u2
  refine gx_if_ne (tgt := 17) C dX3_rumours_7 (by decide) (fun h2 => ?_) (fun h2 => ?_)
  ·
    have h2 := b2_nz.mp h2
    obtain ⟨t, ht, rfl⟩ := i_nat (M := 12) (n := 12) (by decide) ⟨Int32.le_trans (by decide) h2.1, h2.2⟩
    have ct : (nI t).toNatClampNeg = t := nI_clamp (by omega)
    refine gx_aload_n C dX3_rumours_17 (by rfl) (by rfl) ?_
    refine gx_getr (j := 13) (k := 0) C ck3 (by rfl) (by rfl) (by decide) fl_X3_10 dX3_rumours_18 ?_
    refine gx_geti (k := 11) C ck0 (by rfl) (by rfl) (by decide) fl_X3_90 dX3_rumours_21 ?_
    refine gx_st (st' := [.int (nI (nn K))]) (by rw [hK.n, hn]) ?_
    refine gx_if_ne (tgt := 34) C dX3_rumours_24 (by decide) (fun h3 => ?_) (fun h3 => ?_)
    ·
      have h0 : 0 < nn K := Nat.pos_of_ne_zero (fun q => h3 (by rw [q]; rfl))
      have hk0 : ¬ K 0 0 = 0 := by rw [hn]; exact h3
      refine gx_iconst (v := 0) C dX3_rumours_34 (by decide) ?_
      refine gx_istore_n (lv2 := [(2, .int 0), (0, .ref (eA E 0)), (1, .int (nI t))]) C dX3_rumours_35 (by rfl) (by decide) rfl ?_
      have loop36 : ∀ (kf i : Nat), i ≤ t → t < i + kf → ∀ τ : Mm, (Emp τ 13 (ruF i K)) → (Fr 13 σ τ) → Gx E p e0 (rmF 2 44) s m ([.ref (eA E 0), .int (nI t)] : List Value).toArray below meth c (MQ below (va_Qi (fun rr σ2 => rr = (opRumours (K, L, g, F, tl, Bt, W, Z, N) (nI t)).1 ∧ CR σ2 (opRumours (K, L, g, F, tl, Bt, W, Z, N) (nI t)).2 ∧ FC σ σ2) (WQ E) (AA E s.heap.size)) ([.ref (eA E 0), .int (nI t)] : List Value).toArray s 0 0 (AA E s.heap.size)) 5 36 [(0, .ref (eA E 0)), (1, .int (nI t)), (2, .int (nI i))] [] τ := by
        intro kf
        induction kf with
        | zero => intro i q1 q2; exact absurd q2 (by omega)
        | succ kf ih36 =>
          intro i a36 b36 τ hKt hFt
          obtain ⟨X, eX⟩ : ∃ X, X = ruF i K := ⟨_, rfl⟩
          rw [← eX] at hKt
          have hOX : Ok X := by rw [eX]; exact (ru_keep hO h0 i).1
          have hnX : nn X = nn K := by rw [eX]; exact (ru_keep hO h0 i).2
          have hX0 : 0 < nn X := by omega
          have h12X := hOX.1.2
          refine gx_iload_n C dX3_rumours_36 (by rfl) (by rfl) ?_
          refine gx_iload_n C dX3_rumours_37 (by rfl) (by rfl) ?_
          refine gx_icmp_ge (tgt := 84) C dX3_rumours_38 (by decide) (fun h4 => ?_) (fun h4 => ?_)
          ·
            have h4 := (nI_leI (a := t) (b := i) (by omega) (by omega)).mp h4
            refine gx_aload_n C dX3_rumours_84 (by rfl) (by rfl) ?_
            refine gx_getr (j := 13) (k := 0) C ck3 (by rfl) (by rfl) (by decide) fl_X3_10 dX3_rumours_85 ?_
            refine gx_callVI (As := []) (rest := []) C (c_X0_withGrudge E τ 13 isE_13 X hKt hOX) z_X0_withGrudge ck0 (by rfl) (by rfl) ml_X3_210 (by rfl) (Nat.le_of_ble_eq_true rfl) ⟨Nat.le_of_ble_eq_true rfl, Nat.le_of_ble_eq_true rfl⟩ dX3_rumours_88 (fun r5 σ5 w5 => ?_)
            obtain ⟨u1, u2⟩ := w5; rw [u1, u2]; clear u1 u2
            exact gx_iret C hr hlk rfl (fin_now hC hKt hOX hFt (by have q1 : i = t := (by omega); subst q1; subst eX; simp only [opRumours, ct, bey, sta]; rw [if_pos (by grind), if_neg (by assumption), hnX])) dX3_rumours_91
          ·
            have h4 := (not_congr (nI_leI (a := t) (b := i) (by omega) (by omega))).mp h4
            refine gx_aload_n C dX3_rumours_41 (by rfl) (by rfl) ?_
            refine gx_getr (j := 13) (k := 0) C ck3 (by rfl) (by rfl) (by decide) fl_X3_10 dX3_rumours_42 ?_
            refine gx_callVI (As := []) (rest := []) C (c_X0_drawPerson E τ 13 isE_13 X hKt hOX hX0) z_X0_drawPerson ck0 (by rfl) (by rfl) ml_X3_207 (by rfl) (Nat.le_of_ble_eq_true rfl) ⟨Nat.le_of_ble_eq_true rfl, Nat.le_of_ble_eq_true rfl⟩ dX3_rumours_45 (fun r6 σ6 w6 => ?_)
            obtain ⟨er6, hK6, hF6⟩ := w6
            have hK6 : Emp σ6 13 (up2 X 0 3 (drZ (X 0 3))) := hK6
            have er6 : r6 = nI (drN (drZ (X 0 3)) (nn X)) := er6
            have dl6 := dr_lt2 hX0 (drZ (X 0 3))
            refine gx_st (st' := [.int (nI (drN (drZ (X 0 3)) (nn X)))]) (by rw [er6]) ?_
            refine gx_istore_n (lv2 := [(3, .int (nI (drN (drZ (X 0 3)) (nn X)))), (0, .ref (eA E 0)), (1, .int (nI t)), (2, .int (nI i))]) C dX3_rumours_48 (by rfl) (by decide) rfl ?_
            refine gx_aload_n C dX3_rumours_49 (by rfl) (by rfl) ?_
            refine gx_getr (j := 13) (k := 0) C ck3 (by rfl) (by rfl) (by decide) fl_X3_10 dX3_rumours_50 ?_
            refine gx_callVI (As := []) (rest := []) C (c_X0_drawPerson E σ6 13 isE_13 (up2 X 0 3 (drZ (X 0 3))) hK6 (hOX.fld0 (by decide) (by decide)) hX0) z_X0_drawPerson ck0 (by rfl) (by rfl) ml_X3_207 (by rfl) (Nat.le_of_ble_eq_true rfl) ⟨Nat.le_of_ble_eq_true rfl, Nat.le_of_ble_eq_true rfl⟩ dX3_rumours_53 (fun r7 σ7 w7 => ?_)
            obtain ⟨er7, hK7, hF7⟩ := w7
            have hK7 : Emp σ7 13 (up2 (up2 X 0 3 (drZ (X 0 3))) 0 3 (drZ (drZ (X 0 3)))) := hK7
            have er7 : r7 = nI (drN (drZ (drZ (X 0 3))) (nn X)) := er7
            have dl7 := dr_lt2 hX0 (drZ (drZ (X 0 3)))
            refine gx_st (st' := [.int (nI (drN (drZ (drZ (X 0 3))) (nn X)))]) (by rw [er7]) ?_
            refine gx_istore (lv2 := [(4, .int (nI (drN (drZ (drZ (X 0 3))) (nn X)))), (3, .int (nI (drN (drZ (X 0 3)) (nn X)))), (0, .ref (eA E 0)), (1, .int (nI t)), (2, .int (nI i))]) C dX3_rumours_56 (by decide) rfl ?_
            refine gx_aload_n C dX3_rumours_58 (by rfl) (by rfl) ?_
            refine gx_getr (j := 13) (k := 0) C ck3 (by rfl) (by rfl) (by decide) fl_X3_10 dX3_rumours_59 ?_
            refine gx_iload_n C dX3_rumours_62 (by rfl) (by rfl) ?_
            refine gx_iload C dX3_rumours_63 (by rfl) ?_
            refine gx_iload_n C dX3_rumours_65 (by rfl) (by rfl) ?_
            refine gx_icmp_ne (tgt := 73) C dX3_rumours_66 (by decide) (fun h8 => ?_) (fun h8 => ?_)
            ·
              have h8 := (not_congr (nI_eq (a := (drN (drZ (drZ (X 0 3))) (nn X))) (b := (drN (drZ (X 0 3)) (nn X))) (by omega) (by omega))).mp h8
              refine gx_iload C dX3_rumours_73 (by rfl) ?_
              have hru := ru_rg hOX (p := drN (drZ (X 0 3)) (nn X)) (q := drN (drZ (drZ (X 0 3))) (nn X)) (dr_lt2 hX0 _)
              rw [ruQ, if_neg (by assumption)] at hru
              refine gx_callVV (As := [.int (nI (drN (drZ (X 0 3)) (nn X))), .int (nI (drN (drZ (drZ (X 0 3))) (nn X)))]) (rest := []) C (c_X0_resent E σ7 13 isE_13 (drN (drZ (X 0 3)) (nn X)) (by omega) (nI (drN (drZ (drZ (X 0 3))) (nn X)))) z_X0_resent ck0 (by rfl) (by rfl) ml_X3_130 (by rfl) (Nat.le_of_ble_eq_true rfl) ⟨Nat.le_of_ble_eq_true rfl, Nat.le_of_ble_eq_true rfl⟩ dX3_rumours_75 (fun σ9 w9 => ?_)
              have hK9 : Emp σ9 13 (up2 (up2 (up2 (up2 X 0 3 (drZ (X 0 3))) 0 3 (drZ (drZ (X 0 3)))) 6 (drN (drZ (X 0 3)) (nn X)) (nI (drN (drZ (drZ (X 0 3))) (nn X)))) 7 (drN (drZ (X 0 3)) (nn X)) 0) := by rw [w9]; exact (hK7.u6 (by omega)).u7 (by omega)
              have hF9 : Fr 13 σ7 σ9 := by rw [w9]; exact (Fr.rf.up (by omega) (by omega)).up (by omega) (by omega)
              clear w9
              refine gx_iinc (v := nI (i + 1)) (lv2 := [(2, .int (nI (i + 1))), (4, .int (nI (drN (drZ (drZ (X 0 3))) (nn X)))), (3, .int (nI (drN (drZ (X 0 3)) (nn X)))), (0, .ref (eA E 0)), (1, .int (nI t))]) C dX3_rumours_78 (by rfl) (by exact nI_p1 _) (by decide) rfl ?_
              refine gx_goto (tgt := 36) C dX3_rumours_81 (by decide) ?_
              refine gx_sub [3, 4, 0] (lv' := [(0, .ref (eA E 0)), (1, .int (nI t)), (2, .int (nI (i + 1)))]) rfl ?_
              exact ih36 (i + 1) (by omega) (by omega) σ9 (by rw [ruF, ← eX, ruS, ruQ, if_neg (by assumption)]; exact hK9) ((((hFt).tr hF6).tr hF7).tr hF9)
            ·
              have h8 := (nI_eq (a := (drN (drZ (drZ (X 0 3))) (nn X))) (b := (drN (drZ (X 0 3)) (nn X))) (by omega) (by omega)).mp h8
              refine gx_iconst (v := (-1)) C dX3_rumours_69 (by decide) ?_
              refine gx_goto (tgt := 75) C dX3_rumours_70 (by decide) ?_
              have hru := ru_rg hOX (p := drN (drZ (X 0 3)) (nn X)) (q := drN (drZ (drZ (X 0 3))) (nn X)) (dr_lt2 hX0 _)
              rw [ruQ, if_pos (by assumption)] at hru
              refine gx_callVV (As := [.int (nI (drN (drZ (X 0 3)) (nn X))), .int (-1)]) (rest := []) C (c_X0_resent E σ7 13 isE_13 (drN (drZ (X 0 3)) (nn X)) (by omega) (-1)) z_X0_resent ck0 (by rfl) (by rfl) ml_X3_130 (by rfl) (Nat.le_of_ble_eq_true rfl) ⟨Nat.le_of_ble_eq_true rfl, Nat.le_of_ble_eq_true rfl⟩ dX3_rumours_75 (fun σ10 w10 => ?_)
              have hK10 : Emp σ10 13 (up2 (up2 (up2 (up2 X 0 3 (drZ (X 0 3))) 0 3 (drZ (drZ (X 0 3)))) 6 (drN (drZ (X 0 3)) (nn X)) (-1)) 7 (drN (drZ (X 0 3)) (nn X)) 0) := by rw [w10]; exact (hK7.u6 (by omega)).u7 (by omega)
              have hF10 : Fr 13 σ7 σ10 := by rw [w10]; exact (Fr.rf.up (by omega) (by omega)).up (by omega) (by omega)
              clear w10
              refine gx_iinc (v := nI (i + 1)) (lv2 := [(2, .int (nI (i + 1))), (4, .int (nI (drN (drZ (drZ (X 0 3))) (nn X)))), (3, .int (nI (drN (drZ (X 0 3)) (nn X)))), (0, .ref (eA E 0)), (1, .int (nI t))]) C dX3_rumours_78 (by rfl) (by exact nI_p1 _) (by decide) rfl ?_
              refine gx_goto (tgt := 36) C dX3_rumours_81 (by decide) ?_
              refine gx_sub [3, 4, 0] (lv' := [(0, .ref (eA E 0)), (1, .int (nI t)), (2, .int (nI (i + 1)))]) rfl ?_
              exact ih36 (i + 1) (by omega) (by omega) σ10 (by rw [ruF, ← eX, ruS, ruQ, if_pos (by assumption)]; exact hK10) ((((hFt).tr hF6).tr hF7).tr hF10)
      refine gx_sub [1, 2, 0] (lv' := [(0, .ref (eA E 0)), (1, .int (nI t)), (2, .int 0)]) rfl ?_
      refine gx_lv (lv' := [(0, .ref (eA E 0)), (1, .int (nI t)), (2, .int (nI 0))]) (by rfl) ?_
      exact loop36 (t + 1) 0 (by omega) (by omega) σ hK Fr.rf
    ·
      have hk0 : K 0 0 = 0 := by rw [hn]; exact h3
      refine gx_aload_n C dX3_rumours_27 (by rfl) (by rfl) ?_
      refine gx_ldc C kc_X3_56 dX3_rumours_28 ?_
      refine gx_callVI (As := [.int (-1000005)]) (rest := []) C (c_X3_found E σ (-1000005) 4 (by decide) (by decide)) z_X3_found ck3 (by rfl) (by rfl) ml_X3_49 (by rfl) (Nat.le_of_ble_eq_true rfl) ⟨Nat.le_of_ble_eq_true rfl, Nat.le_of_ble_eq_true rfl⟩ dX3_rumours_30 (fun r11 σ11 w11 => ?_)
      obtain ⟨u1, u2⟩ := w11; rw [u1, u2]; clear u1 u2
      exact gx_iret C hr hlk rfl (fin_fd hC (by decide) (by simp only [opRumours, bey, ful, knd, non, sta, mis, siz] <;> grind)) dX3_rumours_33
  ·
    have h2 := b2_z.mp h2
    refine gx_aload_n C dX3_rumours_10 (by rfl) (by rfl) ?_
    refine gx_ldc C kc_X3_48 dX3_rumours_11 ?_
    refine gx_callVI (As := [.int (-1000001)]) (rest := []) C (c_X3_found E σ (-1000001) 0 (by decide) (by decide)) z_X3_found ck3 (by rfl) (by rfl) ml_X3_49 (by rfl) (Nat.le_of_ble_eq_true rfl) ⟨Nat.le_of_ble_eq_true rfl, Nat.le_of_ble_eq_true rfl⟩ dX3_rumours_13 (fun r12 σ12 w12 => ?_)
    obtain ⟨u1, u2⟩ := w12; rw [u1, u2]; clear u1 u2
    exact gx_iret C hr hlk rfl (fin_fd hC (by decide) (by simp only [opRumours, bey, ful, knd, non, sta, mis, siz] <;> grind)) dX3_rumours_16
