set_option maxHeartbeats 4000000 in
set_option maxRecDepth 100000 in
theorem c_X4_seed (E : En) (σ : Mm) (K L : Mm) (g : Int32) (F : Nat → Int32) (tl : Int32) (Bt W Z : Nat → Int32) (N : Mm) (hR : MR σ (K, L, g, F, tl, Bt, W, Z, N)) (v : Int32) : CtI E yX4_seed cX4_seed 2 (some .int) 1 23 [.ref (eA E 49), .int v] σ (fun rr σ2 => rr = (opSeed (K, L, g, F, tl, Bt, W, Z, N) v).1 ∧ MR σ2 (opSeed (K, L, g, F, tl, Bt, W, Z, N) v).2 ∧ FM σ σ2) := by
  obtain ⟨⟨hM, hO⟩, ⟨hg1, hg2, hg3⟩, hFd, ⟨⟨htl, htl2⟩, hBt⟩, hSh⟩ := id hR
  obtain ⟨⟨hn, h12⟩, hpp, hlw, hsp, hz0⟩ := id hO
  refine CtI.of (by decide +kernel) (Nat.le_of_ble_eq_true rfl) (fun p e0 s m below meth c C hr hlk => ?_)
  refine gx_lv (lv' := [(0, .ref (eA E 49)), (1, .int v)]) rfl ?_
  refine gx_aload_n C dX4_seed_0 (by rfl) (by rfl) ?_
  refine gx_iconst (v := 5) C dX4_seed_1 (by decide) ?_
  refine gx_iload_n C dX4_seed_2 (by rfl) (by rfl) ?_
  refine gx_callVI (As := [.int 5, .int v]) (rest := []) C (c_X4_becomes E σ 5 (by omega) v) z_X4_becomes ck4 (by rfl) (by rfl) ml_X4_68 (by rfl) (Nat.le_of_ble_eq_true rfl) ⟨Nat.le_of_ble_eq_true rfl, Nat.le_of_ble_eq_true rfl⟩ dX4_seed_3 (fun r2 σ2 w2 => ?_)
  obtain ⟨u1, u2⟩ := w2; rw [u1, u2]; clear u1 u2
  refine gx_st (st' := [.int (K (0) 3)]) (by rw [mp_z hM]) ?_
  have hM1 : vM (up2 σ 50 5 v) 50 = up2 K (0) 3 v := by rw [vM_up (j := 0) (p := 3) (by omega) (by decide) (by rfl), hM]
  exact gx_iret C hr hlk rfl (fim_now hR hM1 (hO.fld0 (k := 3) (v := v) (by decide) (by decide)) ((F3.rf).up (by decide)) (by simp only [opSeed, bey, ful, knd, non, sta, mis, siz] <;> grind)) dX4_seed_6
set_option maxHeartbeats 4000000 in
set_option maxRecDepth 100000 in
theorem c_X4_hold (E : En) (σ : Mm) (K L : Mm) (g : Int32) (F : Nat → Int32) (tl : Int32) (Bt W Z : Nat → Int32) (N : Mm) (hR : MR σ (K, L, g, F, tl, Bt, W, Z, N)) (x q : Int32) : CtI E yX4_hold cX4_hold 3 (some .int) 2 46 [.ref (eA E 49), .int x, .int q] σ (fun rr σ2 => rr = (opHold (K, L, g, F, tl, Bt, W, Z, N) x q).1 ∧ MR σ2 (opHold (K, L, g, F, tl, Bt, W, Z, N) x q).2 ∧ FM σ σ2) := by
  obtain ⟨⟨hM, hO⟩, ⟨hg1, hg2, hg3⟩, hFd, ⟨⟨htl, htl2⟩, hBt⟩, hSh⟩ := id hR
  obtain ⟨⟨hn, h12⟩, hpp, hlw, hsp, hz0⟩ := id hO
  refine CtI.of (by decide +kernel) (Nat.le_of_ble_eq_true rfl) (fun p e0 s m below meth c C hr hlk => ?_)
  refine gx_lv (lv' := [(0, .ref (eA E 49)), (1, .int x), (2, .int q)]) rfl ?_
  refine gx_iload_n C dX4_hold_0 (by rfl) (by rfl) ?_
  refine gx_i2l C dX4_hold_1 ?_
  refine gx_lconst (v := 0) C dX4_hold_2 (by decide) ?_
  refine gx_ldc2 C kl_X4_299 dX4_hold_3 ?_
  refine gx_callSI (As := [.long x.toInt64, .long 0, .long 9]) (rest := []) C (c_X4_in E σ x 0 9 x.toInt64 0 9 (by first | rfl | decide) (by first | rfl | decide) (by first | rfl | decide)) z_X4_in (by rfl) ml_X4_45 (by rfl) (Nat.le_of_ble_eq_true rfl) ⟨Nat.le_of_ble_eq_true rfl, Nat.le_of_ble_eq_true rfl⟩ dX4_hold_6 (fun r1 σ1 w1 => ?_)
  obtain ⟨u1, u2⟩ := w1; rw [u1, u2]; clear u1 u2
  refine gx_if_eq (tgt := 25) C dX4_hold_9 (by decide) (fun h2 => ?_) (fun h2 => ?_)
  ·
    have h2 := b2_z.mp h2
    refine gx_aload_n C dX4_hold_25 (by rfl) (by rfl) ?_
    refine gx_ldc C kc_X4_37 dX4_hold_26 ?_
    refine gx_callVI (As := [.int (-1000001)]) (rest := []) C (c_X4_finds E σ (-1000001) 0 (by decide) (by decide)) z_X4_finds ck4 (by rfl) (by rfl) ml_X4_39 (by rfl) (Nat.le_of_ble_eq_true rfl) ⟨Nat.le_of_ble_eq_true rfl, Nat.le_of_ble_eq_true rfl⟩ dX4_hold_28 (fun r3 σ3 w3 => ?_)
    obtain ⟨u1, u2⟩ := w3; rw [u1, u2]; clear u1 u2
    exact gx_iret C hr hlk rfl (fim_fd hR (by decide) (by simp only [opHold, bey, ful, knd, non, sta, mis, siz] <;> grind)) dX4_hold_31
  ·
    have h2 := b2_nz.mp h2
    obtain ⟨k, hk, rfl⟩ := i_nat (M := 9) (n := 9) (by decide) h2
    have ck : (nI k).toNatClampNeg = k := nI_clamp (by omega)
    refine gx_iload_n C dX4_hold_12 (by rfl) (by rfl) ?_
    refine gx_iconst (v := (-1)) C dX4_hold_13 (by decide) ?_
    refine gx_icmp_eq (tgt := 32) C dX4_hold_14 (by decide) (fun h4 => ?_) (fun h4 => ?_)
    ·
      refine gx_aload_n C dX4_hold_32 (by rfl) (by rfl) ?_
      refine gx_getr (j := 50) (k := 0) C ck4 (by rfl) (by rfl) (by decide) fl_X4_9 dX4_hold_33 ?_
      refine gx_bipush (v := 99) C dX4_hold_36 (by decide) ?_
      refine gx_iload_n C dX4_hold_38 (by rfl) (by rfl) ?_
      refine gx_iadd C dX4_hold_39 ?_
      refine gx_st (st' := [.int (nI (99 + k)), .ref (eA E 50)]) (by rw [show 99 + (nI k) = nI (99 + k) from nI_add 99 k]) ?_
      refine gx_iload_n C dX4_hold_40 (by rfl) (by rfl) ?_
      refine gx_iastN (k := (99 + k)) C (by rfl) rfl (by omega) (by decide) dX4_hold_41 ?_
      have hM5 : vM (up2 σ 50 (99 + k) q) 50 = up2 K 10 k q := by rw [vM_up (j := 10) (p := k) (by omega) (show _ < 10 by omega) (by rfl), hM]
      refine gx_iconst (v := 1) C dX4_hold_42 (by decide) ?_
      exact gx_iret C hr hlk rfl (fim_now hR hM5 (hO.spot (p := k) (v := q) (by omega) (q_rg hO (by grind))) ((F3.rf).up (by decide)) (by simp only [opHold, bey, ful, knd, non, sta, mis, siz] <;> grind)) dX4_hold_43
    ·
      refine gx_aload_n C dX4_hold_17 (by rfl) (by rfl) ?_
      refine gx_iload_n C dX4_hold_18 (by rfl) (by rfl) ?_
      refine gx_callVI (As := [.int q]) (rest := []) C (c_X4_isPerson E σ K hM hO q) z_X4_isPerson ck4 (by rfl) (by rfl) ml_X4_101 (by rfl) (Nat.le_of_ble_eq_true rfl) ⟨Nat.le_of_ble_eq_true rfl, Nat.le_of_ble_eq_true rfl⟩ dX4_hold_19 (fun r6 σ6 w6 => ?_)
      obtain ⟨u1, u2⟩ := w6; rw [u1, u2]; clear u1 u2
      refine gx_if_ne (tgt := 32) C dX4_hold_22 (by decide) (fun h7 => ?_) (fun h7 => ?_)
      ·
        have h7 := b2_nz.mp h7
        refine gx_aload_n C dX4_hold_32 (by rfl) (by rfl) ?_
        refine gx_getr (j := 50) (k := 0) C ck4 (by rfl) (by rfl) (by decide) fl_X4_9 dX4_hold_33 ?_
        refine gx_bipush (v := 99) C dX4_hold_36 (by decide) ?_
        refine gx_iload_n C dX4_hold_38 (by rfl) (by rfl) ?_
        refine gx_iadd C dX4_hold_39 ?_
        refine gx_st (st' := [.int (nI (99 + k)), .ref (eA E 50)]) (by rw [show 99 + (nI k) = nI (99 + k) from nI_add 99 k]) ?_
        refine gx_iload_n C dX4_hold_40 (by rfl) (by rfl) ?_
        refine gx_iastN (k := (99 + k)) C (by rfl) rfl (by omega) (by decide) dX4_hold_41 ?_
        have hM8 : vM (up2 σ 50 (99 + k) q) 50 = up2 K 10 k q := by rw [vM_up (j := 10) (p := k) (by omega) (show _ < 10 by omega) (by rfl), hM]
        refine gx_iconst (v := 1) C dX4_hold_42 (by decide) ?_
        exact gx_iret C hr hlk rfl (fim_now hR hM8 (hO.spot (p := k) (v := q) (by omega) (q_rg hO (by grind))) ((F3.rf).up (by decide)) (by simp only [opHold, bey, ful, knd, non, sta, mis, siz] <;> grind)) dX4_hold_43
      ·
        have h7 := b2_z.mp h7
        refine gx_aload_n C dX4_hold_25 (by rfl) (by rfl) ?_
        refine gx_ldc C kc_X4_37 dX4_hold_26 ?_
        refine gx_callVI (As := [.int (-1000001)]) (rest := []) C (c_X4_finds E σ (-1000001) 0 (by decide) (by decide)) z_X4_finds ck4 (by rfl) (by rfl) ml_X4_39 (by rfl) (Nat.le_of_ble_eq_true rfl) ⟨Nat.le_of_ble_eq_true rfl, Nat.le_of_ble_eq_true rfl⟩ dX4_hold_28 (fun r9 σ9 w9 => ?_)
        obtain ⟨u1, u2⟩ := w9; rw [u1, u2]; clear u1 u2
        exact gx_iret C hr hlk rfl (fim_fd hR (by decide) (by simp only [opHold, bey, ful, knd, non, sta, mis, siz] <;> grind)) dX4_hold_31
set_option maxHeartbeats 4000000 in
set_option maxRecDepth 100000 in
theorem c_X4_as (E : En) (σ : Mm) (K L : Mm) (g : Int32) (F : Nat → Int32) (tl : Int32) (Bt W Z : Nat → Int32) (N : Mm) (hR : MR σ (K, L, g, F, tl, Bt, W, Z, N)) (x y : Int32) : CtI E yX4_as cX4_as 5 (some .int) 2 45 [.ref (eA E 49), .int x, .int y] σ (fun rr σ2 => rr = (opAs (K, L, g, F, tl, Bt, W, Z, N) x y).1 ∧ MR σ2 (opAs (K, L, g, F, tl, Bt, W, Z, N) x y).2 ∧ FM σ σ2) := by
  obtain ⟨⟨hM, hO⟩, ⟨hg1, hg2, hg3⟩, hFd, ⟨⟨htl, htl2⟩, hBt⟩, hSh⟩ := id hR
  obtain ⟨⟨hn, h12⟩, hpp, hlw, hsp, hz0⟩ := id hO
  refine CtI.of (by decide +kernel) (Nat.le_of_ble_eq_true rfl) (fun p e0 s m below meth c C hr hlk => ?_)
  refine gx_lv (lv' := [(0, .ref (eA E 49)), (1, .int x), (2, .int y)]) rfl ?_
  refine gx_iload_n C dX4_as_0 (by rfl) (by rfl) ?_
  refine gx_i2l C dX4_as_1 ?_
  refine gx_lconst (v := 0) C dX4_as_2 (by decide) ?_
  refine gx_ldc2 C kl_X4_299 dX4_as_3 ?_
  refine gx_callSI (As := [.long x.toInt64, .long 0, .long 9]) (rest := []) C (c_X4_in E σ x 0 9 x.toInt64 0 9 (by first | rfl | decide) (by first | rfl | decide) (by first | rfl | decide)) z_X4_in (by rfl) ml_X4_45 (by rfl) (Nat.le_of_ble_eq_true rfl) ⟨Nat.le_of_ble_eq_true rfl, Nat.le_of_ble_eq_true rfl⟩ dX4_as_6 (fun r1 σ1 w1 => ?_)
  obtain ⟨u1, u2⟩ := w1; rw [u1, u2]; clear u1 u2
  refine gx_if_eq (tgt := 19) C dX4_as_9 (by decide) (fun h2 => ?_) (fun h2 => ?_)
  ·
    have h2 := b2_z.mp h2
    refine gx_aload_n C dX4_as_19 (by rfl) (by rfl) ?_
    refine gx_ldc C kc_X4_37 dX4_as_20 ?_
    refine gx_callVI (As := [.int (-1000001)]) (rest := []) C (c_X4_finds E σ (-1000001) 0 (by decide) (by decide)) z_X4_finds ck4 (by rfl) (by rfl) ml_X4_39 (by rfl) (Nat.le_of_ble_eq_true rfl) ⟨Nat.le_of_ble_eq_true rfl, Nat.le_of_ble_eq_true rfl⟩ dX4_as_22 (fun r3 σ3 w3 => ?_)
    obtain ⟨u1, u2⟩ := w3; rw [u1, u2]; clear u1 u2
    exact gx_iret C hr hlk rfl (fim_fd hR (by decide) (by first | (simp only [opAs, ck, bey, mis, knd] <;> grind) | (simp only [opAs, bey, mis, knd] <;> grind))) dX4_as_25
  ·
    have h2 := b2_nz.mp h2
    obtain ⟨k, hk, rfl⟩ := i_nat (M := 9) (n := 9) (by decide) h2
    have ck : (nI k).toNatClampNeg = k := nI_clamp (by omega)
    refine gx_iload_n C dX4_as_12 (by rfl) (by rfl) ?_
    refine gx_callSI (As := [.int y]) (rest := []) C (c_X4_isKind E σ y) z_X4_isKind (by rfl) ml_X4_91 (by rfl) (Nat.le_of_ble_eq_true rfl) ⟨Nat.le_of_ble_eq_true rfl, Nat.le_of_ble_eq_true rfl⟩ dX4_as_13 (fun r4 σ4 w4 => ?_)
    obtain ⟨u1, u2⟩ := w4; rw [u1, u2]; clear u1 u2
    refine gx_if_ne (tgt := 26) C dX4_as_16 (by decide) (fun h5 => ?_) (fun h5 => ?_)
    ·
      have h5 := b2_nz.mp h5
      refine gx_aload_n C dX4_as_26 (by rfl) (by rfl) ?_
      refine gx_getr (j := 50) (k := 0) C ck4 (by rfl) (by rfl) (by decide) fl_X4_9 dX4_as_27 ?_
      refine gx_bipush (v := 99) C dX4_as_30 (by decide) ?_
      refine gx_iload_n C dX4_as_32 (by rfl) (by rfl) ?_
      refine gx_iadd C dX4_as_33 ?_
      refine gx_st (st' := [.int (nI (99 + k)), .ref (eA E 50)]) (by rw [show 99 + (nI k) = nI (99 + k) from nI_add 99 k]) ?_
      refine gx_ialdN (k := (99 + k)) C (by rfl) rfl (by omega) (by decide) dX4_as_34 ?_
      refine gx_st (st' := [.int (K 10 k)]) (by rw [mp_10 hM (p := k) (by omega)]) ?_
      refine gx_istore_n (lv2 := [(3, .int (K 10 k)), (0, .ref (eA E 49)), (1, .int (nI k)), (2, .int y)]) C dX4_as_35 (by rfl) (by decide) rfl ?_
      refine gx_iload_n C dX4_as_36 (by rfl) (by rfl) ?_
      refine gx_if_ge (tgt := 48) C dX4_as_37 (by decide) (fun h6 => ?_) (fun h6 => ?_)
      ·
        have hs0 : 0 ≤ K 10 k ∧ K 10 k < K 0 0 := ⟨h6, (hsp k (by omega)).2⟩
        obtain ⟨j, hj, ej⟩ := has_nat hO hs0
        have cj : cl (K 10 k) = j := by rw [ej]; exact nI_clamp (by omega)
        obtain ⟨d, hd, ed⟩ := i_nat (M := 6) (n := 6) (by decide) (hpp j (by omega)).1
        have cd : cl (K 1 j) = d := by rw [ed]; exact nI_clamp (by omega)
        refine gx_lv (lv' := [(3, .int (nI j)), (0, .ref (eA E 49)), (1, .int (nI k)), (2, .int y)]) (by rw [ej]) ?_
        refine gx_aload_n C dX4_as_48 (by rfl) (by rfl) ?_
        refine gx_iload_n C dX4_as_49 (by rfl) (by rfl) ?_
        refine gx_iconst (v := 0) C dX4_as_50 (by decide) ?_
        refine gx_callVI (As := [.int (nI j), .int 0]) (rest := []) C (c_X4_is E σ j (by omega) 0 (by omega)) z_X4_is ck4 (by rfl) (by rfl) ml_X4_51 (by rfl) (Nat.le_of_ble_eq_true rfl) ⟨Nat.le_of_ble_eq_true rfl, Nat.le_of_ble_eq_true rfl⟩ dX4_as_51 (fun r7 σ7 w7 => ?_)
        obtain ⟨u1, u2⟩ := w7; rw [u1, u2]; clear u1 u2
        refine gx_st (st' := [.int (K 1 j)]) (by rw [mp_1 hM (p := j) (by omega)]) ?_
        rcases (show d = 0 ∨ d = 1 ∨ d = 2 ∨ d = 3 ∨ d = 4 ∨ d = 5 ∨ d = 6 by omega) with rfl | rfl | rfl | rfl | rfl | rfl | rfl
        ·
          refine gx_st (st' := [.int 0]) (by rw [ed]; rfl) ?_
          refine gx_istore (lv2 := [(4, .int 0), (3, .int (nI j)), (0, .ref (eA E 49)), (1, .int (nI k)), (2, .int y)]) C dX4_as_54 (by decide) rfl ?_
          refine gx_iload C dX4_as_56 (by rfl) ?_
          refine gx_if_lt (tgt := 79) C dX4_as_58 (by decide) (fun h8 => ?_) (fun h8 => ?_)
          ·
            exact absurd h8 (by decide)
          ·
            clear h8
            refine gx_iload C dX4_as_61 (by rfl) ?_
            refine gx_iload_n C dX4_as_63 (by rfl) (by rfl) ?_
            refine gx_icmp_ne (tgt := 69) C dX4_as_64 (by decide) (fun h9 => ?_) (fun h9 => ?_)
            ·
              refine gx_iload C dX4_as_69 (by rfl) ?_
              refine gx_callSI (As := [.int 0]) (rest := []) C (c_X4_above_0 E σ) z_X4_above (by rfl) ml_X4_302 (by rfl) (Nat.le_of_ble_eq_true rfl) ⟨Nat.le_of_ble_eq_true rfl, Nat.le_of_ble_eq_true rfl⟩ dX4_as_71 (fun r10 σ10 w10 => ?_)
              obtain ⟨u1, u2⟩ := w10; rw [u1, u2]; clear u1 u2
              refine gx_istore (lv2 := [(4, .int (-1)), (3, .int (nI j)), (0, .ref (eA E 49)), (1, .int (nI k)), (2, .int y)]) C dX4_as_74 (by decide) rfl ?_
              refine gx_goto (tgt := 56) C dX4_as_76 (by decide) ?_
              refine gx_iload C dX4_as_56 (by rfl) ?_
              refine gx_if_lt (tgt := 79) C dX4_as_58 (by decide) (fun h11 => ?_) (fun h11 => ?_)
              ·
                clear h11
                refine gx_aload_n C dX4_as_79 (by rfl) (by rfl) ?_
                refine gx_ldcw C kc_X4_305 dX4_as_80 ?_
                refine gx_callVI (As := [.int (-1000003)]) (rest := []) C (c_X4_finds E σ (-1000003) 2 (by decide) (by decide)) z_X4_finds ck4 (by rfl) (by rfl) ml_X4_39 (by rfl) (Nat.le_of_ble_eq_true rfl) ⟨Nat.le_of_ble_eq_true rfl, Nat.le_of_ble_eq_true rfl⟩ dX4_as_83 (fun r14 σ14 w14 => ?_)
                obtain ⟨u1, u2⟩ := w14; rw [u1, u2]; clear u1 u2
                exact gx_iret C hr hlk rfl (fim_fd hR (by decide) (by have q1 : okd 0 y = false := (by show ([0] : List Int32).contains y = false; simp; grind); simp only [opAs, ck, cj, cd, bey, mis, knd]; rw [if_pos (by grind), if_neg (by grind), if_neg (by rw [q1]; decide)])) dX4_as_86
              ·
                exact absurd h11 (by decide)
            ·
              refine gx_iload_n C dX4_as_67 (by rfl) (by rfl) ?_
              exact gx_iret C hr hlk rfl (fim_rd hR (by have q1 : okd 0 y = true := (by show ([0] : List Int32).contains y = true; simp; grind); simp only [opAs, ck, cj, cd, bey, mis, knd]; rw [if_pos (by grind), if_neg (by grind), if_pos q1, ej])) dX4_as_68
        ·
          refine gx_st (st' := [.int 1]) (by rw [ed]; rfl) ?_
          refine gx_istore (lv2 := [(4, .int 1), (3, .int (nI j)), (0, .ref (eA E 49)), (1, .int (nI k)), (2, .int y)]) C dX4_as_54 (by decide) rfl ?_
          refine gx_iload C dX4_as_56 (by rfl) ?_
          refine gx_if_lt (tgt := 79) C dX4_as_58 (by decide) (fun h15 => ?_) (fun h15 => ?_)
          ·
            exact absurd h15 (by decide)
          ·
            clear h15
            refine gx_iload C dX4_as_61 (by rfl) ?_
            refine gx_iload_n C dX4_as_63 (by rfl) (by rfl) ?_
            refine gx_icmp_ne (tgt := 69) C dX4_as_64 (by decide) (fun h16 => ?_) (fun h16 => ?_)
            ·
              refine gx_iload C dX4_as_69 (by rfl) ?_
              refine gx_callSI (As := [.int 1]) (rest := []) C (c_X4_above_1 E σ) z_X4_above (by rfl) ml_X4_302 (by rfl) (Nat.le_of_ble_eq_true rfl) ⟨Nat.le_of_ble_eq_true rfl, Nat.le_of_ble_eq_true rfl⟩ dX4_as_71 (fun r17 σ17 w17 => ?_)
              obtain ⟨u1, u2⟩ := w17; rw [u1, u2]; clear u1 u2
              refine gx_istore (lv2 := [(4, .int 0), (3, .int (nI j)), (0, .ref (eA E 49)), (1, .int (nI k)), (2, .int y)]) C dX4_as_74 (by decide) rfl ?_
              refine gx_goto (tgt := 56) C dX4_as_76 (by decide) ?_
              refine gx_iload C dX4_as_56 (by rfl) ?_
              refine gx_if_lt (tgt := 79) C dX4_as_58 (by decide) (fun h18 => ?_) (fun h18 => ?_)
              ·
                exact absurd h18 (by decide)
              ·
                clear h18
                refine gx_iload C dX4_as_61 (by rfl) ?_
                refine gx_iload_n C dX4_as_63 (by rfl) (by rfl) ?_
                refine gx_icmp_ne (tgt := 69) C dX4_as_64 (by decide) (fun h19 => ?_) (fun h19 => ?_)
                ·
                  refine gx_iload C dX4_as_69 (by rfl) ?_
                  refine gx_callSI (As := [.int 0]) (rest := []) C (c_X4_above_0 E σ) z_X4_above (by rfl) ml_X4_302 (by rfl) (Nat.le_of_ble_eq_true rfl) ⟨Nat.le_of_ble_eq_true rfl, Nat.le_of_ble_eq_true rfl⟩ dX4_as_71 (fun r20 σ20 w20 => ?_)
                  obtain ⟨u1, u2⟩ := w20; rw [u1, u2]; clear u1 u2
                  refine gx_istore (lv2 := [(4, .int (-1)), (3, .int (nI j)), (0, .ref (eA E 49)), (1, .int (nI k)), (2, .int y)]) C dX4_as_74 (by decide) rfl ?_
                  refine gx_goto (tgt := 56) C dX4_as_76 (by decide) ?_
                  refine gx_iload C dX4_as_56 (by rfl) ?_
                  refine gx_if_lt (tgt := 79) C dX4_as_58 (by decide) (fun h21 => ?_) (fun h21 => ?_)
                  ·
                    clear h21
                    refine gx_aload_n C dX4_as_79 (by rfl) (by rfl) ?_
                    refine gx_ldcw C kc_X4_305 dX4_as_80 ?_
                    refine gx_callVI (As := [.int (-1000003)]) (rest := []) C (c_X4_finds E σ (-1000003) 2 (by decide) (by decide)) z_X4_finds ck4 (by rfl) (by rfl) ml_X4_39 (by rfl) (Nat.le_of_ble_eq_true rfl) ⟨Nat.le_of_ble_eq_true rfl, Nat.le_of_ble_eq_true rfl⟩ dX4_as_83 (fun r22 σ22 w22 => ?_)
                    obtain ⟨u1, u2⟩ := w22; rw [u1, u2]; clear u1 u2
                    exact gx_iret C hr hlk rfl (fim_fd hR (by decide) (by have q1 : okd 1 y = false := (by show ([1, 0] : List Int32).contains y = false; simp; grind); simp only [opAs, ck, cj, cd, bey, mis, knd]; rw [if_pos (by grind), if_neg (by grind), if_neg (by rw [q1]; decide)])) dX4_as_86
                  ·
                    exact absurd h21 (by decide)
                ·
                  refine gx_iload_n C dX4_as_67 (by rfl) (by rfl) ?_
                  exact gx_iret C hr hlk rfl (fim_rd hR (by have q1 : okd 1 y = true := (by show ([1, 0] : List Int32).contains y = true; simp; grind); simp only [opAs, ck, cj, cd, bey, mis, knd]; rw [if_pos (by grind), if_neg (by grind), if_pos q1, ej])) dX4_as_68
            ·
              refine gx_iload_n C dX4_as_67 (by rfl) (by rfl) ?_
              exact gx_iret C hr hlk rfl (fim_rd hR (by have q1 : okd 1 y = true := (by show ([1, 0] : List Int32).contains y = true; simp; grind); simp only [opAs, ck, cj, cd, bey, mis, knd]; rw [if_pos (by grind), if_neg (by grind), if_pos q1, ej])) dX4_as_68
        ·
          refine gx_st (st' := [.int 2]) (by rw [ed]; rfl) ?_
          refine gx_istore (lv2 := [(4, .int 2), (3, .int (nI j)), (0, .ref (eA E 49)), (1, .int (nI k)), (2, .int y)]) C dX4_as_54 (by decide) rfl ?_
          refine gx_iload C dX4_as_56 (by rfl) ?_
          refine gx_if_lt (tgt := 79) C dX4_as_58 (by decide) (fun h23 => ?_) (fun h23 => ?_)
          ·
            exact absurd h23 (by decide)
          ·
            clear h23
            refine gx_iload C dX4_as_61 (by rfl) ?_
            refine gx_iload_n C dX4_as_63 (by rfl) (by rfl) ?_
            refine gx_icmp_ne (tgt := 69) C dX4_as_64 (by decide) (fun h24 => ?_) (fun h24 => ?_)
            ·
              refine gx_iload C dX4_as_69 (by rfl) ?_
              refine gx_callSI (As := [.int 2]) (rest := []) C (c_X4_above_2 E σ) z_X4_above (by rfl) ml_X4_302 (by rfl) (Nat.le_of_ble_eq_true rfl) ⟨Nat.le_of_ble_eq_true rfl, Nat.le_of_ble_eq_true rfl⟩ dX4_as_71 (fun r26 σ26 w26 => ?_)
              obtain ⟨u1, u2⟩ := w26; rw [u1, u2]; clear u1 u2
              refine gx_istore (lv2 := [(4, .int 0), (3, .int (nI j)), (0, .ref (eA E 49)), (1, .int (nI k)), (2, .int y)]) C dX4_as_74 (by decide) rfl ?_
              refine gx_goto (tgt := 56) C dX4_as_76 (by decide) ?_
              refine gx_iload C dX4_as_56 (by rfl) ?_
              refine gx_if_lt (tgt := 79) C dX4_as_58 (by decide) (fun h27 => ?_) (fun h27 => ?_)
              ·
                exact absurd h27 (by decide)
              ·
                clear h27
                refine gx_iload C dX4_as_61 (by rfl) ?_
                refine gx_iload_n C dX4_as_63 (by rfl) (by rfl) ?_
                refine gx_icmp_ne (tgt := 69) C dX4_as_64 (by decide) (fun h28 => ?_) (fun h28 => ?_)
                ·
                  refine gx_iload C dX4_as_69 (by rfl) ?_
                  refine gx_callSI (As := [.int 0]) (rest := []) C (c_X4_above_0 E σ) z_X4_above (by rfl) ml_X4_302 (by rfl) (Nat.le_of_ble_eq_true rfl) ⟨Nat.le_of_ble_eq_true rfl, Nat.le_of_ble_eq_true rfl⟩ dX4_as_71 (fun r29 σ29 w29 => ?_)
                  obtain ⟨u1, u2⟩ := w29; rw [u1, u2]; clear u1 u2
                  refine gx_istore (lv2 := [(4, .int (-1)), (3, .int (nI j)), (0, .ref (eA E 49)), (1, .int (nI k)), (2, .int y)]) C dX4_as_74 (by decide) rfl ?_
                  refine gx_goto (tgt := 56) C dX4_as_76 (by decide) ?_
                  refine gx_iload C dX4_as_56 (by rfl) ?_
                  refine gx_if_lt (tgt := 79) C dX4_as_58 (by decide) (fun h30 => ?_) (fun h30 => ?_)
                  ·
                    clear h30
                    refine gx_aload_n C dX4_as_79 (by rfl) (by rfl) ?_
                    refine gx_ldcw C kc_X4_305 dX4_as_80 ?_
                    refine gx_callVI (As := [.int (-1000003)]) (rest := []) C (c_X4_finds E σ (-1000003) 2 (by decide) (by decide)) z_X4_finds ck4 (by rfl) (by rfl) ml_X4_39 (by rfl) (Nat.le_of_ble_eq_true rfl) ⟨Nat.le_of_ble_eq_true rfl, Nat.le_of_ble_eq_true rfl⟩ dX4_as_83 (fun r31 σ31 w31 => ?_)
                    obtain ⟨u1, u2⟩ := w31; rw [u1, u2]; clear u1 u2
                    exact gx_iret C hr hlk rfl (fim_fd hR (by decide) (by have q1 : okd 2 y = false := (by show ([2, 0] : List Int32).contains y = false; simp; grind); simp only [opAs, ck, cj, cd, bey, mis, knd]; rw [if_pos (by grind), if_neg (by grind), if_neg (by rw [q1]; decide)])) dX4_as_86
                  ·
                    exact absurd h30 (by decide)
                ·
                  refine gx_iload_n C dX4_as_67 (by rfl) (by rfl) ?_
                  exact gx_iret C hr hlk rfl (fim_rd hR (by have q1 : okd 2 y = true := (by show ([2, 0] : List Int32).contains y = true; simp; grind); simp only [opAs, ck, cj, cd, bey, mis, knd]; rw [if_pos (by grind), if_neg (by grind), if_pos q1, ej])) dX4_as_68
            ·
              refine gx_iload_n C dX4_as_67 (by rfl) (by rfl) ?_
              exact gx_iret C hr hlk rfl (fim_rd hR (by have q1 : okd 2 y = true := (by show ([2, 0] : List Int32).contains y = true; simp; grind); simp only [opAs, ck, cj, cd, bey, mis, knd]; rw [if_pos (by grind), if_neg (by grind), if_pos q1, ej])) dX4_as_68
        ·
          refine gx_st (st' := [.int 3]) (by rw [ed]; rfl) ?_
          refine gx_istore (lv2 := [(4, .int 3), (3, .int (nI j)), (0, .ref (eA E 49)), (1, .int (nI k)), (2, .int y)]) C dX4_as_54 (by decide) rfl ?_
          refine gx_iload C dX4_as_56 (by rfl) ?_
          refine gx_if_lt (tgt := 79) C dX4_as_58 (by decide) (fun h32 => ?_) (fun h32 => ?_)
          ·
            exact absurd h32 (by decide)
          ·
            clear h32
            refine gx_iload C dX4_as_61 (by rfl) ?_
            refine gx_iload_n C dX4_as_63 (by rfl) (by rfl) ?_
            refine gx_icmp_ne (tgt := 69) C dX4_as_64 (by decide) (fun h33 => ?_) (fun h33 => ?_)
            ·
              refine gx_iload C dX4_as_69 (by rfl) ?_
              refine gx_callSI (As := [.int 3]) (rest := []) C (c_X4_above_3 E σ) z_X4_above (by rfl) ml_X4_302 (by rfl) (Nat.le_of_ble_eq_true rfl) ⟨Nat.le_of_ble_eq_true rfl, Nat.le_of_ble_eq_true rfl⟩ dX4_as_71 (fun r34 σ34 w34 => ?_)
              obtain ⟨u1, u2⟩ := w34; rw [u1, u2]; clear u1 u2
              refine gx_istore (lv2 := [(4, .int 2), (3, .int (nI j)), (0, .ref (eA E 49)), (1, .int (nI k)), (2, .int y)]) C dX4_as_74 (by decide) rfl ?_
              refine gx_goto (tgt := 56) C dX4_as_76 (by decide) ?_
              refine gx_iload C dX4_as_56 (by rfl) ?_
              refine gx_if_lt (tgt := 79) C dX4_as_58 (by decide) (fun h35 => ?_) (fun h35 => ?_)
              ·
                exact absurd h35 (by decide)
              ·
                clear h35
                refine gx_iload C dX4_as_61 (by rfl) ?_
                refine gx_iload_n C dX4_as_63 (by rfl) (by rfl) ?_
                refine gx_icmp_ne (tgt := 69) C dX4_as_64 (by decide) (fun h36 => ?_) (fun h36 => ?_)
                ·
                  refine gx_iload C dX4_as_69 (by rfl) ?_
                  refine gx_callSI (As := [.int 2]) (rest := []) C (c_X4_above_2 E σ) z_X4_above (by rfl) ml_X4_302 (by rfl) (Nat.le_of_ble_eq_true rfl) ⟨Nat.le_of_ble_eq_true rfl, Nat.le_of_ble_eq_true rfl⟩ dX4_as_71 (fun r38 σ38 w38 => ?_)
                  obtain ⟨u1, u2⟩ := w38; rw [u1, u2]; clear u1 u2
                  refine gx_istore (lv2 := [(4, .int 0), (3, .int (nI j)), (0, .ref (eA E 49)), (1, .int (nI k)), (2, .int y)]) C dX4_as_74 (by decide) rfl ?_
                  refine gx_goto (tgt := 56) C dX4_as_76 (by decide) ?_
                  refine gx_iload C dX4_as_56 (by rfl) ?_
                  refine gx_if_lt (tgt := 79) C dX4_as_58 (by decide) (fun h39 => ?_) (fun h39 => ?_)
                  ·
                    exact absurd h39 (by decide)
                  ·
                    clear h39
                    refine gx_iload C dX4_as_61 (by rfl) ?_
                    refine gx_iload_n C dX4_as_63 (by rfl) (by rfl) ?_
                    refine gx_icmp_ne (tgt := 69) C dX4_as_64 (by decide) (fun h40 => ?_) (fun h40 => ?_)
                    ·
                      refine gx_iload C dX4_as_69 (by rfl) ?_
                      refine gx_callSI (As := [.int 0]) (rest := []) C (c_X4_above_0 E σ) z_X4_above (by rfl) ml_X4_302 (by rfl) (Nat.le_of_ble_eq_true rfl) ⟨Nat.le_of_ble_eq_true rfl, Nat.le_of_ble_eq_true rfl⟩ dX4_as_71 (fun r41 σ41 w41 => ?_)
                      obtain ⟨u1, u2⟩ := w41; rw [u1, u2]; clear u1 u2
                      refine gx_istore (lv2 := [(4, .int (-1)), (3, .int (nI j)), (0, .ref (eA E 49)), (1, .int (nI k)), (2, .int y)]) C dX4_as_74 (by decide) rfl ?_
                      refine gx_goto (tgt := 56) C dX4_as_76 (by decide) ?_
                      refine gx_iload C dX4_as_56 (by rfl) ?_
                      refine gx_if_lt (tgt := 79) C dX4_as_58 (by decide) (fun h42 => ?_) (fun h42 => ?_)
                      ·
                        clear h42
                        refine gx_aload_n C dX4_as_79 (by rfl) (by rfl) ?_
                        refine gx_ldcw C kc_X4_305 dX4_as_80 ?_
                        refine gx_callVI (As := [.int (-1000003)]) (rest := []) C (c_X4_finds E σ (-1000003) 2 (by decide) (by decide)) z_X4_finds ck4 (by rfl) (by rfl) ml_X4_39 (by rfl) (Nat.le_of_ble_eq_true rfl) ⟨Nat.le_of_ble_eq_true rfl, Nat.le_of_ble_eq_true rfl⟩ dX4_as_83 (fun r43 σ43 w43 => ?_)
                        obtain ⟨u1, u2⟩ := w43; rw [u1, u2]; clear u1 u2
                        exact gx_iret C hr hlk rfl (fim_fd hR (by decide) (by have q1 : okd 3 y = false := (by show ([3, 2, 0] : List Int32).contains y = false; simp; grind); simp only [opAs, ck, cj, cd, bey, mis, knd]; rw [if_pos (by grind), if_neg (by grind), if_neg (by rw [q1]; decide)])) dX4_as_86
                      ·
                        exact absurd h42 (by decide)
                    ·
                      refine gx_iload_n C dX4_as_67 (by rfl) (by rfl) ?_
                      exact gx_iret C hr hlk rfl (fim_rd hR (by have q1 : okd 3 y = true := (by show ([3, 2, 0] : List Int32).contains y = true; simp; grind); simp only [opAs, ck, cj, cd, bey, mis, knd]; rw [if_pos (by grind), if_neg (by grind), if_pos q1, ej])) dX4_as_68
                ·
                  refine gx_iload_n C dX4_as_67 (by rfl) (by rfl) ?_
                  exact gx_iret C hr hlk rfl (fim_rd hR (by have q1 : okd 3 y = true := (by show ([3, 2, 0] : List Int32).contains y = true; simp; grind); simp only [opAs, ck, cj, cd, bey, mis, knd]; rw [if_pos (by grind), if_neg (by grind), if_pos q1, ej])) dX4_as_68
            ·
              refine gx_iload_n C dX4_as_67 (by rfl) (by rfl) ?_
              exact gx_iret C hr hlk rfl (fim_rd hR (by have q1 : okd 3 y = true := (by show ([3, 2, 0] : List Int32).contains y = true; simp; grind); simp only [opAs, ck, cj, cd, bey, mis, knd]; rw [if_pos (by grind), if_neg (by grind), if_pos q1, ej])) dX4_as_68
        ·
          refine gx_st (st' := [.int 4]) (by rw [ed]; rfl) ?_
          refine gx_istore (lv2 := [(4, .int 4), (3, .int (nI j)), (0, .ref (eA E 49)), (1, .int (nI k)), (2, .int y)]) C dX4_as_54 (by decide) rfl ?_
          refine gx_iload C dX4_as_56 (by rfl) ?_
          refine gx_if_lt (tgt := 79) C dX4_as_58 (by decide) (fun h44 => ?_) (fun h44 => ?_)
          ·
            exact absurd h44 (by decide)
          ·
            clear h44
            refine gx_iload C dX4_as_61 (by rfl) ?_
            refine gx_iload_n C dX4_as_63 (by rfl) (by rfl) ?_
            refine gx_icmp_ne (tgt := 69) C dX4_as_64 (by decide) (fun h45 => ?_) (fun h45 => ?_)
            ·
              refine gx_iload C dX4_as_69 (by rfl) ?_
              refine gx_callSI (As := [.int 4]) (rest := []) C (c_X4_above_4 E σ) z_X4_above (by rfl) ml_X4_302 (by rfl) (Nat.le_of_ble_eq_true rfl) ⟨Nat.le_of_ble_eq_true rfl, Nat.le_of_ble_eq_true rfl⟩ dX4_as_71 (fun r46 σ46 w46 => ?_)
              obtain ⟨u1, u2⟩ := w46; rw [u1, u2]; clear u1 u2
              refine gx_istore (lv2 := [(4, .int 1), (3, .int (nI j)), (0, .ref (eA E 49)), (1, .int (nI k)), (2, .int y)]) C dX4_as_74 (by decide) rfl ?_
              refine gx_goto (tgt := 56) C dX4_as_76 (by decide) ?_
              refine gx_iload C dX4_as_56 (by rfl) ?_
              refine gx_if_lt (tgt := 79) C dX4_as_58 (by decide) (fun h47 => ?_) (fun h47 => ?_)
              ·
                exact absurd h47 (by decide)
              ·
                clear h47
                refine gx_iload C dX4_as_61 (by rfl) ?_
                refine gx_iload_n C dX4_as_63 (by rfl) (by rfl) ?_
                refine gx_icmp_ne (tgt := 69) C dX4_as_64 (by decide) (fun h48 => ?_) (fun h48 => ?_)
                ·
                  refine gx_iload C dX4_as_69 (by rfl) ?_
                  refine gx_callSI (As := [.int 1]) (rest := []) C (c_X4_above_1 E σ) z_X4_above (by rfl) ml_X4_302 (by rfl) (Nat.le_of_ble_eq_true rfl) ⟨Nat.le_of_ble_eq_true rfl, Nat.le_of_ble_eq_true rfl⟩ dX4_as_71 (fun r49 σ49 w49 => ?_)
                  obtain ⟨u1, u2⟩ := w49; rw [u1, u2]; clear u1 u2
                  refine gx_istore (lv2 := [(4, .int 0), (3, .int (nI j)), (0, .ref (eA E 49)), (1, .int (nI k)), (2, .int y)]) C dX4_as_74 (by decide) rfl ?_
                  refine gx_goto (tgt := 56) C dX4_as_76 (by decide) ?_
                  refine gx_iload C dX4_as_56 (by rfl) ?_
                  refine gx_if_lt (tgt := 79) C dX4_as_58 (by decide) (fun h50 => ?_) (fun h50 => ?_)
                  ·
                    exact absurd h50 (by decide)
                  ·
                    clear h50
                    refine gx_iload C dX4_as_61 (by rfl) ?_
                    refine gx_iload_n C dX4_as_63 (by rfl) (by rfl) ?_
                    refine gx_icmp_ne (tgt := 69) C dX4_as_64 (by decide) (fun h51 => ?_) (fun h51 => ?_)
                    ·
                      refine gx_iload C dX4_as_69 (by rfl) ?_
                      refine gx_callSI (As := [.int 0]) (rest := []) C (c_X4_above_0 E σ) z_X4_above (by rfl) ml_X4_302 (by rfl) (Nat.le_of_ble_eq_true rfl) ⟨Nat.le_of_ble_eq_true rfl, Nat.le_of_ble_eq_true rfl⟩ dX4_as_71 (fun r52 σ52 w52 => ?_)
                      obtain ⟨u1, u2⟩ := w52; rw [u1, u2]; clear u1 u2
                      refine gx_istore (lv2 := [(4, .int (-1)), (3, .int (nI j)), (0, .ref (eA E 49)), (1, .int (nI k)), (2, .int y)]) C dX4_as_74 (by decide) rfl ?_
                      refine gx_goto (tgt := 56) C dX4_as_76 (by decide) ?_
                      refine gx_iload C dX4_as_56 (by rfl) ?_
                      refine gx_if_lt (tgt := 79) C dX4_as_58 (by decide) (fun h53 => ?_) (fun h53 => ?_)
                      ·
                        clear h53
                        refine gx_aload_n C dX4_as_79 (by rfl) (by rfl) ?_
                        refine gx_ldcw C kc_X4_305 dX4_as_80 ?_
                        refine gx_callVI (As := [.int (-1000003)]) (rest := []) C (c_X4_finds E σ (-1000003) 2 (by decide) (by decide)) z_X4_finds ck4 (by rfl) (by rfl) ml_X4_39 (by rfl) (Nat.le_of_ble_eq_true rfl) ⟨Nat.le_of_ble_eq_true rfl, Nat.le_of_ble_eq_true rfl⟩ dX4_as_83 (fun r54 σ54 w54 => ?_)
                        obtain ⟨u1, u2⟩ := w54; rw [u1, u2]; clear u1 u2
                        exact gx_iret C hr hlk rfl (fim_fd hR (by decide) (by have q1 : okd 4 y = false := (by show ([4, 1, 0] : List Int32).contains y = false; simp; grind); simp only [opAs, ck, cj, cd, bey, mis, knd]; rw [if_pos (by grind), if_neg (by grind), if_neg (by rw [q1]; decide)])) dX4_as_86
                      ·
                        exact absurd h53 (by decide)
                    ·
                      refine gx_iload_n C dX4_as_67 (by rfl) (by rfl) ?_
                      exact gx_iret C hr hlk rfl (fim_rd hR (by have q1 : okd 4 y = true := (by show ([4, 1, 0] : List Int32).contains y = true; simp; grind); simp only [opAs, ck, cj, cd, bey, mis, knd]; rw [if_pos (by grind), if_neg (by grind), if_pos q1, ej])) dX4_as_68
                ·
                  refine gx_iload_n C dX4_as_67 (by rfl) (by rfl) ?_
                  exact gx_iret C hr hlk rfl (fim_rd hR (by have q1 : okd 4 y = true := (by show ([4, 1, 0] : List Int32).contains y = true; simp; grind); simp only [opAs, ck, cj, cd, bey, mis, knd]; rw [if_pos (by grind), if_neg (by grind), if_pos q1, ej])) dX4_as_68
            ·
              refine gx_iload_n C dX4_as_67 (by rfl) (by rfl) ?_
              exact gx_iret C hr hlk rfl (fim_rd hR (by have q1 : okd 4 y = true := (by show ([4, 1, 0] : List Int32).contains y = true; simp; grind); simp only [opAs, ck, cj, cd, bey, mis, knd]; rw [if_pos (by grind), if_neg (by grind), if_pos q1, ej])) dX4_as_68
        ·
          refine gx_st (st' := [.int 5]) (by rw [ed]; rfl) ?_
          refine gx_istore (lv2 := [(4, .int 5), (3, .int (nI j)), (0, .ref (eA E 49)), (1, .int (nI k)), (2, .int y)]) C dX4_as_54 (by decide) rfl ?_
          refine gx_iload C dX4_as_56 (by rfl) ?_
          refine gx_if_lt (tgt := 79) C dX4_as_58 (by decide) (fun h55 => ?_) (fun h55 => ?_)
          ·
            exact absurd h55 (by decide)
          ·
            clear h55
            refine gx_iload C dX4_as_61 (by rfl) ?_
            refine gx_iload_n C dX4_as_63 (by rfl) (by rfl) ?_
            refine gx_icmp_ne (tgt := 69) C dX4_as_64 (by decide) (fun h56 => ?_) (fun h56 => ?_)
            ·
              refine gx_iload C dX4_as_69 (by rfl) ?_
              refine gx_callSI (As := [.int 5]) (rest := []) C (c_X4_above_5 E σ) z_X4_above (by rfl) ml_X4_302 (by rfl) (Nat.le_of_ble_eq_true rfl) ⟨Nat.le_of_ble_eq_true rfl, Nat.le_of_ble_eq_true rfl⟩ dX4_as_71 (fun r57 σ57 w57 => ?_)
              obtain ⟨u1, u2⟩ := w57; rw [u1, u2]; clear u1 u2
              refine gx_istore (lv2 := [(4, .int 0), (3, .int (nI j)), (0, .ref (eA E 49)), (1, .int (nI k)), (2, .int y)]) C dX4_as_74 (by decide) rfl ?_
              refine gx_goto (tgt := 56) C dX4_as_76 (by decide) ?_
              refine gx_iload C dX4_as_56 (by rfl) ?_
              refine gx_if_lt (tgt := 79) C dX4_as_58 (by decide) (fun h58 => ?_) (fun h58 => ?_)
              ·
                exact absurd h58 (by decide)
              ·
                clear h58
                refine gx_iload C dX4_as_61 (by rfl) ?_
                refine gx_iload_n C dX4_as_63 (by rfl) (by rfl) ?_
                refine gx_icmp_ne (tgt := 69) C dX4_as_64 (by decide) (fun h59 => ?_) (fun h59 => ?_)
                ·
                  refine gx_iload C dX4_as_69 (by rfl) ?_
                  refine gx_callSI (As := [.int 0]) (rest := []) C (c_X4_above_0 E σ) z_X4_above (by rfl) ml_X4_302 (by rfl) (Nat.le_of_ble_eq_true rfl) ⟨Nat.le_of_ble_eq_true rfl, Nat.le_of_ble_eq_true rfl⟩ dX4_as_71 (fun r60 σ60 w60 => ?_)
                  obtain ⟨u1, u2⟩ := w60; rw [u1, u2]; clear u1 u2
                  refine gx_istore (lv2 := [(4, .int (-1)), (3, .int (nI j)), (0, .ref (eA E 49)), (1, .int (nI k)), (2, .int y)]) C dX4_as_74 (by decide) rfl ?_
                  refine gx_goto (tgt := 56) C dX4_as_76 (by decide) ?_
                  refine gx_iload C dX4_as_56 (by rfl) ?_
                  refine gx_if_lt (tgt := 79) C dX4_as_58 (by decide) (fun h61 => ?_) (fun h61 => ?_)
                  ·
                    clear h61
                    refine gx_aload_n C dX4_as_79 (by rfl) (by rfl) ?_
                    refine gx_ldcw C kc_X4_305 dX4_as_80 ?_
                    refine gx_callVI (As := [.int (-1000003)]) (rest := []) C (c_X4_finds E σ (-1000003) 2 (by decide) (by decide)) z_X4_finds ck4 (by rfl) (by rfl) ml_X4_39 (by rfl) (Nat.le_of_ble_eq_true rfl) ⟨Nat.le_of_ble_eq_true rfl, Nat.le_of_ble_eq_true rfl⟩ dX4_as_83 (fun r62 σ62 w62 => ?_)
                    obtain ⟨u1, u2⟩ := w62; rw [u1, u2]; clear u1 u2
                    exact gx_iret C hr hlk rfl (fim_fd hR (by decide) (by have q1 : okd 5 y = false := (by show ([5, 0] : List Int32).contains y = false; simp; grind); simp only [opAs, ck, cj, cd, bey, mis, knd]; rw [if_pos (by grind), if_neg (by grind), if_neg (by rw [q1]; decide)])) dX4_as_86
                  ·
                    exact absurd h61 (by decide)
                ·
                  refine gx_iload_n C dX4_as_67 (by rfl) (by rfl) ?_
                  exact gx_iret C hr hlk rfl (fim_rd hR (by have q1 : okd 5 y = true := (by show ([5, 0] : List Int32).contains y = true; simp; grind); simp only [opAs, ck, cj, cd, bey, mis, knd]; rw [if_pos (by grind), if_neg (by grind), if_pos q1, ej])) dX4_as_68
            ·
              refine gx_iload_n C dX4_as_67 (by rfl) (by rfl) ?_
              exact gx_iret C hr hlk rfl (fim_rd hR (by have q1 : okd 5 y = true := (by show ([5, 0] : List Int32).contains y = true; simp; grind); simp only [opAs, ck, cj, cd, bey, mis, knd]; rw [if_pos (by grind), if_neg (by grind), if_pos q1, ej])) dX4_as_68
        ·
          refine gx_st (st' := [.int 6]) (by rw [ed]; rfl) ?_
          refine gx_istore (lv2 := [(4, .int 6), (3, .int (nI j)), (0, .ref (eA E 49)), (1, .int (nI k)), (2, .int y)]) C dX4_as_54 (by decide) rfl ?_
          refine gx_iload C dX4_as_56 (by rfl) ?_
          refine gx_if_lt (tgt := 79) C dX4_as_58 (by decide) (fun h63 => ?_) (fun h63 => ?_)
          ·
            exact absurd h63 (by decide)
          ·
            clear h63
            refine gx_iload C dX4_as_61 (by rfl) ?_
            refine gx_iload_n C dX4_as_63 (by rfl) (by rfl) ?_
            refine gx_icmp_ne (tgt := 69) C dX4_as_64 (by decide) (fun h64 => ?_) (fun h64 => ?_)
            ·
              refine gx_iload C dX4_as_69 (by rfl) ?_
              refine gx_callSI (As := [.int 6]) (rest := []) C (c_X4_above_6 E σ) z_X4_above (by rfl) ml_X4_302 (by rfl) (Nat.le_of_ble_eq_true rfl) ⟨Nat.le_of_ble_eq_true rfl, Nat.le_of_ble_eq_true rfl⟩ dX4_as_71 (fun r65 σ65 w65 => ?_)
              obtain ⟨u1, u2⟩ := w65; rw [u1, u2]; clear u1 u2
              refine gx_istore (lv2 := [(4, .int 1), (3, .int (nI j)), (0, .ref (eA E 49)), (1, .int (nI k)), (2, .int y)]) C dX4_as_74 (by decide) rfl ?_
              refine gx_goto (tgt := 56) C dX4_as_76 (by decide) ?_
              refine gx_iload C dX4_as_56 (by rfl) ?_
              refine gx_if_lt (tgt := 79) C dX4_as_58 (by decide) (fun h66 => ?_) (fun h66 => ?_)
              ·
                exact absurd h66 (by decide)
              ·
                clear h66
                refine gx_iload C dX4_as_61 (by rfl) ?_
                refine gx_iload_n C dX4_as_63 (by rfl) (by rfl) ?_
                refine gx_icmp_ne (tgt := 69) C dX4_as_64 (by decide) (fun h67 => ?_) (fun h67 => ?_)
                ·
                  refine gx_iload C dX4_as_69 (by rfl) ?_
                  refine gx_callSI (As := [.int 1]) (rest := []) C (c_X4_above_1 E σ) z_X4_above (by rfl) ml_X4_302 (by rfl) (Nat.le_of_ble_eq_true rfl) ⟨Nat.le_of_ble_eq_true rfl, Nat.le_of_ble_eq_true rfl⟩ dX4_as_71 (fun r68 σ68 w68 => ?_)
                  obtain ⟨u1, u2⟩ := w68; rw [u1, u2]; clear u1 u2
                  refine gx_istore (lv2 := [(4, .int 0), (3, .int (nI j)), (0, .ref (eA E 49)), (1, .int (nI k)), (2, .int y)]) C dX4_as_74 (by decide) rfl ?_
                  refine gx_goto (tgt := 56) C dX4_as_76 (by decide) ?_
                  refine gx_iload C dX4_as_56 (by rfl) ?_
                  refine gx_if_lt (tgt := 79) C dX4_as_58 (by decide) (fun h69 => ?_) (fun h69 => ?_)
                  ·
                    exact absurd h69 (by decide)
                  ·
                    clear h69
                    refine gx_iload C dX4_as_61 (by rfl) ?_
                    refine gx_iload_n C dX4_as_63 (by rfl) (by rfl) ?_
                    refine gx_icmp_ne (tgt := 69) C dX4_as_64 (by decide) (fun h70 => ?_) (fun h70 => ?_)
                    ·
                      refine gx_iload C dX4_as_69 (by rfl) ?_
                      refine gx_callSI (As := [.int 0]) (rest := []) C (c_X4_above_0 E σ) z_X4_above (by rfl) ml_X4_302 (by rfl) (Nat.le_of_ble_eq_true rfl) ⟨Nat.le_of_ble_eq_true rfl, Nat.le_of_ble_eq_true rfl⟩ dX4_as_71 (fun r71 σ71 w71 => ?_)
                      obtain ⟨u1, u2⟩ := w71; rw [u1, u2]; clear u1 u2
                      refine gx_istore (lv2 := [(4, .int (-1)), (3, .int (nI j)), (0, .ref (eA E 49)), (1, .int (nI k)), (2, .int y)]) C dX4_as_74 (by decide) rfl ?_
                      refine gx_goto (tgt := 56) C dX4_as_76 (by decide) ?_
                      refine gx_iload C dX4_as_56 (by rfl) ?_
                      refine gx_if_lt (tgt := 79) C dX4_as_58 (by decide) (fun h72 => ?_) (fun h72 => ?_)
                      ·
                        clear h72
                        refine gx_aload_n C dX4_as_79 (by rfl) (by rfl) ?_
                        refine gx_ldcw C kc_X4_305 dX4_as_80 ?_
                        refine gx_callVI (As := [.int (-1000003)]) (rest := []) C (c_X4_finds E σ (-1000003) 2 (by decide) (by decide)) z_X4_finds ck4 (by rfl) (by rfl) ml_X4_39 (by rfl) (Nat.le_of_ble_eq_true rfl) ⟨Nat.le_of_ble_eq_true rfl, Nat.le_of_ble_eq_true rfl⟩ dX4_as_83 (fun r73 σ73 w73 => ?_)
                        obtain ⟨u1, u2⟩ := w73; rw [u1, u2]; clear u1 u2
                        exact gx_iret C hr hlk rfl (fim_fd hR (by decide) (by have q1 : okd 6 y = false := (by show ([6, 1, 0] : List Int32).contains y = false; simp; grind); simp only [opAs, ck, cj, cd, bey, mis, knd]; rw [if_pos (by grind), if_neg (by grind), if_neg (by rw [q1]; decide)])) dX4_as_86
                      ·
                        exact absurd h72 (by decide)
                    ·
                      refine gx_iload_n C dX4_as_67 (by rfl) (by rfl) ?_
                      exact gx_iret C hr hlk rfl (fim_rd hR (by have q1 : okd 6 y = true := (by show ([6, 1, 0] : List Int32).contains y = true; simp; grind); simp only [opAs, ck, cj, cd, bey, mis, knd]; rw [if_pos (by grind), if_neg (by grind), if_pos q1, ej])) dX4_as_68
                ·
                  refine gx_iload_n C dX4_as_67 (by rfl) (by rfl) ?_
                  exact gx_iret C hr hlk rfl (fim_rd hR (by have q1 : okd 6 y = true := (by show ([6, 1, 0] : List Int32).contains y = true; simp; grind); simp only [opAs, ck, cj, cd, bey, mis, knd]; rw [if_pos (by grind), if_neg (by grind), if_pos q1, ej])) dX4_as_68
            ·
              refine gx_iload_n C dX4_as_67 (by rfl) (by rfl) ?_
              exact gx_iret C hr hlk rfl (fim_rd hR (by have q1 : okd 6 y = true := (by show ([6, 1, 0] : List Int32).contains y = true; simp; grind); simp only [opAs, ck, cj, cd, bey, mis, knd]; rw [if_pos (by grind), if_neg (by grind), if_pos q1, ej])) dX4_as_68
      ·
        refine gx_aload_n C dX4_as_40 (by rfl) (by rfl) ?_
        refine gx_ldcw C kc_X4_301 dX4_as_41 ?_
        refine gx_callVI (As := [.int (-1000006)]) (rest := []) C (c_X4_finds E σ (-1000006) 5 (by decide) (by decide)) z_X4_finds ck4 (by rfl) (by rfl) ml_X4_39 (by rfl) (Nat.le_of_ble_eq_true rfl) ⟨Nat.le_of_ble_eq_true rfl, Nat.le_of_ble_eq_true rfl⟩ dX4_as_44 (fun r74 σ74 w74 => ?_)
        obtain ⟨u1, u2⟩ := w74; rw [u1, u2]; clear u1 u2
        exact gx_iret C hr hlk rfl (fim_fd hR (by decide) (by first | (simp only [opAs, ck, bey, mis, knd] <;> grind) | (simp only [opAs, bey, mis, knd] <;> grind))) dX4_as_47
    ·
      have h5 := b2_z.mp h5
      refine gx_aload_n C dX4_as_19 (by rfl) (by rfl) ?_
      refine gx_ldc C kc_X4_37 dX4_as_20 ?_
      refine gx_callVI (As := [.int (-1000001)]) (rest := []) C (c_X4_finds E σ (-1000001) 0 (by decide) (by decide)) z_X4_finds ck4 (by rfl) (by rfl) ml_X4_39 (by rfl) (Nat.le_of_ble_eq_true rfl) ⟨Nat.le_of_ble_eq_true rfl, Nat.le_of_ble_eq_true rfl⟩ dX4_as_22 (fun r75 σ75 w75 => ?_)
      obtain ⟨u1, u2⟩ := w75; rw [u1, u2]; clear u1 u2
      exact gx_iret C hr hlk rfl (fim_fd hR (by decide) (by first | (simp only [opAs, ck, bey, mis, knd] <;> grind) | (simp only [opAs, bey, mis, knd] <;> grind))) dX4_as_25
theorem MR.image {σ σ1 K L : Mm} {g : Int32} {F : Nat → Int32} {tl : Int32} {Bt W Z : Nat → Int32} {N : Mm} (h : MR σ (K, L, g, F, tl, Bt, W, Z, N)) (hK : vM σ1 51 = K) (hf : F1 51 σ σ1) : MR (up2 σ1 49 4 1) (K, K, 1, F, tl, Bt, W, Z, N) := by
  obtain ⟨⟨a1, a2⟩, ⟨b1, b2, b3⟩, c, ⟨⟨d1, d2⟩, d3⟩, s⟩ := h
  refine ⟨⟨by rw [vM_o (up2_o (by omega)), vM_o (hf 50 (by omega))]; exact a1, a2⟩, ⟨by rw [up2_s]; simp [upd], Or.inr rfl, fun q => ⟨by rw [vM_o (up2_o (by omega))]; exact hK, a2⟩⟩, fun q hq => by rw [up2_o (by omega), hf 54 (by omega)]; exact c q hq, ⟨⟨by rw [up2_s, pk_un (by omega), hf 49 (by omega)]; exact d1, d2⟩, fun i hi => by rw [up2_o (by omega), hf 55 (by omega)]; exact d3 i hi⟩, fun q hq => by rw [up2_o (by omega), up2_o (by omega), up2_o (by omega), hf 56 (by omega), hf 57 (by omega), hf 58 (by omega)]; exact s q hq⟩
theorem MR.tear {σ K L : Mm} {g : Int32} {F : Nat → Int32} {tl : Int32} {Bt W Z : Nat → Int32} {N : Mm} (h : MR σ (K, L, g, F, tl, Bt, W, Z, N)) : MR (up2 σ 49 4 0) (K, L, 0, F, tl, Bt, W, Z, N) := by
  obtain ⟨⟨a1, a2⟩, ⟨b1, b2, b3⟩, c, ⟨⟨d1, d2⟩, d3⟩, s⟩ := h
  refine ⟨⟨by rw [vM_o (up2_o (by omega))]; exact a1, a2⟩, ⟨by rw [up2_s]; simp [upd], Or.inl rfl, fun q => absurd q (by decide)⟩, fun q hq => by rw [up2_o (by omega)]; exact c q hq, ⟨⟨by rw [up2_s, pk_un (by omega)]; exact d1, d2⟩, fun i hi => by rw [up2_o (by omega)]; exact d3 i hi⟩, fun q hq => by rw [up2_o (by omega), up2_o (by omega), up2_o (by omega)]; exact s q hq⟩
theorem MR.tape {σ σ' K L : Mm} {g : Int32} {F : Nat → Int32} {tl tl' : Int32} {Bt Bt' W Z : Nat → Int32} {N : Mm} (h : MR σ (K, L, g, F, tl, Bt, W, Z, N)) (he : ∀ i, ¬ i = 49 → ¬ i = 55 → σ' i = σ i) (h0 : σ' 49 4 = σ 49 4) (h1 : σ' 49 7 = tl') (h2 : ∃ t, t ≤ 120 ∧ tl' = nI t) (h3 : ∀ i, i < 120 → σ' 55 i = Bt' i) : MR σ' (K, L, g, F, tl', Bt', W, Z, N) := by
  obtain ⟨⟨a1, a2⟩, ⟨b1, b2, b3⟩, c, -, s⟩ := h
  refine ⟨⟨by rw [vM_o (he 50 (by omega) (by omega))]; exact a1, a2⟩, ⟨h0.trans b1, b2, fun q => ⟨by rw [vM_o (he 51 (by omega) (by omega))]; exact (b3 q).1, (b3 q).2⟩⟩, fun q hq => by rw [he 54 (by omega) (by omega)]; exact c q hq, ⟨⟨h1, h2⟩, h3⟩, fun q hq => by rw [he 56 (by omega) (by omega), he 57 (by omega) (by omega), he 58 (by omega) (by omega)]; exact s q hq⟩
set_option maxHeartbeats 4000000 in
set_option maxRecDepth 100000 in
theorem c_X4_image (E : En) (σ : Mm) (K L : Mm) (g : Int32) (F : Nat → Int32) (tl : Int32) (Bt W Z : Nat → Int32) (N : Mm) (hR : MR σ (K, L, g, F, tl, Bt, W, Z, N)) : CtI E yX4_image cX4_image 1 (some .int) 1 22 [.ref (eA E 49)] σ (fun rr σ2 => rr = (opImage (K, L, g, F, tl, Bt, W, Z, N)).1 ∧ MR σ2 (opImage (K, L, g, F, tl, Bt, W, Z, N)).2 ∧ FM σ σ2) := by
  obtain ⟨⟨hM, hO⟩, ⟨hg1, hg2, hg3⟩, hFd, ⟨⟨htl, htl2⟩, hBt⟩, hSh⟩ := id hR
  obtain ⟨⟨hn, h12⟩, hpp, hlw, hsp, hz0⟩ := id hO
  refine CtI.of (by decide +kernel) (Nat.le_of_ble_eq_true rfl) (fun p e0 s m below meth c C hr hlk => ?_)
  refine gx_lv (lv' := [(0, .ref (eA E 49))]) rfl ?_
  refine gx_aload_n C dX4_image_0 (by rfl) (by rfl) ?_
  refine gx_getr (j := 50) (k := 0) C ck4 (by rfl) (by rfl) (by decide) fl_X4_9 dX4_image_1 ?_
  refine gx_aload_n C dX4_image_4 (by rfl) (by rfl) ?_
  refine gx_getr (j := 51) (k := 1) C ck4 (by rfl) (by rfl) (by decide) fl_X4_13 dX4_image_5 ?_
  refine gx_callSV (As := [.ref (eA E 50), .ref (eA E 51)]) (rest := []) C (c_X4_row E σ 50 51 (by rfl) (by rfl) (by decide)) z_X4_row (by rfl) ml_X4_165 (by rfl) (Nat.le_of_ble_eq_true rfl) ⟨Nat.le_of_ble_eq_true rfl, Nat.le_of_ble_eq_true rfl⟩ dX4_image_8 (fun σ1 w1 => ?_)
  obtain ⟨hR1, hF1⟩ := w1
  have hM1 : vM σ1 50 = K := (vM_o (hF1 50 (by decide))).trans hM
  have hW1 : vM σ1 51 = K := hR1.trans hM
  refine gx_aload_n C dX4_image_11 (by rfl) (by rfl) ?_
  refine gx_iconst (v := 1) C dX4_image_12 (by decide) ?_
  refine gx_puti (k := 4) C ck4 (by rfl) (by rfl) (by decide) (by rfl) (by first | rfl | exact nb_b2 _) (by first | rfl | exact fb_b2 _) fl_X4_309 dX4_image_13 ?_
  refine gx_iconst (v := 1) C dX4_image_16 (by decide) ?_
  exact gx_iret C hr hlk rfl ⟨rfl, hR.image hW1 hF1, fun i hi => by rw [up2_o (by omega)]; exact hF1 i (by omega)⟩ dX4_image_17
set_option maxHeartbeats 4000000 in
set_option maxRecDepth 100000 in
theorem c_X4_back (E : En) (σ : Mm) (K L : Mm) (g : Int32) (F : Nat → Int32) (tl : Int32) (Bt W Z : Nat → Int32) (N : Mm) (hR : MR σ (K, L, g, F, tl, Bt, W, Z, N)) : CtI E yX4_back cX4_back 1 (some .int) 1 22 [.ref (eA E 49)] σ (fun rr σ2 => rr = (opBack (K, L, g, F, tl, Bt, W, Z, N)).1 ∧ MR σ2 (opBack (K, L, g, F, tl, Bt, W, Z, N)).2 ∧ FM σ σ2) := by
  obtain ⟨⟨hM, hO⟩, ⟨hg1, hg2, hg3⟩, hFd, ⟨⟨htl, htl2⟩, hBt⟩, hSh⟩ := id hR
  obtain ⟨⟨hn, h12⟩, hpp, hlw, hsp, hz0⟩ := id hO
  refine CtI.of (by decide +kernel) (Nat.le_of_ble_eq_true rfl) (fun p e0 s m below meth c C hr hlk => ?_)
  refine gx_lv (lv' := [(0, .ref (eA E 49))]) rfl ?_
  refine gx_aload_n C dX4_back_0 (by rfl) (by rfl) ?_
  refine gx_geti (k := 4) C ck4 (by rfl) (by rfl) (by decide) fl_X4_309 dX4_back_1 ?_
  refine gx_st (st' := [.int g]) (by rw [hg1]) ?_
  refine gx_if_ne (tgt := 14) C dX4_back_4 (by decide) (fun h1 => ?_) (fun h1 => ?_)
  ·
    have hgg : g = 1 := hg2.resolve_left h1
    obtain ⟨hL, hOL⟩ := hg3 hgg
    refine gx_aload_n C dX4_back_14 (by rfl) (by rfl) ?_
    refine gx_getr (j := 51) (k := 1) C ck4 (by rfl) (by rfl) (by decide) fl_X4_13 dX4_back_15 ?_
    refine gx_aload_n C dX4_back_18 (by rfl) (by rfl) ?_
    refine gx_getr (j := 50) (k := 0) C ck4 (by rfl) (by rfl) (by decide) fl_X4_9 dX4_back_19 ?_
    refine gx_callSV (As := [.ref (eA E 51), .ref (eA E 50)]) (rest := []) C (c_X4_row E σ 51 50 (by rfl) (by rfl) (by decide)) z_X4_row (by rfl) ml_X4_165 (by rfl) (Nat.le_of_ble_eq_true rfl) ⟨Nat.le_of_ble_eq_true rfl, Nat.le_of_ble_eq_true rfl⟩ dX4_back_22 (fun σ2 w2 => ?_)
    obtain ⟨hR2, hF2⟩ := w2
    have hN3 : vM σ2 51 = L := (vM_o (hF2 51 (by decide))).trans hL
    have hM2 : vM σ2 50 = L := hR2.trans hL
    refine gx_aload_n C dX4_back_25 (by rfl) (by rfl) ?_
    refine gx_getr (j := 50) (k := 0) C ck4 (by rfl) (by rfl) (by decide) fl_X4_9 dX4_back_26 ?_
    refine gx_iconst (v := 0) C dX4_back_29 (by decide) ?_
    refine gx_ialdN (k := 0) C (by rfl) (by rfl) (by decide) (by decide) dX4_back_30 ?_
    refine gx_st (st' := [.int (L 0 1)]) (by rw [mp_m hM2]) ?_
    exact gx_iret C hr hlk rfl (fim_now hR hM2 hOL ((F3.rf).f1 hF2 (by decide)) (by simp only [opBack]; rw [if_neg (by assumption)])) dX4_back_31
  ·
    refine gx_aload_n C dX4_back_7 (by rfl) (by rfl) ?_
    refine gx_ldc C kc_X4_38 dX4_back_8 ?_
    refine gx_callVI (As := [.int (-1000004)]) (rest := []) C (c_X4_finds E σ (-1000004) 3 (by decide) (by decide)) z_X4_finds ck4 (by rfl) (by rfl) ml_X4_39 (by rfl) (Nat.le_of_ble_eq_true rfl) ⟨Nat.le_of_ble_eq_true rfl, Nat.le_of_ble_eq_true rfl⟩ dX4_back_10 (fun r4 σ4 w4 => ?_)
    obtain ⟨u1, u2⟩ := w4; rw [u1, u2]; clear u1 u2
    exact gx_iret C hr hlk rfl (fim_fd hR (by decide) (by simp only [opBack, non] <;> grind)) dX4_back_13
set_option maxHeartbeats 4000000 in
set_option maxRecDepth 100000 in
theorem c_X4_tear (E : En) (σ : Mm) (K L : Mm) (g : Int32) (F : Nat → Int32) (tl : Int32) (Bt W Z : Nat → Int32) (N : Mm) (hR : MR σ (K, L, g, F, tl, Bt, W, Z, N)) : CtI E yX4_tear cX4_tear 2 (some .int) 0 0 [.ref (eA E 49)] σ (fun rr σ2 => rr = (opTear (K, L, g, F, tl, Bt, W, Z, N)).1 ∧ MR σ2 (opTear (K, L, g, F, tl, Bt, W, Z, N)).2 ∧ FM σ σ2) := by
  obtain ⟨⟨hM, hO⟩, ⟨hg1, hg2, hg3⟩, hFd, ⟨⟨htl, htl2⟩, hBt⟩, hSh⟩ := id hR
  obtain ⟨⟨hn, h12⟩, hpp, hlw, hsp, hz0⟩ := id hO
  refine CtI.of (by decide +kernel) (Nat.le_of_ble_eq_true rfl) (fun p e0 s m below meth c C hr hlk => ?_)
  refine gx_lv (lv' := [(0, .ref (eA E 49))]) rfl ?_
  refine gx_aload_n C dX4_tear_0 (by rfl) (by rfl) ?_
  refine gx_geti (k := 4) C ck4 (by rfl) (by rfl) (by decide) fl_X4_309 dX4_tear_1 ?_
  refine gx_st (st' := [.int g]) (by rw [hg1]) ?_
  refine gx_if_eq (tgt := 11) C dX4_tear_4 (by decide) (fun h1 => ?_) (fun h1 => ?_)
  ·
    refine gx_iconst (v := 0) C dX4_tear_11 (by decide) ?_
    refine gx_istore_n (lv2 := [(1, .int 0), (0, .ref (eA E 49))]) C dX4_tear_12 (by rfl) (by decide) rfl ?_
    refine gx_aload_n C dX4_tear_13 (by rfl) (by rfl) ?_
    refine gx_iconst (v := 0) C dX4_tear_14 (by decide) ?_
    refine gx_puti (k := 4) C ck4 (by rfl) (by rfl) (by decide) (by rfl) (by first | rfl | exact nb_b2 _) (by first | rfl | exact fb_b2 _) fl_X4_309 dX4_tear_15 ?_
    refine gx_iload_n C dX4_tear_18 (by rfl) (by rfl) ?_
    exact gx_iret C hr hlk rfl ⟨by simp only [opTear]; grind, hR.tear, FM.rf.up (by omega)⟩ dX4_tear_19
  ·
    refine gx_iconst (v := 1) C dX4_tear_7 (by decide) ?_
    refine gx_goto (tgt := 12) C dX4_tear_8 (by decide) ?_
    refine gx_istore_n (lv2 := [(1, .int 1), (0, .ref (eA E 49))]) C dX4_tear_12 (by rfl) (by decide) rfl ?_
    refine gx_aload_n C dX4_tear_13 (by rfl) (by rfl) ?_
    refine gx_iconst (v := 0) C dX4_tear_14 (by decide) ?_
    refine gx_puti (k := 4) C ck4 (by rfl) (by rfl) (by decide) (by rfl) (by first | rfl | exact nb_b2 _) (by first | rfl | exact fb_b2 _) fl_X4_309 dX4_tear_15 ?_
    refine gx_iload_n C dX4_tear_18 (by rfl) (by rfl) ?_
    exact gx_iret C hr hlk rfl ⟨by simp only [opTear]; grind, hR.tear, FM.rf.up (by omega)⟩ dX4_tear_19
set_option maxHeartbeats 4000000 in
set_option maxRecDepth 100000 in
theorem c_X4_wipe (E : En) (σ : Mm) (K L : Mm) (g : Int32) (F : Nat → Int32) (tl : Int32) (Bt W Z : Nat → Int32) (N : Mm) (hR : MR σ (K, L, g, F, tl, Bt, W, Z, N)) : CtI E yX4_wipe cX4_wipe 2 (some .int) 0 0 [.ref (eA E 49)] σ (fun rr σ2 => rr = (opWipe (K, L, g, F, tl, Bt, W, Z, N)).1 ∧ MR σ2 (opWipe (K, L, g, F, tl, Bt, W, Z, N)).2 ∧ FM σ σ2) := by
  obtain ⟨⟨hM, hO⟩, ⟨hg1, hg2, hg3⟩, hFd, ⟨⟨htl, htl2⟩, hBt⟩, hSh⟩ := id hR
  obtain ⟨⟨hn, h12⟩, hpp, hlw, hsp, hz0⟩ := id hO
  refine CtI.of (by decide +kernel) (Nat.le_of_ble_eq_true rfl) (fun p e0 s m below meth c C hr hlk => ?_)
  refine gx_lv (lv' := [(0, .ref (eA E 49))]) rfl ?_
  refine gx_aload_n C dX4_wipe_0 (by rfl) (by rfl) ?_
  refine gx_geti (k := 7) C ck4 (by rfl) (by rfl) (by decide) fl_X4_198 dX4_wipe_1 ?_
  refine gx_st (st' := [.int tl]) (by rw [htl]) ?_
  refine gx_istore_n (lv2 := [(1, .int tl), (0, .ref (eA E 49))]) C dX4_wipe_4 (by rfl) (by decide) rfl ?_
  refine gx_aload_n C dX4_wipe_5 (by rfl) (by rfl) ?_
  refine gx_iconst (v := 0) C dX4_wipe_6 (by decide) ?_
  refine gx_puti (k := 7) C ck4 (by rfl) (by rfl) (by decide) (by rfl) rfl rfl fl_X4_198 dX4_wipe_7 ?_
  refine gx_iload_n C dX4_wipe_10 (by rfl) (by rfl) ?_
  exact gx_iret C hr hlk rfl ⟨rfl, hR.tape (fun i h1 h2 => up2_o h1) (by rw [up2_s, pk_un (by omega)]) (by rw [up2_s]; simp [upd]) ⟨0, by omega, rfl⟩ (fun i hi => by rw [up2_o (by omega)]; exact hBt i hi), FM.rf.up (by omega)⟩ dX4_wipe_11
set_option maxHeartbeats 4000000 in
set_option maxRecDepth 100000 in
theorem c_X4_count (E : En) (σ : Mm) (K L : Mm) (g : Int32) (F : Nat → Int32) (tl : Int32) (Bt W Z : Nat → Int32) (N : Mm) (hR : MR σ (K, L, g, F, tl, Bt, W, Z, N)) (w : Int32) : CtI E yX4_count cX4_count 2 (some .int) 2 45 [.ref (eA E 49), .int w] σ (fun rr σ2 => rr = (opCount (K, L, g, F, tl, Bt, W, Z, N) w).1 ∧ MR σ2 (opCount (K, L, g, F, tl, Bt, W, Z, N) w).2 ∧ FM σ σ2) := by
  obtain ⟨⟨hM, hO⟩, ⟨hg1, hg2, hg3⟩, hFd, ⟨⟨htl, htl2⟩, hBt⟩, hSh⟩ := id hR
  obtain ⟨⟨hn, h12⟩, hpp, hlw, hsp, hz0⟩ := id hO
  refine CtI.of (by decide +kernel) (Nat.le_of_ble_eq_true rfl) (fun p e0 s m below meth c C hr hlk => ?_)
  refine gx_lv (lv' := [(0, .ref (eA E 49)), (1, .int w)]) rfl ?_
  refine gx_iload_n C dX4_count_0 (by rfl) (by rfl) ?_
  rcases sw_split w (0) 7 8 (by decide) with h1 | h1
  ·
    refine gx_tabOut (tgt := 105) C dX4_count_1 h1 (by decide) ?_
    have qd1 : ¬ w = 0 ∧ ¬ w = 1 ∧ ¬ w = 2 ∧ ¬ w = 3 ∧ ¬ w = 4 ∧ ¬ w = 5 ∧ ¬ w = 6 ∧ ¬ w = 7 := by refine ⟨?_, ?_, ?_, ?_, ?_, ?_, ?_, ?_⟩ <;> (intro q9; rw [q9] at h1; revert h1; decide)
    refine gx_aload_n C dX4_count_105 (by rfl) (by rfl) ?_
    refine gx_ldc C kc_X4_37 dX4_count_106 ?_
    refine gx_callVI (As := [.int (-1000001)]) (rest := []) C (c_X4_finds E σ (-1000001) 0 (by decide) (by decide)) z_X4_finds ck4 (by rfl) (by rfl) ml_X4_39 (by rfl) (Nat.le_of_ble_eq_true rfl) ⟨Nat.le_of_ble_eq_true rfl, Nat.le_of_ble_eq_true rfl⟩ dX4_count_108 (fun r2 σ2 w2 => ?_)
    obtain ⟨u1, u2⟩ := w2; rw [u1, u2]; clear u1 u2
    exact gx_iret C hr hlk rfl (fim_fd hR (by decide) (by simp only [opCount, bey, ful, knd, non, sta, mis, siz] <;> grind)) dX4_count_111
  ·
    obtain ⟨j1, hj1, ej1⟩ := h1
    have hj1 := hj1
    match j1, hj1, ej1 with
    | 0, _, ej1 =>
      have ex1 : w = (0 : Int32) := ej1.trans (by decide)
      refine gx_tabIn (off := 47) (tgt := 48) C dX4_count_1 (by rw [ex1]; decide) (by rw [ex1]; decide) (by rw [ex1]; decide) (by decide) ?_
      refine gx_aload_n C dX4_count_48 (by rfl) (by rfl) ?_
      refine gx_getr (j := 50) (k := 0) C ck4 (by rfl) (by rfl) (by decide) fl_X4_9 dX4_count_49 ?_
      refine gx_iconst (v := 0) C dX4_count_52 (by decide) ?_
      refine gx_ialdN (k := 0) C (by rfl) (by rfl) (by decide) (by decide) dX4_count_53 ?_
      refine gx_st (st' := [.int (K 0 1)]) (by rw [mp_m hM]) ?_
      exact gx_iret C hr hlk rfl (fim_rd hR (by simp only [opCount, bey, ful, knd, non, sta, mis, siz] <;> grind)) dX4_count_54
    | 1, _, ej1 =>
      have ex1 : w = (1 : Int32) := ej1.trans (by decide)
      refine gx_tabIn (off := 54) (tgt := 55) C dX4_count_1 (by rw [ex1]; decide) (by rw [ex1]; decide) (by rw [ex1]; decide) (by decide) ?_
      refine gx_aload_n C dX4_count_55 (by rfl) (by rfl) ?_
      refine gx_getr (j := 50) (k := 0) C ck4 (by rfl) (by rfl) (by decide) fl_X4_9 dX4_count_56 ?_
      refine gx_bipush (v := 6) C dX4_count_59 (by decide) ?_
      refine gx_ialdN (k := 6) C (by rfl) (by rfl) (by decide) (by decide) dX4_count_61 ?_
      refine gx_st (st' := [.int (nI (nn K))]) (by rw [mp_n hM, hn]) ?_
      exact gx_iret C hr hlk rfl (fim_rd hR (by simp only [opCount, bey, ful, knd, non, sta, mis, siz] <;> grind)) dX4_count_62
    | 2, _, ej1 =>
      have ex1 : w = (2 : Int32) := ej1.trans (by decide)
      refine gx_tabIn (off := 62) (tgt := 63) C dX4_count_1 (by rw [ex1]; decide) (by rw [ex1]; decide) (by rw [ex1]; decide) (by decide) ?_
      refine gx_aload_n C dX4_count_63 (by rfl) (by rfl) ?_
      refine gx_iconst (v := (-1)) C dX4_count_64 (by decide) ?_
      refine gx_callVI (As := [.int (-1)]) (rest := []) C (c_X4_inRank E σ K hM hO (-1)) z_X4_inRank ck4 (by rfl) (by rfl) ml_X4_55 (by rfl) (Nat.le_of_ble_eq_true rfl) ⟨Nat.le_of_ble_eq_true rfl, Nat.le_of_ble_eq_true rfl⟩ dX4_count_65 (fun r3 σ3 w3 => ?_)
      obtain ⟨u1, u2⟩ := w3; rw [u1, u2]; clear u1 u2
      refine gx_callSI (As := [.int (bset (nn K) (inP K (-1)))]) (rest := []) C (c_X4_many E σ (nn K) (by omega) (inP K (-1))) z_X4_many (by rfl) ml_X4_58 (by rfl) (Nat.le_of_ble_eq_true rfl) ⟨Nat.le_of_ble_eq_true rfl, Nat.le_of_ble_eq_true rfl⟩ dX4_count_68 (fun r4 σ4 w4 => ?_)
      obtain ⟨u1, u2⟩ := w4; rw [u1, u2]; clear u1 u2
      exact gx_iret C hr hlk rfl (fim_rd hR (by simp only [opCount, bey, ful, knd, non, sta, mis, siz] <;> grind)) dX4_count_71
    | 3, _, ej1 =>
      have ex1 : w = (3 : Int32) := ej1.trans (by decide)
      refine gx_tabIn (off := 71) (tgt := 72) C dX4_count_1 (by rw [ex1]; decide) (by rw [ex1]; decide) (by rw [ex1]; decide) (by decide) ?_
      refine gx_aload_n C dX4_count_72 (by rfl) (by rfl) ?_
      refine gx_getr (j := 50) (k := 0) C ck4 (by rfl) (by rfl) (by decide) fl_X4_9 dX4_count_73 ?_
      refine gx_iconst (v := 4) C dX4_count_76 (by decide) ?_
      refine gx_ialdN (k := 4) C (by rfl) (by rfl) (by decide) (by decide) dX4_count_77 ?_
      refine gx_st (st' := [.int (K 0 2)]) (by rw [mp_t hM]) ?_
      exact gx_iret C hr hlk rfl (fim_rd hR (by simp only [opCount, bey, ful, knd, non, sta, mis, siz] <;> grind)) dX4_count_78
    | 4, _, ej1 =>
      have ex1 : w = (4 : Int32) := ej1.trans (by decide)
      refine gx_tabIn (off := 78) (tgt := 79) C dX4_count_1 (by rw [ex1]; decide) (by rw [ex1]; decide) (by rw [ex1]; decide) (by decide) ?_
      refine gx_aload_n C dX4_count_79 (by rfl) (by rfl) ?_
      refine gx_aload_n C dX4_count_80 (by rfl) (by rfl) ?_
      refine gx_callVI (As := []) (rest := [.ref (eA E 49)]) C (c_X4_everybody E σ K hM hO) z_X4_everybody ck4 (by rfl) (by rfl) ml_X4_169 (by rfl) (Nat.le_of_ble_eq_true rfl) ⟨Nat.le_of_ble_eq_true rfl, Nat.le_of_ble_eq_true rfl⟩ dX4_count_81 (fun r5 σ5 w5 => ?_)
      obtain ⟨u1, u2⟩ := w5; rw [u1, u2]; clear u1 u2
      refine gx_callVI (As := [.int (bset (nn K) (fun _ => true))]) (rest := []) C (c_X4_goldOf E σ K hM hO (fun _ => true)) z_X4_goldOf ck4 (by rfl) (by rfl) ml_X4_78 (by rfl) (Nat.le_of_ble_eq_true rfl) ⟨Nat.le_of_ble_eq_true rfl, Nat.le_of_ble_eq_true rfl⟩ dX4_count_84 (fun r6 σ6 w6 => ?_)
      obtain ⟨u1, u2⟩ := w6; rw [u1, u2]; clear u1 u2
      exact gx_iret C hr hlk rfl (fim_rd hR (by simp only [opCount, bey, ful, knd, non, sta, mis, siz] <;> grind)) dX4_count_87
    | 5, _, ej1 =>
      have ex1 : w = (5 : Int32) := ej1.trans (by decide)
      refine gx_tabIn (off := 87) (tgt := 88) C dX4_count_1 (by rw [ex1]; decide) (by rw [ex1]; decide) (by rw [ex1]; decide) (by decide) ?_
      refine gx_aload_n C dX4_count_88 (by rfl) (by rfl) ?_
      refine gx_callVI (As := []) (rest := []) C (c_X4_grudging E σ K hM hO) z_X4_grudging ck4 (by rfl) (by rfl) ml_X4_195 (by rfl) (Nat.le_of_ble_eq_true rfl) ⟨Nat.le_of_ble_eq_true rfl, Nat.le_of_ble_eq_true rfl⟩ dX4_count_89 (fun r7 σ7 w7 => ?_)
      obtain ⟨u1, u2⟩ := w7; rw [u1, u2]; clear u1 u2
      exact gx_iret C hr hlk rfl (fim_rd hR (by simp only [opCount, bey, ful, knd, non, sta, mis, siz] <;> grind)) dX4_count_92
    | 6, _, ej1 =>
      have ex1 : w = (6 : Int32) := ej1.trans (by decide)
      refine gx_tabIn (off := 92) (tgt := 93) C dX4_count_1 (by rw [ex1]; decide) (by rw [ex1]; decide) (by rw [ex1]; decide) (by decide) ?_
      refine gx_aload_n C dX4_count_93 (by rfl) (by rfl) ?_
      refine gx_geti (k := 7) C ck4 (by rfl) (by rfl) (by decide) fl_X4_198 dX4_count_94 ?_
      refine gx_st (st' := [.int tl]) (by rw [htl]) ?_
      exact gx_iret C hr hlk rfl (fim_rd hR (by simp only [opCount, bey, ful, knd, non, sta, mis, siz] <;> grind)) dX4_count_97
    | 7, _, ej1 =>
      have ex1 : w = (7 : Int32) := ej1.trans (by decide)
      refine gx_tabIn (off := 97) (tgt := 98) C dX4_count_1 (by rw [ex1]; decide) (by rw [ex1]; decide) (by rw [ex1]; decide) (by decide) ?_
      refine gx_aload_n C dX4_count_98 (by rfl) (by rfl) ?_
      refine gx_getr (j := 50) (k := 0) C ck4 (by rfl) (by rfl) (by decide) fl_X4_9 dX4_count_99 ?_
      refine gx_iconst (v := 5) C dX4_count_102 (by decide) ?_
      refine gx_ialdN (k := 5) C (by rfl) (by rfl) (by decide) (by decide) dX4_count_103 ?_
      refine gx_st (st' := [.int (K 0 3)]) (by rw [mp_z hM]) ?_
      exact gx_iret C hr hlk rfl (fim_rd hR (by simp only [opCount, bey, ful, knd, non, sta, mis, siz] <;> grind)) dX4_count_104
    | j + 8, hj, _ => exact absurd hj (by omega)
def stS (F : Nat → Int32) (w : Int32) : Nat → Int32
  | 0 => 0
  | i + 1 => stS F w i + (if w < 0 ∨ w = nI i then F i else 0)
theorem st_neg {F : Nat → Int32} {w : Int32} (h : w < 0) : ∀ i, stS F w i = sumN F i := by
  intro i
  induction i with
  | zero => rfl
  | succ i ih => rw [stS, sumN, ih, if_pos (Or.inl h)]
theorem st_at {F : Nat → Int32} {k : Nat} (hk : k < 7) : ∀ i, i ≤ 7 → stS F (nI k) i = if k < i then F k else 0 := by
  intro i
  induction i with
  | zero => intro _; rfl
  | succ i ih =>
    intro hi
    rw [stS, ih (by omega)]
    by_cases h : k = i
    · subst h
      rw [if_pos (Or.inr rfl), if_neg (by omega), if_pos (by omega), Int32.add_comm, add0]
    · rw [if_neg (show ¬ (nI k < 0 ∨ nI k = nI i) from fun q => q.elim (nI_pos (by omega)) (fun q => h ((nI_eq (by omega) (by omega)).mp q))), add0]
      by_cases h2 : k < i
      · rw [if_pos h2, if_pos (by omega)]
      · rw [if_neg h2, if_neg (by omega)]
theorem opStatus_eq {A : As} {w : Int32} (h : -1 ≤ w ∧ w ≤ 6) : opStatus A w = (stS A.2.2.2.1 w 7, A) := by
  unfold opStatus
  rw [if_pos h]
  by_cases h0 : 0 ≤ w
  · obtain ⟨k, hk, rfl⟩ := i_nat (M := 6) (n := 6) (by decide) ⟨h0, h.2⟩
    rw [if_pos h0, st_at (by omega) 7 (by omega), if_pos (by omega), show cl (nI k) = k from nI_clamp (by omega)]
  · rw [if_neg h0, st_neg (Int32.not_le.mp h0)]
set_option maxHeartbeats 4000000 in
set_option maxRecDepth 100000 in
theorem c_X4_status (E : En) (σ : Mm) (K L : Mm) (g : Int32) (F : Nat → Int32) (tl : Int32) (Bt W Z : Nat → Int32) (N : Mm) (hR : MR σ (K, L, g, F, tl, Bt, W, Z, N)) (w : Int32) : CtI E yX4_status cX4_status 4 (some .int) 1 25 [.ref (eA E 49), .int w] σ (fun rr σ2 => rr = (opStatus (K, L, g, F, tl, Bt, W, Z, N) w).1 ∧ MR σ2 (opStatus (K, L, g, F, tl, Bt, W, Z, N) w).2 ∧ FM σ σ2) := by
  obtain ⟨⟨hM, hO⟩, ⟨hg1, hg2, hg3⟩, hFd, ⟨⟨htl, htl2⟩, hBt⟩, hSh⟩ := id hR
  obtain ⟨⟨hn, h12⟩, hpp, hlw, hsp, hz0⟩ := id hO
  refine CtI.of (by decide +kernel) (Nat.le_of_ble_eq_true rfl) (fun p e0 s m below meth c C hr hlk => ?_)
  refine gx_lv (lv' := [(0, .ref (eA E 49)), (1, .int w)]) rfl ?_
  refine gx_iload_n C dX4_status_0 (by rfl) (by rfl) ?_
  refine gx_i2l C dX4_status_1 ?_
  refine gx_ldc2 C kl_X4_312 dX4_status_2 ?_
  refine gx_ldc2 C kl_X4_49 dX4_status_5 ?_
  refine gx_callSI (As := [.long w.toInt64, .long (-1), .long 6]) (rest := []) C (c_X4_in E σ w (-1) 6 w.toInt64 (-1) 6 (by first | rfl | decide) (by first | rfl | decide) (by first | rfl | decide)) z_X4_in (by rfl) ml_X4_45 (by rfl) (Nat.le_of_ble_eq_true rfl) ⟨Nat.le_of_ble_eq_true rfl, Nat.le_of_ble_eq_true rfl⟩ dX4_status_8 (fun r1 σ1 w1 => ?_)
  obtain ⟨u1, u2⟩ := w1; rw [u1, u2]; clear u1 u2
  refine gx_if_ne (tgt := 21) C dX4_status_11 (by decide) (fun h2 => ?_) (fun h2 => ?_)
  ·
    have h2 := b2_nz.mp h2
    refine gx_iconst (v := 0) C dX4_status_21 (by decide) ?_
    refine gx_istore_n (lv2 := [(2, .int 0), (0, .ref (eA E 49)), (1, .int w)]) C dX4_status_22 (by rfl) (by decide) rfl ?_
    refine gx_iconst (v := 0) C dX4_status_23 (by decide) ?_
    refine gx_istore_n (lv2 := [(3, .int 0), (2, .int 0), (0, .ref (eA E 49)), (1, .int w)]) C dX4_status_24 (by rfl) (by decide) rfl ?_
    have loop25 : ∀ (kf i : Nat), i ≤ 7 → 7 < i + kf → Gx E p e0 (rmF 1 25) s m ([.ref (eA E 49), .int w] : List Value).toArray below meth c (MQ below (va_Qi (fun rr σ2 => rr = (opStatus (K, L, g, F, tl, Bt, W, Z, N) w).1 ∧ MR σ2 (opStatus (K, L, g, F, tl, Bt, W, Z, N) w).2 ∧ FM σ σ2) (WQ E) (AA E s.heap.size)) ([.ref (eA E 49), .int w] : List Value).toArray s 0 0 (AA E s.heap.size)) 4 25 [(0, .ref (eA E 49)), (1, .int w), (2, .int (stS F w i)), (3, .int (nI i))] [] σ := by
      intro kf
      induction kf with
      | zero => intro i q1 q2; exact absurd q2 (by omega)
      | succ kf ih25 =>
        intro i a25 b25
        refine gx_iload_n C dX4_status_25 (by rfl) (by rfl) ?_
        refine gx_bipush (v := 7) C dX4_status_26 (by decide) ?_
        refine gx_icmp_ge (tgt := 59) C dX4_status_28 (by decide) (fun h3 => ?_) (fun h3 => ?_)
        ·
          have h3 := (nI_leI (a := 7) (b := i) (by omega) (by omega)).mp h3
          refine gx_iload_n C dX4_status_59 (by rfl) (by rfl) ?_
          exact gx_iret C hr hlk rfl (fim_rd hR (by have q1 : i = 7 := (by omega); subst q1; exact opStatus_eq (by assumption))) dX4_status_60
        ·
          have h3 := (not_congr (nI_leI (a := 7) (b := i) (by omega) (by omega))).mp h3
          refine gx_iload_n C dX4_status_31 (by rfl) (by rfl) ?_
          refine gx_iload_n C dX4_status_32 (by rfl) (by rfl) ?_
          refine gx_if_lt (tgt := 41) C dX4_status_33 (by decide) (fun h4 => ?_) (fun h4 => ?_)
          ·
            refine gx_aload_n C dX4_status_41 (by rfl) (by rfl) ?_
            refine gx_getr (j := 54) (k := 5) C ck4 (by rfl) (by rfl) (by decide) fl_X4_22 dX4_status_42 ?_
            refine gx_iload_n C dX4_status_45 (by rfl) (by rfl) ?_
            refine gx_ialdN (k := i) C (by rfl) rfl (by omega) (by decide) dX4_status_46 ?_
            refine gx_st (st' := [.int (F i), .int (stS F w i)]) (by rw [hFd i (by omega)]) ?_
            refine gx_goto (tgt := 51) C dX4_status_47 (by decide) ?_
            refine gx_iadd C dX4_status_51 ?_
            refine gx_istore_n (lv2 := [(2, .int ((stS F w i) + (F i))), (0, .ref (eA E 49)), (1, .int w), (3, .int (nI i))]) C dX4_status_52 (by rfl) (by decide) rfl ?_
            refine gx_iinc (v := nI (i + 1)) (lv2 := [(3, .int (nI (i + 1))), (2, .int ((stS F w i) + (F i))), (0, .ref (eA E 49)), (1, .int w)]) C dX4_status_53 (by rfl) (by exact nI_p1 _) (by decide) rfl ?_
            refine gx_goto (tgt := 25) C dX4_status_56 (by decide) ?_
            refine gx_sub [2, 3, 1, 0] (lv' := [(0, .ref (eA E 49)), (1, .int w), (2, .int ((stS F w i) + (F i))), (3, .int (nI (i + 1)))]) rfl ?_
            refine gx_lv (lv' := [(0, .ref (eA E 49)), (1, .int w), (2, .int (stS F w (i + 1))), (3, .int (nI (i + 1)))]) (by first | rw [stS, if_pos (Or.inl (by assumption))] | rw [stS, if_pos (Or.inr (by assumption))]) ?_
            exact ih25 (i + 1) (by omega) (by omega)
          ·
            refine gx_iload_n C dX4_status_36 (by rfl) (by rfl) ?_
            refine gx_iload_n C dX4_status_37 (by rfl) (by rfl) ?_
            refine gx_icmp_ne (tgt := 50) C dX4_status_38 (by decide) (fun h5 => ?_) (fun h5 => ?_)
            ·
              refine gx_iconst (v := 0) C dX4_status_50 (by decide) ?_
              refine gx_iadd C dX4_status_51 ?_
              refine gx_istore_n (lv2 := [(2, .int ((stS F w i) + 0)), (0, .ref (eA E 49)), (1, .int w), (3, .int (nI i))]) C dX4_status_52 (by rfl) (by decide) rfl ?_
              refine gx_iinc (v := nI (i + 1)) (lv2 := [(3, .int (nI (i + 1))), (2, .int ((stS F w i) + 0)), (0, .ref (eA E 49)), (1, .int w)]) C dX4_status_53 (by rfl) (by exact nI_p1 _) (by decide) rfl ?_
              refine gx_goto (tgt := 25) C dX4_status_56 (by decide) ?_
              refine gx_sub [2, 3, 1, 0] (lv' := [(0, .ref (eA E 49)), (1, .int w), (2, .int ((stS F w i) + 0)), (3, .int (nI (i + 1)))]) rfl ?_
              refine gx_lv (lv' := [(0, .ref (eA E 49)), (1, .int w), (2, .int (stS F w (i + 1))), (3, .int (nI (i + 1)))]) (by rw [stS, if_neg (fun q => q.elim (by first | assumption | exact Int32.not_lt.mpr (by assumption)) (by assumption))]) ?_
              exact ih25 (i + 1) (by omega) (by omega)
            ·
              refine gx_aload_n C dX4_status_41 (by rfl) (by rfl) ?_
              refine gx_getr (j := 54) (k := 5) C ck4 (by rfl) (by rfl) (by decide) fl_X4_22 dX4_status_42 ?_
              refine gx_iload_n C dX4_status_45 (by rfl) (by rfl) ?_
              refine gx_ialdN (k := i) C (by rfl) rfl (by omega) (by decide) dX4_status_46 ?_
              refine gx_st (st' := [.int (F i), .int (stS F w i)]) (by rw [hFd i (by omega)]) ?_
              refine gx_goto (tgt := 51) C dX4_status_47 (by decide) ?_
              refine gx_iadd C dX4_status_51 ?_
              refine gx_istore_n (lv2 := [(2, .int ((stS F w i) + (F i))), (0, .ref (eA E 49)), (1, .int w), (3, .int (nI i))]) C dX4_status_52 (by rfl) (by decide) rfl ?_
              refine gx_iinc (v := nI (i + 1)) (lv2 := [(3, .int (nI (i + 1))), (2, .int ((stS F w i) + (F i))), (0, .ref (eA E 49)), (1, .int w)]) C dX4_status_53 (by rfl) (by exact nI_p1 _) (by decide) rfl ?_
              refine gx_goto (tgt := 25) C dX4_status_56 (by decide) ?_
              refine gx_sub [2, 3, 1, 0] (lv' := [(0, .ref (eA E 49)), (1, .int w), (2, .int ((stS F w i) + (F i))), (3, .int (nI (i + 1)))]) rfl ?_
              refine gx_lv (lv' := [(0, .ref (eA E 49)), (1, .int w), (2, .int (stS F w (i + 1))), (3, .int (nI (i + 1)))]) (by first | rw [stS, if_pos (Or.inl (by assumption))] | rw [stS, if_pos (Or.inr (by assumption))]) ?_
              exact ih25 (i + 1) (by omega) (by omega)
    refine gx_sub [2, 3, 1, 0] (lv' := [(0, .ref (eA E 49)), (1, .int w), (2, .int 0), (3, .int 0)]) rfl ?_
    refine gx_lv (lv' := [(0, .ref (eA E 49)), (1, .int w), (2, .int (stS F w 0)), (3, .int (nI 0))]) (by rfl) ?_
    exact loop25 (7 + 1) 0 (by omega) (by omega)
  ·
    have h2 := b2_z.mp h2
    refine gx_aload_n C dX4_status_14 (by rfl) (by rfl) ?_
    refine gx_ldc C kc_X4_37 dX4_status_15 ?_
    refine gx_callVI (As := [.int (-1000001)]) (rest := []) C (c_X4_finds E σ (-1000001) 0 (by decide) (by decide)) z_X4_finds ck4 (by rfl) (by rfl) ml_X4_39 (by rfl) (Nat.le_of_ble_eq_true rfl) ⟨Nat.le_of_ble_eq_true rfl, Nat.le_of_ble_eq_true rfl⟩ dX4_status_17 (fun r6 σ6 w6 => ?_)
    obtain ⟨u1, u2⟩ := w6; rw [u1, u2]; clear u1 u2
    exact gx_iret C hr hlk rfl (fim_fd hR (by decide) (by simp only [opStatus, bey, ful, knd, non, sta, mis, siz] <;> grind)) dX4_status_20
set_option maxHeartbeats 4000000 in
set_option maxRecDepth 100000 in
theorem c_X4_safe (E : En) (σ : Mm) (K L : Mm) (g : Int32) (F : Nat → Int32) (tl : Int32) (Bt W Z : Nat → Int32) (N : Mm) (hR : MR σ (K, L, g, F, tl, Bt, W, Z, N)) : CtI E yX4_safe cX4_safe 3 (some .int) 4 90 [.ref (eA E 49)] σ (fun rr σ2 => rr = (opSafe (K, L, g, F, tl, Bt, W, Z, N)).1 ∧ MR σ2 (opSafe (K, L, g, F, tl, Bt, W, Z, N)).2 ∧ FM σ σ2) := by
  obtain ⟨⟨hM, hO⟩, ⟨hg1, hg2, hg3⟩, hFd, ⟨⟨htl, htl2⟩, hBt⟩, hSh⟩ := id hR
  obtain ⟨⟨hn, h12⟩, hpp, hlw, hsp, hz0⟩ := id hO
  refine CtI.of (by decide +kernel) (Nat.le_of_ble_eq_true rfl) (fun p e0 s m below meth c C hr hlk => ?_)
  refine gx_lv (lv' := [(0, .ref (eA E 49))]) rfl ?_
  refine gx_iconst (v := 0) C dX4_safe_0 (by decide) ?_
  refine gx_istore_n (lv2 := [(1, .int 0), (0, .ref (eA E 49))]) C dX4_safe_1 (by rfl) (by decide) rfl ?_
  refine gx_iconst (v := 0) C dX4_safe_2 (by decide) ?_
  refine gx_istore_n (lv2 := [(2, .int 0), (1, .int 0), (0, .ref (eA E 49))]) C dX4_safe_3 (by rfl) (by decide) rfl ?_
  have loop4 : ∀ (kf i : Nat), i ≤ nn K → nn K < i + kf → Gx E p e0 (rmF 4 90) s m ([.ref (eA E 49)] : List Value).toArray below meth c (MQ below (va_Qi (fun rr σ2 => rr = (opSafe (K, L, g, F, tl, Bt, W, Z, N)).1 ∧ MR σ2 (opSafe (K, L, g, F, tl, Bt, W, Z, N)).2 ∧ FM σ σ2) (WQ E) (AA E s.heap.size)) ([.ref (eA E 49)] : List Value).toArray s 0 0 (AA E s.heap.size)) 3 4 [(0, .ref (eA E 49)), (1, .int (bset i (sfP K))), (2, .int (nI i))] [] σ := by
    intro kf
    induction kf with
    | zero => intro i q1 q2; exact absurd q2 (by omega)
    | succ kf ih4 =>
      intro i a4 b4
      refine gx_iload_n C dX4_safe_4 (by rfl) (by rfl) ?_
      refine gx_aload_n C dX4_safe_5 (by rfl) (by rfl) ?_
      refine gx_getr (j := 50) (k := 0) C ck4 (by rfl) (by rfl) (by decide) fl_X4_9 dX4_safe_6 ?_
      refine gx_bipush (v := 6) C dX4_safe_9 (by decide) ?_
      refine gx_ialdN (k := 6) C (by rfl) (by rfl) (by decide) (by decide) dX4_safe_11 ?_
      refine gx_st (st' := [.int (nI (nn K)), .int (nI i)]) (by rw [mp_n hM, hn]) ?_
      refine gx_icmp_ge (tgt := 47) C dX4_safe_12 (by decide) (fun h1 => ?_) (fun h1 => ?_)
      ·
        have h1 := (nI_leI (a := (nn K)) (b := i) (by omega) (by omega)).mp h1
        refine gx_iload_n C dX4_safe_47 (by rfl) (by rfl) ?_
        exact gx_iret C hr hlk rfl (fim_rd hR (by have q1 : i = nn K := (by omega); rw [q1]; rfl)) dX4_safe_48
      ·
        have h1 := (not_congr (nI_leI (a := (nn K)) (b := i) (by omega) (by omega))).mp h1
        refine gx_iload_n C dX4_safe_15 (by rfl) (by rfl) ?_
        refine gx_aload_n C dX4_safe_16 (by rfl) (by rfl) ?_
        refine gx_iload_n C dX4_safe_17 (by rfl) (by rfl) ?_
        refine gx_callVI (As := [.int (nI i)]) (rest := [.int (bset i (sfP K))]) C (c_X4_isOut E σ K hM hO i (by omega)) z_X4_isOut ck4 (by rfl) (by rfl) ml_X4_119 (by rfl) (Nat.le_of_ble_eq_true rfl) ⟨Nat.le_of_ble_eq_true rfl, Nat.le_of_ble_eq_true rfl⟩ dX4_safe_18 (fun r2 σ2 w2 => ?_)
        obtain ⟨u1, u2⟩ := w2; rw [u1, u2]; clear u1 u2
        refine gx_if_ne (tgt := 38) C dX4_safe_21 (by decide) (fun h3 => ?_) (fun h3 => ?_)
        ·
          have h3 := b2_nz.mp h3
          refine gx_iconst (v := 0) C dX4_safe_38 (by decide) ?_
          refine gx_ior C dX4_safe_39 ?_
          refine gx_istore_n (lv2 := [(1, .int ((bset i (sfP K)) ||| 0)), (0, .ref (eA E 49)), (2, .int (nI i))]) C dX4_safe_40 (by rfl) (by decide) rfl ?_
          refine gx_iinc (v := nI (i + 1)) (lv2 := [(2, .int (nI (i + 1))), (1, .int ((bset i (sfP K)) ||| 0)), (0, .ref (eA E 49))]) C dX4_safe_41 (by rfl) (by exact nI_p1 _) (by decide) rfl ?_
          refine gx_goto (tgt := 4) C dX4_safe_44 (by decide) ?_
          refine gx_sub [2, 1, 0] (lv' := [(0, .ref (eA E 49)), (1, .int ((bset i (sfP K)) ||| 0)), (2, .int (nI (i + 1)))]) rfl ?_
          refine gx_lv (lv' := [(0, .ref (eA E 49)), (1, .int (bset (i + 1) (sfP K))), (2, .int (nI (i + 1)))]) (by rw [or0, bset_f (n := i) (P := sfP K) (by omega) (by simp only [sfP]; grind)]) ?_
          exact ih4 (i + 1) (by omega) (by omega)
        ·
          have h3 := b2_z.mp h3
          refine gx_aload_n C dX4_safe_24 (by rfl) (by rfl) ?_
          refine gx_iload_n C dX4_safe_25 (by rfl) (by rfl) ?_
          refine gx_callVI (As := [.int (nI i)]) (rest := [.int (bset i (sfP K))]) C (c_X4_isSafe E σ K hM hO i (by omega) (by assumption)) z_X4_isSafe ck4 (by rfl) (by rfl) ml_X4_188 (by rfl) (Nat.le_of_ble_eq_true rfl) ⟨Nat.le_of_ble_eq_true rfl, Nat.le_of_ble_eq_true rfl⟩ dX4_safe_26 (fun r4 σ4 w4 => ?_)
          obtain ⟨u1, u2⟩ := w4; rw [u1, u2]; clear u1 u2
          refine gx_if_eq (tgt := 38) C dX4_safe_29 (by decide) (fun h5 => ?_) (fun h5 => ?_)
          ·
            have h5 := b2_z.mp h5
            refine gx_iconst (v := 0) C dX4_safe_38 (by decide) ?_
            refine gx_ior C dX4_safe_39 ?_
            refine gx_istore_n (lv2 := [(1, .int ((bset i (sfP K)) ||| 0)), (0, .ref (eA E 49)), (2, .int (nI i))]) C dX4_safe_40 (by rfl) (by decide) rfl ?_
            refine gx_iinc (v := nI (i + 1)) (lv2 := [(2, .int (nI (i + 1))), (1, .int ((bset i (sfP K)) ||| 0)), (0, .ref (eA E 49))]) C dX4_safe_41 (by rfl) (by exact nI_p1 _) (by decide) rfl ?_
            refine gx_goto (tgt := 4) C dX4_safe_44 (by decide) ?_
            refine gx_sub [2, 1, 0] (lv' := [(0, .ref (eA E 49)), (1, .int ((bset i (sfP K)) ||| 0)), (2, .int (nI (i + 1)))]) rfl ?_
            refine gx_lv (lv' := [(0, .ref (eA E 49)), (1, .int (bset (i + 1) (sfP K))), (2, .int (nI (i + 1)))]) (by rw [or0, bset_f (n := i) (P := sfP K) (by omega) (by simp only [sfP]; grind)]) ?_
            exact ih4 (i + 1) (by omega) (by omega)
          ·
            have h5 := b2_nz.mp h5
            refine gx_iconst (v := 1) C dX4_safe_32 (by decide) ?_
            refine gx_iload_n C dX4_safe_33 (by rfl) (by rfl) ?_
            refine gx_ishl C dX4_safe_34 ?_
            refine gx_goto (tgt := 39) C dX4_safe_35 (by decide) ?_
            refine gx_ior C dX4_safe_39 ?_
            refine gx_istore_n (lv2 := [(1, .int ((bset i (sfP K)) ||| (1 <<< ((nI i) &&& 31)))), (0, .ref (eA E 49)), (2, .int (nI i))]) C dX4_safe_40 (by rfl) (by decide) rfl ?_
            refine gx_iinc (v := nI (i + 1)) (lv2 := [(2, .int (nI (i + 1))), (1, .int ((bset i (sfP K)) ||| (1 <<< ((nI i) &&& 31)))), (0, .ref (eA E 49))]) C dX4_safe_41 (by rfl) (by exact nI_p1 _) (by decide) rfl ?_
            refine gx_goto (tgt := 4) C dX4_safe_44 (by decide) ?_
            refine gx_sub [2, 1, 0] (lv' := [(0, .ref (eA E 49)), (1, .int ((bset i (sfP K)) ||| (1 <<< ((nI i) &&& 31)))), (2, .int (nI (i + 1)))]) rfl ?_
            refine gx_lv (lv' := [(0, .ref (eA E 49)), (1, .int (bset (i + 1) (sfP K))), (2, .int (nI (i + 1)))]) (by rw [bset_t (n := i) (P := sfP K) (by omega) (by simp only [sfP]; grind)]) ?_
            exact ih4 (i + 1) (by omega) (by omega)
  refine gx_sub [2, 1, 0] (lv' := [(0, .ref (eA E 49)), (1, .int 0), (2, .int 0)]) rfl ?_
  refine gx_lv (lv' := [(0, .ref (eA E 49)), (1, .int (bset 0 (sfP K))), (2, .int (nI 0))]) (by rfl) ?_
  exact loop4 (nn K + 1) 0 (by omega) (by omega)
set_option maxHeartbeats 4000000 in
set_option maxRecDepth 100000 in
theorem c_X4_undo (E : En) (σ : Mm) (K L : Mm) (g : Int32) (F : Nat → Int32) (tl : Int32) (Bt W Z : Nat → Int32) (N : Mm) (hR : MR σ (K, L, g, F, tl, Bt, W, Z, N)) (q n : Int32) : CtI E yX4_undo cX4_undo 6 (some .int) 8 186 [.ref (eA E 49), .int q, .int n] σ (fun rr σ2 => rr = (opUndo (K, L, g, F, tl, Bt, W, Z, N) q n).1 ∧ MR σ2 (opUndo (K, L, g, F, tl, Bt, W, Z, N) q n).2 ∧ FM σ σ2) := by
  obtain ⟨⟨hM, hO⟩, ⟨hg1, hg2, hg3⟩, hFd, ⟨⟨htl, htl2⟩, hBt⟩, hSh⟩ := id hR
  obtain ⟨⟨hn, h12⟩, hpp, hlw, hsp, hz0⟩ := id hO
  refine CtI.of (by decide +kernel) (Nat.le_of_ble_eq_true rfl) (fun p e0 s m below meth c C hr hlk => ?_)
  refine gx_lv (lv' := [(0, .ref (eA E 49)), (1, .int q), (2, .int n)]) rfl ?_
  refine gx_aload_n C dX4_undo_0 (by rfl) (by rfl) ?_
  refine gx_iload_n C dX4_undo_1 (by rfl) (by rfl) ?_
  refine gx_callVI (As := [.int q]) (rest := []) C (c_X4_isPerson E σ K hM hO q) z_X4_isPerson ck4 (by rfl) (by rfl) ml_X4_101 (by rfl) (Nat.le_of_ble_eq_true rfl) ⟨Nat.le_of_ble_eq_true rfl, Nat.le_of_ble_eq_true rfl⟩ dX4_undo_2 (fun r1 σ1 w1 => ?_)
  obtain ⟨u1, u2⟩ := w1; rw [u1, u2]; clear u1 u2
  refine gx_if_eq (tgt := 20) C dX4_undo_5 (by decide) (fun h2 => ?_) (fun h2 => ?_)
  ·
    have h2 := b2_z.mp h2
    refine gx_aload_n C dX4_undo_20 (by rfl) (by rfl) ?_
    refine gx_ldc C kc_X4_37 dX4_undo_21 ?_
    refine gx_callVI (As := [.int (-1000001)]) (rest := []) C (c_X4_finds E σ (-1000001) 0 (by decide) (by decide)) z_X4_finds ck4 (by rfl) (by rfl) ml_X4_39 (by rfl) (Nat.le_of_ble_eq_true rfl) ⟨Nat.le_of_ble_eq_true rfl, Nat.le_of_ble_eq_true rfl⟩ dX4_undo_23 (fun r3 σ3 w3 => ?_)
    obtain ⟨u1, u2⟩ := w3; rw [u1, u2]; clear u1 u2
    exact gx_iret C hr hlk rfl (fim_fd hR (by decide) (by simp only [opUndo, bey, ful, knd, non, sta, mis, siz] <;> grind)) dX4_undo_26
  ·
    have h2 := b2_nz.mp h2
    obtain ⟨k, hk, rfl⟩ := has_nat hO h2
    have ck : (nI k).toNatClampNeg = k := nI_clamp (by omega)
    refine gx_iload_n C dX4_undo_8 (by rfl) (by rfl) ?_
    refine gx_i2l C dX4_undo_9 ?_
    refine gx_lconst (v := 1) C dX4_undo_10 (by decide) ?_
    refine gx_ldc2 C kl_X4_186 dX4_undo_11 ?_
    refine gx_callSI (As := [.long n.toInt64, .long 1, .long 60]) (rest := []) C (c_X4_in E σ n 1 60 n.toInt64 1 60 (by first | rfl | decide) (by first | rfl | decide) (by first | rfl | decide)) z_X4_in (by rfl) ml_X4_45 (by rfl) (Nat.le_of_ble_eq_true rfl) ⟨Nat.le_of_ble_eq_true rfl, Nat.le_of_ble_eq_true rfl⟩ dX4_undo_14 (fun r4 σ4 w4 => ?_)
    obtain ⟨u1, u2⟩ := w4; rw [u1, u2]; clear u1 u2
    refine gx_if_ne (tgt := 27) C dX4_undo_17 (by decide) (fun h5 => ?_) (fun h5 => ?_)
    ·
      have h5 := b2_nz.mp h5
      obtain ⟨t, ht, rfl⟩ := i_nat (M := 60) (n := 60) (by decide) ⟨Int32.le_trans (by decide) h5.1, h5.2⟩
      have ct : (nI t).toNatClampNeg = t := nI_clamp (by omega)
      refine gx_aload_n C dX4_undo_27 (by rfl) (by rfl) ?_
      refine gx_iload_n C dX4_undo_28 (by rfl) (by rfl) ?_
      refine gx_callVI (As := [.int (nI k)]) (rest := []) C (c_X4_isOut E σ K hM hO k (by omega)) z_X4_isOut ck4 (by rfl) (by rfl) ml_X4_119 (by rfl) (Nat.le_of_ble_eq_true rfl) ⟨Nat.le_of_ble_eq_true rfl, Nat.le_of_ble_eq_true rfl⟩ dX4_undo_29 (fun r6 σ6 w6 => ?_)
      obtain ⟨u1, u2⟩ := w6; rw [u1, u2]; clear u1 u2
      refine gx_if_ne (tgt := 49) C dX4_undo_32 (by decide) (fun h7 => ?_) (fun h7 => ?_)
      ·
        have h7 := b2_nz.mp h7
        refine gx_aload_n C dX4_undo_49 (by rfl) (by rfl) ?_
        refine gx_ldc C kc_X4_67 dX4_undo_50 ?_
        refine gx_callVI (As := [.int (-1000005)]) (rest := []) C (c_X4_finds E σ (-1000005) 4 (by decide) (by decide)) z_X4_finds ck4 (by rfl) (by rfl) ml_X4_39 (by rfl) (Nat.le_of_ble_eq_true rfl) ⟨Nat.le_of_ble_eq_true rfl, Nat.le_of_ble_eq_true rfl⟩ dX4_undo_52 (fun r8 σ8 w8 => ?_)
        obtain ⟨u1, u2⟩ := w8; rw [u1, u2]; clear u1 u2
        exact gx_iret C hr hlk rfl (fim_fd hR (by decide) (by simp only [opUndo, bey, ful, knd, non, sta, mis, siz] <;> grind)) dX4_undo_55
      ·
        have h7 := b2_z.mp h7
        refine gx_aload_n C dX4_undo_35 (by rfl) (by rfl) ?_
        refine gx_getr (j := 50) (k := 0) C ck4 (by rfl) (by rfl) (by decide) fl_X4_9 dX4_undo_36 ?_
        refine gx_iconst (v := 0) C dX4_undo_39 (by decide) ?_
        refine gx_ialdN (k := 0) C (by rfl) (by rfl) (by decide) (by decide) dX4_undo_40 ?_
        refine gx_st (st' := [.int (K 0 1)]) (by rw [mp_m hM]) ?_
        refine gx_iload_n C dX4_undo_41 (by rfl) (by rfl) ?_
        refine gx_iadd C dX4_undo_42 ?_
        refine gx_sipush (v := 999) C dX4_undo_43 (by decide) ?_
        refine gx_icmp_le (tgt := 56) C dX4_undo_46 (by decide) (fun h9 => ?_) (fun h9 => ?_)
        ·
          refine gx_iconst (v := 0) C dX4_undo_56 (by decide) ?_
          refine gx_istore_n (lv2 := [(3, .int 0), (0, .ref (eA E 49)), (1, .int (nI k)), (2, .int (nI t))]) C dX4_undo_57 (by rfl) (by decide) rfl ?_
          refine gx_iconst (v := 0) C dX4_undo_58 (by decide) ?_
          refine gx_istore (lv2 := [(4, .int 0), (3, .int 0), (0, .ref (eA E 49)), (1, .int (nI k)), (2, .int (nI t))]) C dX4_undo_59 (by decide) rfl ?_
          have loop61 : ∀ (kf i : Nat), i ≤ nn K → nn K < i + kf → ∀ τ : Mm, (vM τ 50 = K) → (F3 σ τ) → Gx E p e0 (rmF 8 186) s m ([.ref (eA E 49), .int (nI k), .int (nI t)] : List Value).toArray below meth c (MQ below (va_Qi (fun rr σ2 => rr = (opUndo (K, L, g, F, tl, Bt, W, Z, N) (nI k) (nI t)).1 ∧ MR σ2 (opUndo (K, L, g, F, tl, Bt, W, Z, N) (nI k) (nI t)).2 ∧ FM σ σ2) (WQ E) (AA E s.heap.size)) ([.ref (eA E 49), .int (nI k), .int (nI t)] : List Value).toArray s 0 0 (AA E s.heap.size)) 6 61 [(0, .ref (eA E 49)), (1, .int (nI k)), (2, .int (nI t)), (3, .int (bset i (unP K k t))), (4, .int (nI i))] [] τ := by
            intro kf
            induction kf with
            | zero => intro i q1 q2; exact absurd q2 (by omega)
            | succ kf ih61 =>
              intro i a61 b61 τ hMt hFt
              refine gx_iload C dX4_undo_61 (by rfl) ?_
              refine gx_aload_n C dX4_undo_63 (by rfl) (by rfl) ?_
              refine gx_getr (j := 50) (k := 0) C ck4 (by rfl) (by rfl) (by decide) fl_X4_9 dX4_undo_64 ?_
              refine gx_bipush (v := 6) C dX4_undo_67 (by decide) ?_
              refine gx_ialdN (k := 6) C (by rfl) (by rfl) (by decide) (by decide) dX4_undo_69 ?_
              refine gx_st (st' := [.int (nI (nn K)), .int (nI i)]) (by rw [mp_n hMt, hn]) ?_
              refine gx_icmp_ge (tgt := 146) C dX4_undo_70 (by decide) (fun h10 => ?_) (fun h10 => ?_)
              ·
                have h10 := (nI_leI (a := (nn K)) (b := i) (by omega) (by omega)).mp h10
                refine gx_iload_n C dX4_undo_146 (by rfl) (by rfl) ?_
                exact gx_iret C hr hlk rfl (fim_try hR hMt hFt (by have q1 : i = nn K := (by omega); subst q1; simp only [opUndo, ck, ct, bey, sta] <;> grind)) dX4_undo_147
              ·
                have h10 := (not_congr (nI_leI (a := (nn K)) (b := i) (by omega) (by omega))).mp h10
                refine gx_iload C dX4_undo_73 (by rfl) ?_
                refine gx_iload_n C dX4_undo_75 (by rfl) (by rfl) ?_
                refine gx_icmp_eq (tgt := 140) C dX4_undo_76 (by decide) (fun h11 => ?_) (fun h11 => ?_)
                ·
                  have h11 := (nI_eq (a := i) (b := k) (by omega) (by omega)).mp h11
                  refine gx_iinc (v := nI (i + 1)) (lv2 := [(4, .int (nI (i + 1))), (0, .ref (eA E 49)), (1, .int (nI k)), (2, .int (nI t)), (3, .int (bset i (unP K k t)))]) C dX4_undo_140 (by rfl) (by exact nI_p1 _) (by decide) rfl ?_
                  refine gx_goto (tgt := 61) C dX4_undo_143 (by decide) ?_
                  refine gx_sub [1, 2, 3, 4, 0] (lv' := [(0, .ref (eA E 49)), (1, .int (nI k)), (2, .int (nI t)), (3, .int (bset i (unP K k t))), (4, .int (nI (i + 1)))]) rfl ?_
                  refine gx_lv (lv' := [(0, .ref (eA E 49)), (1, .int (nI k)), (2, .int (nI t)), (3, .int (bset (i + 1) (unP K k t))), (4, .int (nI (i + 1)))]) (by rw [bset_f (n := i) (P := unP K k t) (by omega) (by simp only [unP]; grind)]) ?_
                  exact ih61 (i + 1) (by omega) (by omega) τ hMt hFt
                ·
                  have h11 := (not_congr (nI_eq (a := i) (b := k) (by omega) (by omega))).mp h11
                  refine gx_aload_n C dX4_undo_79 (by rfl) (by rfl) ?_
                  refine gx_iload C dX4_undo_80 (by rfl) ?_
                  refine gx_callVI (As := [.int (nI i)]) (rest := []) C (c_X4_isOut E τ K hMt hO i (by omega)) z_X4_isOut ck4 (by rfl) (by rfl) ml_X4_119 (by rfl) (Nat.le_of_ble_eq_true rfl) ⟨Nat.le_of_ble_eq_true rfl, Nat.le_of_ble_eq_true rfl⟩ dX4_undo_82 (fun r14 σ14 w14 => ?_)
                  obtain ⟨u1, u2⟩ := w14; rw [u1, u2]; clear u1 u2
                  refine gx_if_eq (tgt := 91) C dX4_undo_85 (by decide) (fun h15 => ?_) (fun h15 => ?_)
                  ·
                    have h15 := b2_z.mp h15
                    refine gx_aload_n C dX4_undo_91 (by rfl) (by rfl) ?_
                    refine gx_iload C dX4_undo_92 (by rfl) ?_
                    refine gx_iconst (v := 1) C dX4_undo_94 (by decide) ?_
                    refine gx_callVI (As := [.int (nI i), .int 1]) (rest := []) C (c_X4_is E τ i (by omega) 1 (by omega)) z_X4_is ck4 (by rfl) (by rfl) ml_X4_51 (by rfl) (Nat.le_of_ble_eq_true rfl) ⟨Nat.le_of_ble_eq_true rfl, Nat.le_of_ble_eq_true rfl⟩ dX4_undo_95 (fun r16 σ16 w16 => ?_)
                    obtain ⟨u1, u2⟩ := w16; rw [u1, u2]; clear u1 u2
                    refine gx_st (st' := [.int (K 2 i)]) (by rw [mp_2 hMt (p := i) (by omega)]) ?_
                    refine gx_istore (lv2 := [(5, .int (K 2 i)), (0, .ref (eA E 49)), (1, .int (nI k)), (2, .int (nI t)), (3, .int (bset i (unP K k t))), (4, .int (nI i))]) C dX4_undo_98 (by decide) rfl ?_
                    refine gx_aload_n C dX4_undo_100 (by rfl) (by rfl) ?_
                    refine gx_iload C dX4_undo_101 (by rfl) ?_
                    refine gx_iconst (v := 1) C dX4_undo_103 (by decide) ?_
                    refine gx_iconst (v := (-1)) C dX4_undo_104 (by decide) ?_
                    refine gx_callVV (As := [.int (nI i), .int 1, .int (-1)]) (rest := []) C (c_X4_makes E τ i (by omega) 1 (by omega) (-1)) z_X4_makes ck4 (by rfl) (by rfl) ml_X4_87 (by rfl) (Nat.le_of_ble_eq_true rfl) ⟨Nat.le_of_ble_eq_true rfl, Nat.le_of_ble_eq_true rfl⟩ dX4_undo_105 (fun σ18 w18 => ?_)
                    rw [w18]; clear w18
                    have hM17 : vM (up2 τ 50 (15 + 7 * i + 1) (-1)) 50 = up2 K 2 i (-1) := by rw [vM_mk (by omega) (by omega), hMt]
                    have hnv19 : nn (up2 K 2 i (-1)) = nn K := nn_up (Or.inl (by decide))
                    refine gx_iload_n C dX4_undo_108 (by rfl) (by rfl) ?_
                    refine gx_aload_n C dX4_undo_109 (by rfl) (by rfl) ?_
                    refine gx_iload_n C dX4_undo_110 (by rfl) (by rfl) ?_
                    refine gx_iconst (v := 4) C dX4_undo_111 (by decide) ?_
                    refine gx_iload_n C dX4_undo_112 (by rfl) (by rfl) ?_
                    refine gx_iadd C dX4_undo_113 ?_
                    refine gx_st (st' := [.int (nI (4 + k)), .int (nI t), .ref (eA E 49), .int (bset i (unP K k t))]) (by rw [show 4 + (nI k) = nI (4 + k) from nI_add 4 k]) ?_
                    refine gx_callVI (As := [.int (nI t), .int (nI (4 + k))]) (rest := [.int (bset i (unP K k t))]) C (k_X4_behind_q E (up2 τ 50 (15 + 7 * i + 1) (-1)) (up2 K 2 i (-1)) hM17 (hO.rank (p := i) (v := (-1)) (by omega) ⟨by decide, by decide⟩) t (by omega) k (by omega)) z_X4_behind ck4 (by rfl) (by rfl) ml_X4_172 (by rfl) (Nat.le_of_ble_eq_true rfl) ⟨Nat.le_of_ble_eq_true rfl, Nat.le_of_ble_eq_true rfl⟩ dX4_undo_114 (fun r20 σ20 w20 => ?_)
                    obtain ⟨er20, hM20, hF20⟩ := w20
                    refine gx_st (st' := [.int (mos t (up2 K 2 i (-1)) 2 k), .int (bset i (unP K k t))]) (by rw [er20]) ?_
                    refine gx_iconst (v := (-1)) C dX4_undo_117 (by decide) ?_
                    refine gx_icmp_ne (tgt := 125) C dX4_undo_118 (by decide) (fun h21 => ?_) (fun h21 => ?_)
                    ·
                      refine gx_iconst (v := 1) C dX4_undo_125 (by decide) ?_
                      refine gx_iload C dX4_undo_126 (by rfl) ?_
                      refine gx_ishl C dX4_undo_128 ?_
                      refine gx_ior C dX4_undo_129 ?_
                      refine gx_istore_n (lv2 := [(3, .int ((bset i (unP K k t)) ||| (1 <<< ((nI i) &&& 31)))), (5, .int (K 2 i)), (0, .ref (eA E 49)), (1, .int (nI k)), (2, .int (nI t)), (4, .int (nI i))]) C dX4_undo_130 (by rfl) (by decide) rfl ?_
                      refine gx_aload_n C dX4_undo_131 (by rfl) (by rfl) ?_
                      refine gx_iload C dX4_undo_132 (by rfl) ?_
                      refine gx_iconst (v := 1) C dX4_undo_134 (by decide) ?_
                      refine gx_iload C dX4_undo_135 (by rfl) ?_
                      refine gx_callVV (As := [.int (nI i), .int 1, .int (K 2 i)]) (rest := []) C (c_X4_makes E σ20 i (by omega) 1 (by omega) (K 2 i)) z_X4_makes ck4 (by rfl) (by rfl) ml_X4_87 (by rfl) (Nat.le_of_ble_eq_true rfl) ⟨Nat.le_of_ble_eq_true rfl, Nat.le_of_ble_eq_true rfl⟩ dX4_undo_137 (fun σ23 w23 => ?_)
                      rw [w23]; clear w23
                      have hM22 : vM (up2 σ20 50 (15 + 7 * i + 1) (K 2 i)) 50 = up2 (up2 K 2 i (-1)) 2 i (K 2 i) := by rw [vM_mk (by omega) (by omega), hM20]
                      have hnv24 : nn (up2 (up2 K 2 i (-1)) 2 i (K 2 i)) = nn (up2 K 2 i (-1)) := nn_up (Or.inl (by decide))
                      refine gx_iinc (v := nI (i + 1)) (lv2 := [(4, .int (nI (i + 1))), (3, .int ((bset i (unP K k t)) ||| (1 <<< ((nI i) &&& 31)))), (5, .int (K 2 i)), (0, .ref (eA E 49)), (1, .int (nI k)), (2, .int (nI t))]) C dX4_undo_140 (by rfl) (by exact nI_p1 _) (by decide) rfl ?_
                      refine gx_goto (tgt := 61) C dX4_undo_143 (by decide) ?_
                      refine gx_sub [3, 4, 5, 1, 0] (lv' := [(0, .ref (eA E 49)), (1, .int (nI k)), (2, .int (nI t)), (3, .int ((bset i (unP K k t)) ||| (1 <<< ((nI i) &&& 31)))), (4, .int (nI (i + 1)))]) rfl ?_
                      refine gx_lv (lv' := [(0, .ref (eA E 49)), (1, .int (nI k)), (2, .int (nI t)), (3, .int (bset (i + 1) (unP K k t))), (4, .int (nI (i + 1)))]) (by rw [bset_t (n := i) (P := unP K k t) (by omega) (by simp only [unP]; grind)]) ?_
                      exact ih61 (i + 1) (by omega) (by omega) (up2 σ20 50 (15 + 7 * i + 1) (K 2 i)) (by have q9 := hM22; rwa [up2_bk] at q9) ((((hFt).up (by decide)).f2 hF20).up (by decide))
                    ·
                      refine gx_iconst (v := 0) C dX4_undo_121 (by decide) ?_
                      refine gx_goto (tgt := 129) C dX4_undo_122 (by decide) ?_
                      refine gx_ior C dX4_undo_129 ?_
                      refine gx_istore_n (lv2 := [(3, .int ((bset i (unP K k t)) ||| 0)), (5, .int (K 2 i)), (0, .ref (eA E 49)), (1, .int (nI k)), (2, .int (nI t)), (4, .int (nI i))]) C dX4_undo_130 (by rfl) (by decide) rfl ?_
                      refine gx_aload_n C dX4_undo_131 (by rfl) (by rfl) ?_
                      refine gx_iload C dX4_undo_132 (by rfl) ?_
                      refine gx_iconst (v := 1) C dX4_undo_134 (by decide) ?_
                      refine gx_iload C dX4_undo_135 (by rfl) ?_
                      refine gx_callVV (As := [.int (nI i), .int 1, .int (K 2 i)]) (rest := []) C (c_X4_makes E σ20 i (by omega) 1 (by omega) (K 2 i)) z_X4_makes ck4 (by rfl) (by rfl) ml_X4_87 (by rfl) (Nat.le_of_ble_eq_true rfl) ⟨Nat.le_of_ble_eq_true rfl, Nat.le_of_ble_eq_true rfl⟩ dX4_undo_137 (fun σ27 w27 => ?_)
                      rw [w27]; clear w27
                      have hM26 : vM (up2 σ20 50 (15 + 7 * i + 1) (K 2 i)) 50 = up2 (up2 K 2 i (-1)) 2 i (K 2 i) := by rw [vM_mk (by omega) (by omega), hM20]
                      have hnv28 : nn (up2 (up2 K 2 i (-1)) 2 i (K 2 i)) = nn (up2 K 2 i (-1)) := nn_up (Or.inl (by decide))
                      refine gx_iinc (v := nI (i + 1)) (lv2 := [(4, .int (nI (i + 1))), (3, .int ((bset i (unP K k t)) ||| 0)), (5, .int (K 2 i)), (0, .ref (eA E 49)), (1, .int (nI k)), (2, .int (nI t))]) C dX4_undo_140 (by rfl) (by exact nI_p1 _) (by decide) rfl ?_
                      refine gx_goto (tgt := 61) C dX4_undo_143 (by decide) ?_
                      refine gx_sub [3, 4, 5, 1, 0] (lv' := [(0, .ref (eA E 49)), (1, .int (nI k)), (2, .int (nI t)), (3, .int ((bset i (unP K k t)) ||| 0)), (4, .int (nI (i + 1)))]) rfl ?_
                      refine gx_lv (lv' := [(0, .ref (eA E 49)), (1, .int (nI k)), (2, .int (nI t)), (3, .int (bset (i + 1) (unP K k t))), (4, .int (nI (i + 1)))]) (by rw [or0, bset_f (n := i) (P := unP K k t) (by omega) (by simp only [unP]; grind)]) ?_
                      exact ih61 (i + 1) (by omega) (by omega) (up2 σ20 50 (15 + 7 * i + 1) (K 2 i)) (by have q9 := hM26; rwa [up2_bk] at q9) ((((hFt).up (by decide)).f2 hF20).up (by decide))
                  ·
                    have h15 := b2_nz.mp h15
                    refine gx_goto (tgt := 140) C dX4_undo_88 (by decide) ?_
                    refine gx_iinc (v := nI (i + 1)) (lv2 := [(4, .int (nI (i + 1))), (0, .ref (eA E 49)), (1, .int (nI k)), (2, .int (nI t)), (3, .int (bset i (unP K k t)))]) C dX4_undo_140 (by rfl) (by exact nI_p1 _) (by decide) rfl ?_
                    refine gx_goto (tgt := 61) C dX4_undo_143 (by decide) ?_
                    refine gx_sub [1, 2, 3, 4, 0] (lv' := [(0, .ref (eA E 49)), (1, .int (nI k)), (2, .int (nI t)), (3, .int (bset i (unP K k t))), (4, .int (nI (i + 1)))]) rfl ?_
                    refine gx_lv (lv' := [(0, .ref (eA E 49)), (1, .int (nI k)), (2, .int (nI t)), (3, .int (bset (i + 1) (unP K k t))), (4, .int (nI (i + 1)))]) (by rw [bset_f (n := i) (P := unP K k t) (by omega) (by simp only [unP]; grind)]) ?_
                    exact ih61 (i + 1) (by omega) (by omega) τ hMt hFt
          refine gx_sub [2, 3, 4, 1, 0] (lv' := [(0, .ref (eA E 49)), (1, .int (nI k)), (2, .int (nI t)), (3, .int 0), (4, .int 0)]) rfl ?_
          refine gx_lv (lv' := [(0, .ref (eA E 49)), (1, .int (nI k)), (2, .int (nI t)), (3, .int (bset 0 (unP K k t))), (4, .int (nI 0))]) (by rfl) ?_
          exact loop61 (nn K + 1) 0 (by omega) (by omega) σ hM F3.rf
        ·
          refine gx_aload_n C dX4_undo_49 (by rfl) (by rfl) ?_
          refine gx_ldc C kc_X4_67 dX4_undo_50 ?_
          refine gx_callVI (As := [.int (-1000005)]) (rest := []) C (c_X4_finds E σ (-1000005) 4 (by decide) (by decide)) z_X4_finds ck4 (by rfl) (by rfl) ml_X4_39 (by rfl) (Nat.le_of_ble_eq_true rfl) ⟨Nat.le_of_ble_eq_true rfl, Nat.le_of_ble_eq_true rfl⟩ dX4_undo_52 (fun r29 σ29 w29 => ?_)
          obtain ⟨u1, u2⟩ := w29; rw [u1, u2]; clear u1 u2
          exact gx_iret C hr hlk rfl (fim_fd hR (by decide) (by simp only [opUndo, bey, ful, knd, non, sta, mis, siz] <;> grind)) dX4_undo_55
    ·
      have h5 := b2_z.mp h5
      refine gx_aload_n C dX4_undo_20 (by rfl) (by rfl) ?_
      refine gx_ldc C kc_X4_37 dX4_undo_21 ?_
      refine gx_callVI (As := [.int (-1000001)]) (rest := []) C (c_X4_finds E σ (-1000001) 0 (by decide) (by decide)) z_X4_finds ck4 (by rfl) (by rfl) ml_X4_39 (by rfl) (Nat.le_of_ble_eq_true rfl) ⟨Nat.le_of_ble_eq_true rfl, Nat.le_of_ble_eq_true rfl⟩ dX4_undo_23 (fun r30 σ30 w30 => ?_)
      obtain ⟨u1, u2⟩ := w30; rw [u1, u2]; clear u1 u2
      exact gx_iret C hr hlk rfl (fim_fd hR (by decide) (by simp only [opUndo, bey, ful, knd, non, sta, mis, siz] <;> grind)) dX4_undo_26
set_option maxHeartbeats 4000000 in
set_option maxRecDepth 100000 in
theorem c_X4_best (E : En) (σ : Mm) (K L : Mm) (g : Int32) (F : Nat → Int32) (tl : Int32) (Bt W Z : Nat → Int32) (N : Mm) (hR : MR σ (K, L, g, F, tl, Bt, W, Z, N)) (q n : Int32) : CtI E yX4_best cX4_best 10 (some .int) 8 186 [.ref (eA E 49), .int q, .int n] σ (fun rr σ2 => rr = (opBest (K, L, g, F, tl, Bt, W, Z, N) q n).1 ∧ MR σ2 (opBest (K, L, g, F, tl, Bt, W, Z, N) q n).2 ∧ FM σ σ2) := by
  obtain ⟨⟨hM, hO⟩, ⟨hg1, hg2, hg3⟩, hFd, ⟨⟨htl, htl2⟩, hBt⟩, hSh⟩ := id hR
  obtain ⟨⟨hn, h12⟩, hpp, hlw, hsp, hz0⟩ := id hO
  refine CtI.of (by decide +kernel) (Nat.le_of_ble_eq_true rfl) (fun p e0 s m below meth c C hr hlk => ?_)
  refine gx_lv (lv' := [(0, .ref (eA E 49)), (1, .int q), (2, .int n)]) rfl ?_
  refine gx_aload_n C dX4_best_0 (by rfl) (by rfl) ?_
  refine gx_iload_n C dX4_best_1 (by rfl) (by rfl) ?_
  refine gx_iconst (v := 1) C dX4_best_2 (by decide) ?_
  refine gx_bipush (v := 60) C dX4_best_3 (by decide) ?_
  refine gx_aload_n C dX4_best_5 (by rfl) (by rfl) ?_
  refine gx_iload_n C dX4_best_6 (by rfl) (by rfl) ?_
  refine gx_callVI (As := [.int q]) (rest := [.int 60, .int 1, .int n, .ref (eA E 49)]) C (c_X4_isPerson E σ K hM hO q) z_X4_isPerson ck4 (by rfl) (by rfl) ml_X4_101 (by rfl) (Nat.le_of_ble_eq_true rfl) ⟨Nat.le_of_ble_eq_true rfl, Nat.le_of_ble_eq_true rfl⟩ dX4_best_7 (fun r1 σ1 w1 => ?_)
  obtain ⟨u1, u2⟩ := w1; rw [u1, u2]; clear u1 u2
  refine gx_callVI (As := [.int n, .int 1, .int 60, .int (b2 (0 ≤ q ∧ q < K 0 0))]) (rest := []) C (c_X4_wrong E σ K hM hO n 1 60 (b2 (0 ≤ q ∧ q < K 0 0))) z_X4_wrong ck4 (by rfl) (by rfl) ml_X4_157 (by rfl) (Nat.le_of_ble_eq_true rfl) ⟨Nat.le_of_ble_eq_true rfl, Nat.le_of_ble_eq_true rfl⟩ dX4_best_10 (fun r2 σ2 w2 => ?_)
  obtain ⟨u1, w2⟩ := w2; rw [u1]; clear u1
  rcases w2 with ⟨c2, u2⟩ | ⟨c2, d2, u2⟩ | ⟨c2, d2, u2⟩
  ·
    rw [u2]; clear u2
    have c2 : ¬ ((0 ≤ q ∧ q < K 0 0) ∧ 1 ≤ n ∧ n ≤ 60) := fun q9 => c2 ⟨b2_nz.mpr q9.1, q9.2⟩
    refine gx_istore_n (lv2 := [(3, .int (-1000001)), (0, .ref (eA E 49)), (1, .int q), (2, .int n)]) C dX4_best_13 (by rfl) (by decide) rfl ?_
    refine gx_iload_n C dX4_best_14 (by rfl) (by rfl) ?_
    refine gx_if_ge (tgt := 24) C dX4_best_15 (by decide) (fun h3 => ?_) (fun h3 => ?_)
    ·
      exact absurd h3 (by decide)
    ·
      clear h3
      refine gx_aload_n C dX4_best_18 (by rfl) (by rfl) ?_
      refine gx_iload_n C dX4_best_19 (by rfl) (by rfl) ?_
      refine gx_callVI (As := [.int (-1000001)]) (rest := []) C (c_X4_finds E σ (-1000001) 0 (by decide) (by decide)) z_X4_finds ck4 (by rfl) (by rfl) ml_X4_39 (by rfl) (Nat.le_of_ble_eq_true rfl) ⟨Nat.le_of_ble_eq_true rfl, Nat.le_of_ble_eq_true rfl⟩ dX4_best_20 (fun r4 σ4 w4 => ?_)
      obtain ⟨u1, u2⟩ := w4; rw [u1, u2]; clear u1 u2
      exact gx_iret C hr hlk rfl (fim_fd hR (by decide) (by simp only [opBest, bey, ful, knd, non, sta, mis, siz] <;> grind)) dX4_best_23
  ·
    rw [u2]; clear u2
    have c2 : (0 ≤ q ∧ q < K 0 0) ∧ 1 ≤ n ∧ n ≤ 60 := ⟨b2_nz.mp c2.1, c2.2⟩
    refine gx_istore_n (lv2 := [(3, .int (-1000005)), (0, .ref (eA E 49)), (1, .int q), (2, .int n)]) C dX4_best_13 (by rfl) (by decide) rfl ?_
    refine gx_iload_n C dX4_best_14 (by rfl) (by rfl) ?_
    refine gx_if_ge (tgt := 24) C dX4_best_15 (by decide) (fun h5 => ?_) (fun h5 => ?_)
    ·
      exact absurd h5 (by decide)
    ·
      clear h5
      refine gx_aload_n C dX4_best_18 (by rfl) (by rfl) ?_
      refine gx_iload_n C dX4_best_19 (by rfl) (by rfl) ?_
      refine gx_callVI (As := [.int (-1000005)]) (rest := []) C (c_X4_finds E σ (-1000005) 4 (by decide) (by decide)) z_X4_finds ck4 (by rfl) (by rfl) ml_X4_39 (by rfl) (Nat.le_of_ble_eq_true rfl) ⟨Nat.le_of_ble_eq_true rfl, Nat.le_of_ble_eq_true rfl⟩ dX4_best_20 (fun r6 σ6 w6 => ?_)
      obtain ⟨u1, u2⟩ := w6; rw [u1, u2]; clear u1 u2
      exact gx_iret C hr hlk rfl (fim_fd hR (by decide) (by simp only [opBest, bey, ful, knd, non, sta, mis, siz] <;> grind)) dX4_best_23
  ·
    rw [u2]; clear u2
    have c2 : (0 ≤ q ∧ q < K 0 0) ∧ 1 ≤ n ∧ n ≤ 60 := ⟨b2_nz.mp c2.1, c2.2⟩
    obtain ⟨k, hk, rfl⟩ := has_nat hO c2.1
    have ck : (nI k).toNatClampNeg = k := nI_clamp (by omega)
    obtain ⟨t, ht, rfl⟩ := i_nat (M := 60) (n := 60) (by decide) ⟨Int32.le_trans (by decide) c2.2.1, c2.2.2⟩
    have ct : (nI t).toNatClampNeg = t := nI_clamp (by omega)
    refine gx_istore_n (lv2 := [(3, .int 0), (0, .ref (eA E 49)), (1, .int (nI k)), (2, .int (nI t))]) C dX4_best_13 (by rfl) (by decide) rfl ?_
    refine gx_iload_n C dX4_best_14 (by rfl) (by rfl) ?_
    refine gx_if_ge (tgt := 24) C dX4_best_15 (by decide) (fun h7 => ?_) (fun h7 => ?_)
    ·
      clear h7
      refine gx_aload_n C dX4_best_24 (by rfl) (by rfl) ?_
      refine gx_getr (j := 50) (k := 0) C ck4 (by rfl) (by rfl) (by decide) fl_X4_9 dX4_best_25 ?_
      refine gx_iconst (v := 1) C dX4_best_28 (by decide) ?_
      refine gx_ialdN (k := 1) C (by rfl) (by rfl) (by decide) (by decide) dX4_best_29 ?_
      refine gx_st (st' := [.int (K 9 0)]) (by rw [mp_9_0 hM]) ?_
      refine gx_istore (lv2 := [(4, .int (K 9 0)), (3, .int 0), (0, .ref (eA E 49)), (1, .int (nI k)), (2, .int (nI t))]) C dX4_best_30 (by decide) rfl ?_
      refine gx_iconst (v := 0) C dX4_best_32 (by decide) ?_
      refine gx_istore (lv2 := [(5, .int 0), (4, .int (K 9 0)), (3, .int 0), (0, .ref (eA E 49)), (1, .int (nI k)), (2, .int (nI t))]) C dX4_best_33 (by decide) rfl ?_
      refine gx_bipush (v := 9) C dX4_best_35 (by decide) ?_
      refine gx_istore (lv2 := [(6, .int 9), (5, .int 0), (4, .int (K 9 0)), (3, .int 0), (0, .ref (eA E 49)), (1, .int (nI k)), (2, .int (nI t))]) C dX4_best_37 (by decide) rfl ?_
      refine gx_iconst (v := 0) C dX4_best_39 (by decide) ?_
      refine gx_istore (lv2 := [(7, .int 0), (6, .int 9), (5, .int 0), (4, .int (K 9 0)), (3, .int 0), (0, .ref (eA E 49)), (1, .int (nI k)), (2, .int (nI t))]) C dX4_best_40 (by decide) rfl ?_
      have loop42 : ∀ (kf i : Nat), i ≤ 3 → 3 < i + kf → ∀ τ : Mm, (∃ x, vM τ 50 = up2 K 9 0 x) → (F3 σ τ) → Gx E p e0 (rmF 8 186) s m ([.ref (eA E 49), .int (nI k), .int (nI t)] : List Value).toArray below meth c (MQ below (va_Qi (fun rr σ2 => rr = (opBest (K, L, g, F, tl, Bt, W, Z, N) (nI k) (nI t)).1 ∧ MR σ2 (opBest (K, L, g, F, tl, Bt, W, Z, N) (nI k) (nI t)).2 ∧ FM σ σ2) (WQ E) (AA E s.heap.size)) ([.ref (eA E 49), .int (nI k), .int (nI t)] : List Value).toArray s 0 0 (AA E s.heap.size)) 10 42 [(0, .ref (eA E 49)), (1, .int (nI k)), (2, .int (nI t)), (3, .int 0), (4, .int (K 9 0)), (5, .int ((bsF K k t i).1)), (6, .int ((bsF K k t i).2)), (7, .int (nI i))] [] τ := by
        intro kf
        induction kf with
        | zero => intro i q1 q2; exact absurd q2 (by omega)
        | succ kf ih42 =>
          intro i a42 b42 τ hMt0 hFt
          obtain ⟨x, hMt⟩ := hMt0
          refine gx_iload C dX4_best_42 (by rfl) ?_
          refine gx_iconst (v := 3) C dX4_best_44 (by decide) ?_
          refine gx_icmp_ge (tgt := 119) C dX4_best_45 (by decide) (fun h8 => ?_) (fun h8 => ?_)
          ·
            have h8 := (nI_leI (a := 3) (b := i) (by omega) (by omega)).mp h8
            refine gx_aload_n C dX4_best_119 (by rfl) (by rfl) ?_
            refine gx_getr (j := 50) (k := 0) C ck4 (by rfl) (by rfl) (by decide) fl_X4_9 dX4_best_120 ?_
            refine gx_iconst (v := 1) C dX4_best_123 (by decide) ?_
            refine gx_iload C dX4_best_124 (by rfl) ?_
            refine gx_iastN (k := 1) C (by rfl) (by rfl) (by decide) (by decide) dX4_best_126 ?_
            have hM9 : vM (up2 τ 50 1 (K 9 0)) 50 = up2 (up2 K 9 0 x) 9 0 (K 9 0) := by rw [vM_up (j := 9) (p := 0) (by omega) (by decide) (by rfl), hMt]
            refine gx_iload C dX4_best_127 (by rfl) ?_
            exact gx_iret C hr hlk rfl (fim_try hR (by have q9 := hM9; rwa [up2_bk] at q9) ((hFt).up (by decide)) (by have q1 : i = 3 := (by omega); subst q1; first | (simp only [opBest, ck, ct, bey, sta] <;> grind) | (simp only [opBest, ct, bey, sta] <;> grind))) dX4_best_129
          ·
            have h8 := (not_congr (nI_leI (a := 3) (b := i) (by omega) (by omega))).mp h8
            refine gx_aload_n C dX4_best_48 (by rfl) (by rfl) ?_
            refine gx_getr (j := 50) (k := 0) C ck4 (by rfl) (by rfl) (by decide) fl_X4_9 dX4_best_49 ?_
            refine gx_iconst (v := 1) C dX4_best_52 (by decide) ?_
            refine gx_iload C dX4_best_53 (by rfl) ?_
            refine gx_iastN (k := 1) C (by rfl) (by rfl) (by decide) (by decide) dX4_best_55 ?_
            have hM10 : vM (up2 τ 50 1 (nI i)) 50 = up2 (up2 K 9 0 x) 9 0 (nI i) := by rw [vM_up (j := 9) (p := 0) (by omega) (by decide) (by rfl), hMt]
            have hM11 : vM (up2 τ 50 1 (nI i)) 50 = up2 K 9 0 (nI i) := by rw [hM10, up2_2]
            have hO11 : Ok (up2 K 9 0 (nI i)) := hO.laws (by omega) (fun _ => nI_rg (n := 2) (by omega) (by omega))
            have hnv11 : nn (up2 K 9 0 (nI i)) = nn K := nn_up (Or.inl (by decide))
            refine gx_aload_n C dX4_best_56 (by rfl) (by rfl) ?_
            refine gx_iload_n C dX4_best_57 (by rfl) (by rfl) ?_
            refine gx_iconst (v := 4) C dX4_best_58 (by decide) ?_
            refine gx_iload_n C dX4_best_59 (by rfl) (by rfl) ?_
            refine gx_iadd C dX4_best_60 ?_
            refine gx_st (st' := [.int (nI (4 + k)), .int (nI t), .ref (eA E 49)]) (by rw [show 4 + (nI k) = nI (4 + k) from nI_add 4 k]) ?_
            refine gx_callVI (As := [.int (nI t), .int (nI (4 + k))]) (rest := []) C (k_X4_behind_q E (up2 τ 50 1 (nI i)) (up2 K 9 0 (nI i)) hM11 hO11 t (by omega) k (by omega)) z_X4_behind ck4 (by rfl) (by rfl) ml_X4_172 (by rfl) (Nat.le_of_ble_eq_true rfl) ⟨Nat.le_of_ble_eq_true rfl, Nat.le_of_ble_eq_true rfl⟩ dX4_best_61 (fun r14 σ14 w14 => ?_)
            obtain ⟨er14, hM14, hF14⟩ := w14
            refine gx_st (st' := [.int (mos t (up2 K 9 0 (nI i)) 2 k)]) (by rw [er14]) ?_
            refine gx_istore (lv2 := [(8, .int (mos t (up2 K 9 0 (nI i)) 2 k)), (0, .ref (eA E 49)), (1, .int (nI k)), (2, .int (nI t)), (3, .int 0), (4, .int (K 9 0)), (5, .int ((bsF K k t i).1)), (6, .int ((bsF K k t i).2)), (7, .int (nI i))]) C dX4_best_64 (by decide) rfl ?_
            refine gx_iload C dX4_best_66 (by rfl) ?_
            refine gx_iconst (v := (-1)) C dX4_best_68 (by decide) ?_
            refine gx_icmp_ne (tgt := 77) C dX4_best_69 (by decide) (fun h15 => ?_) (fun h15 => ?_)
            ·
              refine gx_iload C dX4_best_77 (by rfl) ?_
              refine gx_istore (lv2 := [(9, .int (mos t (up2 K 9 0 (nI i)) 2 k)), (8, .int (mos t (up2 K 9 0 (nI i)) 2 k)), (0, .ref (eA E 49)), (1, .int (nI k)), (2, .int (nI t)), (3, .int 0), (4, .int (K 9 0)), (5, .int ((bsF K k t i).1)), (6, .int ((bsF K k t i).2)), (7, .int (nI i))]) C dX4_best_79 (by decide) rfl ?_
              refine gx_iload C dX4_best_81 (by rfl) ?_
              refine gx_iload C dX4_best_83 (by rfl) ?_
              refine gx_icmp_ge (tgt := 93) C dX4_best_85 (by decide) (fun h16 => ?_) (fun h16 => ?_)
              ·
                have gh16 := Int32.not_lt.mpr h16
                refine gx_iload C dX4_best_93 (by rfl) ?_
                refine gx_istore (lv2 := [(5, .int ((bsF K k t i).1)), (9, .int (mos t (up2 K 9 0 (nI i)) 2 k)), (8, .int (mos t (up2 K 9 0 (nI i)) 2 k)), (0, .ref (eA E 49)), (1, .int (nI k)), (2, .int (nI t)), (3, .int 0), (4, .int (K 9 0)), (6, .int ((bsF K k t i).2)), (7, .int (nI i))]) C dX4_best_95 (by decide) rfl ?_
                refine gx_iload C dX4_best_97 (by rfl) ?_
                refine gx_iload C dX4_best_99 (by rfl) ?_
                refine gx_icmp_ge (tgt := 109) C dX4_best_101 (by decide) (fun h17 => ?_) (fun h17 => ?_)
                ·
                  have gh17 := Int32.not_lt.mpr h17
                  refine gx_iload C dX4_best_109 (by rfl) ?_
                  refine gx_istore (lv2 := [(6, .int ((bsF K k t i).2)), (5, .int ((bsF K k t i).1)), (9, .int (mos t (up2 K 9 0 (nI i)) 2 k)), (8, .int (mos t (up2 K 9 0 (nI i)) 2 k)), (0, .ref (eA E 49)), (1, .int (nI k)), (2, .int (nI t)), (3, .int 0), (4, .int (K 9 0)), (7, .int (nI i))]) C dX4_best_111 (by decide) rfl ?_
                  refine gx_iinc (v := nI (i + 1)) (lv2 := [(7, .int (nI (i + 1))), (6, .int ((bsF K k t i).2)), (5, .int ((bsF K k t i).1)), (9, .int (mos t (up2 K 9 0 (nI i)) 2 k)), (8, .int (mos t (up2 K 9 0 (nI i)) 2 k)), (0, .ref (eA E 49)), (1, .int (nI k)), (2, .int (nI t)), (3, .int 0), (4, .int (K 9 0))]) C dX4_best_113 (by rfl) (by exact nI_p1 _) (by decide) rfl ?_
                  refine gx_goto (tgt := 42) C dX4_best_116 (by decide) ?_
                  refine gx_sub [5, 6, 7, 8, 9, 2, 1, 0] (lv' := [(0, .ref (eA E 49)), (1, .int (nI k)), (2, .int (nI t)), (3, .int 0), (4, .int (K 9 0)), (5, .int ((bsF K k t i).1)), (6, .int ((bsF K k t i).2)), (7, .int (nI (i + 1)))]) rfl ?_
                  refine gx_lv (lv' := [(0, .ref (eA E 49)), (1, .int (nI k)), (2, .int (nI t)), (3, .int 0), (4, .int (K 9 0)), (5, .int ((bsF K k t (i + 1)).1)), (6, .int ((bsF K k t (i + 1)).2)), (7, .int (nI (i + 1)))]) (by simp only [bsF, sd]; grind) ?_
                  exact ih42 (i + 1) (by omega) (by omega) σ14 (⟨_, hM14⟩) (((hFt).up (by decide)).f2 hF14)
                ·
                  have gh17 := Int32.not_le.mp h17
                  refine gx_iload C dX4_best_104 (by rfl) ?_
                  refine gx_goto (tgt := 111) C dX4_best_106 (by decide) ?_
                  refine gx_istore (lv2 := [(6, .int (mos t (up2 K 9 0 (nI i)) 2 k)), (5, .int ((bsF K k t i).1)), (9, .int (mos t (up2 K 9 0 (nI i)) 2 k)), (8, .int (mos t (up2 K 9 0 (nI i)) 2 k)), (0, .ref (eA E 49)), (1, .int (nI k)), (2, .int (nI t)), (3, .int 0), (4, .int (K 9 0)), (7, .int (nI i))]) C dX4_best_111 (by decide) rfl ?_
                  refine gx_iinc (v := nI (i + 1)) (lv2 := [(7, .int (nI (i + 1))), (6, .int (mos t (up2 K 9 0 (nI i)) 2 k)), (5, .int ((bsF K k t i).1)), (9, .int (mos t (up2 K 9 0 (nI i)) 2 k)), (8, .int (mos t (up2 K 9 0 (nI i)) 2 k)), (0, .ref (eA E 49)), (1, .int (nI k)), (2, .int (nI t)), (3, .int 0), (4, .int (K 9 0))]) C dX4_best_113 (by rfl) (by exact nI_p1 _) (by decide) rfl ?_
                  refine gx_goto (tgt := 42) C dX4_best_116 (by decide) ?_
                  refine gx_sub [5, 6, 7, 8, 9, 2, 1, 0] (lv' := [(0, .ref (eA E 49)), (1, .int (nI k)), (2, .int (nI t)), (3, .int 0), (4, .int (K 9 0)), (5, .int ((bsF K k t i).1)), (6, .int (mos t (up2 K 9 0 (nI i)) 2 k)), (7, .int (nI (i + 1)))]) rfl ?_
                  refine gx_lv (lv' := [(0, .ref (eA E 49)), (1, .int (nI k)), (2, .int (nI t)), (3, .int 0), (4, .int (K 9 0)), (5, .int ((bsF K k t (i + 1)).1)), (6, .int ((bsF K k t (i + 1)).2)), (7, .int (nI (i + 1)))]) (by simp only [bsF, sd]; grind) ?_
                  exact ih42 (i + 1) (by omega) (by omega) σ14 (⟨_, hM14⟩) (((hFt).up (by decide)).f2 hF14)
              ·
                have gh16 := Int32.not_le.mp h16
                refine gx_iload C dX4_best_88 (by rfl) ?_
                refine gx_goto (tgt := 95) C dX4_best_90 (by decide) ?_
                refine gx_istore (lv2 := [(5, .int (nI i)), (9, .int (mos t (up2 K 9 0 (nI i)) 2 k)), (8, .int (mos t (up2 K 9 0 (nI i)) 2 k)), (0, .ref (eA E 49)), (1, .int (nI k)), (2, .int (nI t)), (3, .int 0), (4, .int (K 9 0)), (6, .int ((bsF K k t i).2)), (7, .int (nI i))]) C dX4_best_95 (by decide) rfl ?_
                refine gx_iload C dX4_best_97 (by rfl) ?_
                refine gx_iload C dX4_best_99 (by rfl) ?_
                refine gx_icmp_ge (tgt := 109) C dX4_best_101 (by decide) (fun h18 => ?_) (fun h18 => ?_)
                ·
                  have gh18 := Int32.not_lt.mpr h18
                  refine gx_iload C dX4_best_109 (by rfl) ?_
                  refine gx_istore (lv2 := [(6, .int ((bsF K k t i).2)), (5, .int (nI i)), (9, .int (mos t (up2 K 9 0 (nI i)) 2 k)), (8, .int (mos t (up2 K 9 0 (nI i)) 2 k)), (0, .ref (eA E 49)), (1, .int (nI k)), (2, .int (nI t)), (3, .int 0), (4, .int (K 9 0)), (7, .int (nI i))]) C dX4_best_111 (by decide) rfl ?_
                  refine gx_iinc (v := nI (i + 1)) (lv2 := [(7, .int (nI (i + 1))), (6, .int ((bsF K k t i).2)), (5, .int (nI i)), (9, .int (mos t (up2 K 9 0 (nI i)) 2 k)), (8, .int (mos t (up2 K 9 0 (nI i)) 2 k)), (0, .ref (eA E 49)), (1, .int (nI k)), (2, .int (nI t)), (3, .int 0), (4, .int (K 9 0))]) C dX4_best_113 (by rfl) (by exact nI_p1 _) (by decide) rfl ?_
                  refine gx_goto (tgt := 42) C dX4_best_116 (by decide) ?_
                  refine gx_sub [5, 6, 7, 8, 9, 2, 1, 0] (lv' := [(0, .ref (eA E 49)), (1, .int (nI k)), (2, .int (nI t)), (3, .int 0), (4, .int (K 9 0)), (5, .int (nI i)), (6, .int ((bsF K k t i).2)), (7, .int (nI (i + 1)))]) rfl ?_
                  refine gx_lv (lv' := [(0, .ref (eA E 49)), (1, .int (nI k)), (2, .int (nI t)), (3, .int 0), (4, .int (K 9 0)), (5, .int ((bsF K k t (i + 1)).1)), (6, .int ((bsF K k t (i + 1)).2)), (7, .int (nI (i + 1)))]) (by simp only [bsF, sd]; grind) ?_
                  exact ih42 (i + 1) (by omega) (by omega) σ14 (⟨_, hM14⟩) (((hFt).up (by decide)).f2 hF14)
                ·
                  have gh18 := Int32.not_le.mp h18
                  refine gx_iload C dX4_best_104 (by rfl) ?_
                  refine gx_goto (tgt := 111) C dX4_best_106 (by decide) ?_
                  refine gx_istore (lv2 := [(6, .int (mos t (up2 K 9 0 (nI i)) 2 k)), (5, .int (nI i)), (9, .int (mos t (up2 K 9 0 (nI i)) 2 k)), (8, .int (mos t (up2 K 9 0 (nI i)) 2 k)), (0, .ref (eA E 49)), (1, .int (nI k)), (2, .int (nI t)), (3, .int 0), (4, .int (K 9 0)), (7, .int (nI i))]) C dX4_best_111 (by decide) rfl ?_
                  refine gx_iinc (v := nI (i + 1)) (lv2 := [(7, .int (nI (i + 1))), (6, .int (mos t (up2 K 9 0 (nI i)) 2 k)), (5, .int (nI i)), (9, .int (mos t (up2 K 9 0 (nI i)) 2 k)), (8, .int (mos t (up2 K 9 0 (nI i)) 2 k)), (0, .ref (eA E 49)), (1, .int (nI k)), (2, .int (nI t)), (3, .int 0), (4, .int (K 9 0))]) C dX4_best_113 (by rfl) (by exact nI_p1 _) (by decide) rfl ?_
                  refine gx_goto (tgt := 42) C dX4_best_116 (by decide) ?_
                  refine gx_sub [5, 6, 7, 8, 9, 2, 1, 0] (lv' := [(0, .ref (eA E 49)), (1, .int (nI k)), (2, .int (nI t)), (3, .int 0), (4, .int (K 9 0)), (5, .int (nI i)), (6, .int (mos t (up2 K 9 0 (nI i)) 2 k)), (7, .int (nI (i + 1)))]) rfl ?_
                  refine gx_lv (lv' := [(0, .ref (eA E 49)), (1, .int (nI k)), (2, .int (nI t)), (3, .int 0), (4, .int (K 9 0)), (5, .int ((bsF K k t (i + 1)).1)), (6, .int ((bsF K k t (i + 1)).2)), (7, .int (nI (i + 1)))]) (by simp only [bsF, sd]; grind) ?_
                  exact ih42 (i + 1) (by omega) (by omega) σ14 (⟨_, hM14⟩) (((hFt).up (by decide)).f2 hF14)
            ·
              refine gx_bipush (v := 8) C dX4_best_72 (by decide) ?_
              refine gx_goto (tgt := 79) C dX4_best_74 (by decide) ?_
              refine gx_istore (lv2 := [(9, .int 8), (8, .int (mos t (up2 K 9 0 (nI i)) 2 k)), (0, .ref (eA E 49)), (1, .int (nI k)), (2, .int (nI t)), (3, .int 0), (4, .int (K 9 0)), (5, .int ((bsF K k t i).1)), (6, .int ((bsF K k t i).2)), (7, .int (nI i))]) C dX4_best_79 (by decide) rfl ?_
              refine gx_iload C dX4_best_81 (by rfl) ?_
              refine gx_iload C dX4_best_83 (by rfl) ?_
              refine gx_icmp_ge (tgt := 93) C dX4_best_85 (by decide) (fun h19 => ?_) (fun h19 => ?_)
              ·
                have gh19 := Int32.not_lt.mpr h19
                refine gx_iload C dX4_best_93 (by rfl) ?_
                refine gx_istore (lv2 := [(5, .int ((bsF K k t i).1)), (9, .int 8), (8, .int (mos t (up2 K 9 0 (nI i)) 2 k)), (0, .ref (eA E 49)), (1, .int (nI k)), (2, .int (nI t)), (3, .int 0), (4, .int (K 9 0)), (6, .int ((bsF K k t i).2)), (7, .int (nI i))]) C dX4_best_95 (by decide) rfl ?_
                refine gx_iload C dX4_best_97 (by rfl) ?_
                refine gx_iload C dX4_best_99 (by rfl) ?_
                refine gx_icmp_ge (tgt := 109) C dX4_best_101 (by decide) (fun h20 => ?_) (fun h20 => ?_)
                ·
                  have gh20 := Int32.not_lt.mpr h20
                  refine gx_iload C dX4_best_109 (by rfl) ?_
                  refine gx_istore (lv2 := [(6, .int ((bsF K k t i).2)), (5, .int ((bsF K k t i).1)), (9, .int 8), (8, .int (mos t (up2 K 9 0 (nI i)) 2 k)), (0, .ref (eA E 49)), (1, .int (nI k)), (2, .int (nI t)), (3, .int 0), (4, .int (K 9 0)), (7, .int (nI i))]) C dX4_best_111 (by decide) rfl ?_
                  refine gx_iinc (v := nI (i + 1)) (lv2 := [(7, .int (nI (i + 1))), (6, .int ((bsF K k t i).2)), (5, .int ((bsF K k t i).1)), (9, .int 8), (8, .int (mos t (up2 K 9 0 (nI i)) 2 k)), (0, .ref (eA E 49)), (1, .int (nI k)), (2, .int (nI t)), (3, .int 0), (4, .int (K 9 0))]) C dX4_best_113 (by rfl) (by exact nI_p1 _) (by decide) rfl ?_
                  refine gx_goto (tgt := 42) C dX4_best_116 (by decide) ?_
                  refine gx_sub [5, 6, 7, 8, 9, 2, 1, 0] (lv' := [(0, .ref (eA E 49)), (1, .int (nI k)), (2, .int (nI t)), (3, .int 0), (4, .int (K 9 0)), (5, .int ((bsF K k t i).1)), (6, .int ((bsF K k t i).2)), (7, .int (nI (i + 1)))]) rfl ?_
                  refine gx_lv (lv' := [(0, .ref (eA E 49)), (1, .int (nI k)), (2, .int (nI t)), (3, .int 0), (4, .int (K 9 0)), (5, .int ((bsF K k t (i + 1)).1)), (6, .int ((bsF K k t (i + 1)).2)), (7, .int (nI (i + 1)))]) (by simp only [bsF, sd]; grind) ?_
                  exact ih42 (i + 1) (by omega) (by omega) σ14 (⟨_, hM14⟩) (((hFt).up (by decide)).f2 hF14)
                ·
                  have gh20 := Int32.not_le.mp h20
                  refine gx_iload C dX4_best_104 (by rfl) ?_
                  refine gx_goto (tgt := 111) C dX4_best_106 (by decide) ?_
                  refine gx_istore (lv2 := [(6, .int 8), (5, .int ((bsF K k t i).1)), (9, .int 8), (8, .int (mos t (up2 K 9 0 (nI i)) 2 k)), (0, .ref (eA E 49)), (1, .int (nI k)), (2, .int (nI t)), (3, .int 0), (4, .int (K 9 0)), (7, .int (nI i))]) C dX4_best_111 (by decide) rfl ?_
                  refine gx_iinc (v := nI (i + 1)) (lv2 := [(7, .int (nI (i + 1))), (6, .int 8), (5, .int ((bsF K k t i).1)), (9, .int 8), (8, .int (mos t (up2 K 9 0 (nI i)) 2 k)), (0, .ref (eA E 49)), (1, .int (nI k)), (2, .int (nI t)), (3, .int 0), (4, .int (K 9 0))]) C dX4_best_113 (by rfl) (by exact nI_p1 _) (by decide) rfl ?_
                  refine gx_goto (tgt := 42) C dX4_best_116 (by decide) ?_
                  refine gx_sub [5, 6, 7, 8, 9, 2, 1, 0] (lv' := [(0, .ref (eA E 49)), (1, .int (nI k)), (2, .int (nI t)), (3, .int 0), (4, .int (K 9 0)), (5, .int ((bsF K k t i).1)), (6, .int 8), (7, .int (nI (i + 1)))]) rfl ?_
                  refine gx_lv (lv' := [(0, .ref (eA E 49)), (1, .int (nI k)), (2, .int (nI t)), (3, .int 0), (4, .int (K 9 0)), (5, .int ((bsF K k t (i + 1)).1)), (6, .int ((bsF K k t (i + 1)).2)), (7, .int (nI (i + 1)))]) (by simp only [bsF, sd]; grind) ?_
                  exact ih42 (i + 1) (by omega) (by omega) σ14 (⟨_, hM14⟩) (((hFt).up (by decide)).f2 hF14)
              ·
                have gh19 := Int32.not_le.mp h19
                refine gx_iload C dX4_best_88 (by rfl) ?_
                refine gx_goto (tgt := 95) C dX4_best_90 (by decide) ?_
                refine gx_istore (lv2 := [(5, .int (nI i)), (9, .int 8), (8, .int (mos t (up2 K 9 0 (nI i)) 2 k)), (0, .ref (eA E 49)), (1, .int (nI k)), (2, .int (nI t)), (3, .int 0), (4, .int (K 9 0)), (6, .int ((bsF K k t i).2)), (7, .int (nI i))]) C dX4_best_95 (by decide) rfl ?_
                refine gx_iload C dX4_best_97 (by rfl) ?_
                refine gx_iload C dX4_best_99 (by rfl) ?_
                refine gx_icmp_ge (tgt := 109) C dX4_best_101 (by decide) (fun h21 => ?_) (fun h21 => ?_)
                ·
                  have gh21 := Int32.not_lt.mpr h21
                  refine gx_iload C dX4_best_109 (by rfl) ?_
                  refine gx_istore (lv2 := [(6, .int ((bsF K k t i).2)), (5, .int (nI i)), (9, .int 8), (8, .int (mos t (up2 K 9 0 (nI i)) 2 k)), (0, .ref (eA E 49)), (1, .int (nI k)), (2, .int (nI t)), (3, .int 0), (4, .int (K 9 0)), (7, .int (nI i))]) C dX4_best_111 (by decide) rfl ?_
                  refine gx_iinc (v := nI (i + 1)) (lv2 := [(7, .int (nI (i + 1))), (6, .int ((bsF K k t i).2)), (5, .int (nI i)), (9, .int 8), (8, .int (mos t (up2 K 9 0 (nI i)) 2 k)), (0, .ref (eA E 49)), (1, .int (nI k)), (2, .int (nI t)), (3, .int 0), (4, .int (K 9 0))]) C dX4_best_113 (by rfl) (by exact nI_p1 _) (by decide) rfl ?_
                  refine gx_goto (tgt := 42) C dX4_best_116 (by decide) ?_
                  refine gx_sub [5, 6, 7, 8, 9, 2, 1, 0] (lv' := [(0, .ref (eA E 49)), (1, .int (nI k)), (2, .int (nI t)), (3, .int 0), (4, .int (K 9 0)), (5, .int (nI i)), (6, .int ((bsF K k t i).2)), (7, .int (nI (i + 1)))]) rfl ?_
                  refine gx_lv (lv' := [(0, .ref (eA E 49)), (1, .int (nI k)), (2, .int (nI t)), (3, .int 0), (4, .int (K 9 0)), (5, .int ((bsF K k t (i + 1)).1)), (6, .int ((bsF K k t (i + 1)).2)), (7, .int (nI (i + 1)))]) (by simp only [bsF, sd]; grind) ?_
                  exact ih42 (i + 1) (by omega) (by omega) σ14 (⟨_, hM14⟩) (((hFt).up (by decide)).f2 hF14)
                ·
                  have gh21 := Int32.not_le.mp h21
                  refine gx_iload C dX4_best_104 (by rfl) ?_
                  refine gx_goto (tgt := 111) C dX4_best_106 (by decide) ?_
                  refine gx_istore (lv2 := [(6, .int 8), (5, .int (nI i)), (9, .int 8), (8, .int (mos t (up2 K 9 0 (nI i)) 2 k)), (0, .ref (eA E 49)), (1, .int (nI k)), (2, .int (nI t)), (3, .int 0), (4, .int (K 9 0)), (7, .int (nI i))]) C dX4_best_111 (by decide) rfl ?_
                  refine gx_iinc (v := nI (i + 1)) (lv2 := [(7, .int (nI (i + 1))), (6, .int 8), (5, .int (nI i)), (9, .int 8), (8, .int (mos t (up2 K 9 0 (nI i)) 2 k)), (0, .ref (eA E 49)), (1, .int (nI k)), (2, .int (nI t)), (3, .int 0), (4, .int (K 9 0))]) C dX4_best_113 (by rfl) (by exact nI_p1 _) (by decide) rfl ?_
                  refine gx_goto (tgt := 42) C dX4_best_116 (by decide) ?_
                  refine gx_sub [5, 6, 7, 8, 9, 2, 1, 0] (lv' := [(0, .ref (eA E 49)), (1, .int (nI k)), (2, .int (nI t)), (3, .int 0), (4, .int (K 9 0)), (5, .int (nI i)), (6, .int 8), (7, .int (nI (i + 1)))]) rfl ?_
                  refine gx_lv (lv' := [(0, .ref (eA E 49)), (1, .int (nI k)), (2, .int (nI t)), (3, .int 0), (4, .int (K 9 0)), (5, .int ((bsF K k t (i + 1)).1)), (6, .int ((bsF K k t (i + 1)).2)), (7, .int (nI (i + 1)))]) (by simp only [bsF, sd]; grind) ?_
                  exact ih42 (i + 1) (by omega) (by omega) σ14 (⟨_, hM14⟩) (((hFt).up (by decide)).f2 hF14)
      refine gx_sub [5, 6, 7, 4, 3, 2, 1, 0] (lv' := [(0, .ref (eA E 49)), (1, .int (nI k)), (2, .int (nI t)), (3, .int 0), (4, .int (K 9 0)), (5, .int 0), (6, .int 9), (7, .int 0)]) rfl ?_
      refine gx_lv (lv' := [(0, .ref (eA E 49)), (1, .int (nI k)), (2, .int (nI t)), (3, .int 0), (4, .int (K 9 0)), (5, .int ((bsF K k t 0).1)), (6, .int ((bsF K k t 0).2)), (7, .int (nI 0))]) (by rfl) ?_
      exact loop42 (3 + 1) 0 (by omega) (by omega) σ (⟨K 9 0, by rw [up2_same]; exact hM⟩) F3.rf
    ·
      exact absurd h7 (by decide)
set_option maxHeartbeats 4000000 in
set_option maxRecDepth 100000 in
theorem c_X4_kindFor (E : En) (σ : Mm) (K L : Mm) (g : Int32) (F : Nat → Int32) (tl : Int32) (Bt W Z : Nat → Int32) (N : Mm) (hR : MR σ (K, L, g, F, tl, Bt, W, Z, N)) (q n : Int32) : CtI E yX4_kindFor cX4_kindFor 9 (some .int) 8 185 [.ref (eA E 49), .int q, .int n] σ (fun rr σ2 => rr = (opKindFor (K, L, g, F, tl, Bt, W, Z, N) q n).1 ∧ MR σ2 (opKindFor (K, L, g, F, tl, Bt, W, Z, N) q n).2 ∧ FM σ σ2) := by
  obtain ⟨⟨hM, hO⟩, ⟨hg1, hg2, hg3⟩, hFd, ⟨⟨htl, htl2⟩, hBt⟩, hSh⟩ := id hR
  obtain ⟨⟨hn, h12⟩, hpp, hlw, hsp, hz0⟩ := id hO
  refine CtI.of (by decide +kernel) (Nat.le_of_ble_eq_true rfl) (fun p e0 s m below meth c C hr hlk => ?_)
  refine gx_lv (lv' := [(0, .ref (eA E 49)), (1, .int q), (2, .int n)]) rfl ?_
  refine gx_aload_n C dX4_kindFor_0 (by rfl) (by rfl) ?_
  refine gx_iload_n C dX4_kindFor_1 (by rfl) (by rfl) ?_
  refine gx_iconst (v := 1) C dX4_kindFor_2 (by decide) ?_
  refine gx_bipush (v := 60) C dX4_kindFor_3 (by decide) ?_
  refine gx_aload_n C dX4_kindFor_5 (by rfl) (by rfl) ?_
  refine gx_iload_n C dX4_kindFor_6 (by rfl) (by rfl) ?_
  refine gx_callVI (As := [.int q]) (rest := [.int 60, .int 1, .int n, .ref (eA E 49)]) C (c_X4_isPerson E σ K hM hO q) z_X4_isPerson ck4 (by rfl) (by rfl) ml_X4_101 (by rfl) (Nat.le_of_ble_eq_true rfl) ⟨Nat.le_of_ble_eq_true rfl, Nat.le_of_ble_eq_true rfl⟩ dX4_kindFor_7 (fun r1 σ1 w1 => ?_)
  obtain ⟨u1, u2⟩ := w1; rw [u1, u2]; clear u1 u2
  refine gx_callVI (As := [.int n, .int 1, .int 60, .int (b2 (0 ≤ q ∧ q < K 0 0))]) (rest := []) C (c_X4_wrong E σ K hM hO n 1 60 (b2 (0 ≤ q ∧ q < K 0 0))) z_X4_wrong ck4 (by rfl) (by rfl) ml_X4_157 (by rfl) (Nat.le_of_ble_eq_true rfl) ⟨Nat.le_of_ble_eq_true rfl, Nat.le_of_ble_eq_true rfl⟩ dX4_kindFor_10 (fun r2 σ2 w2 => ?_)
  obtain ⟨u1, w2⟩ := w2; rw [u1]; clear u1
  rcases w2 with ⟨c2, u2⟩ | ⟨c2, d2, u2⟩ | ⟨c2, d2, u2⟩
  ·
    rw [u2]; clear u2
    have c2 : ¬ ((0 ≤ q ∧ q < K 0 0) ∧ 1 ≤ n ∧ n ≤ 60) := fun q9 => c2 ⟨b2_nz.mpr q9.1, q9.2⟩
    refine gx_istore_n (lv2 := [(3, .int (-1000001)), (0, .ref (eA E 49)), (1, .int q), (2, .int n)]) C dX4_kindFor_13 (by rfl) (by decide) rfl ?_
    refine gx_iload_n C dX4_kindFor_14 (by rfl) (by rfl) ?_
    refine gx_if_ge (tgt := 24) C dX4_kindFor_15 (by decide) (fun h3 => ?_) (fun h3 => ?_)
    ·
      exact absurd h3 (by decide)
    ·
      clear h3
      refine gx_aload_n C dX4_kindFor_18 (by rfl) (by rfl) ?_
      refine gx_iload_n C dX4_kindFor_19 (by rfl) (by rfl) ?_
      refine gx_callVI (As := [.int (-1000001)]) (rest := []) C (c_X4_finds E σ (-1000001) 0 (by decide) (by decide)) z_X4_finds ck4 (by rfl) (by rfl) ml_X4_39 (by rfl) (Nat.le_of_ble_eq_true rfl) ⟨Nat.le_of_ble_eq_true rfl, Nat.le_of_ble_eq_true rfl⟩ dX4_kindFor_20 (fun r4 σ4 w4 => ?_)
      obtain ⟨u1, u2⟩ := w4; rw [u1, u2]; clear u1 u2
      exact gx_iret C hr hlk rfl (fim_fd hR (by decide) (by simp only [opKindFor, bey, ful, knd, non, sta, mis, siz] <;> grind)) dX4_kindFor_23
  ·
    rw [u2]; clear u2
    have c2 : (0 ≤ q ∧ q < K 0 0) ∧ 1 ≤ n ∧ n ≤ 60 := ⟨b2_nz.mp c2.1, c2.2⟩
    refine gx_istore_n (lv2 := [(3, .int (-1000005)), (0, .ref (eA E 49)), (1, .int q), (2, .int n)]) C dX4_kindFor_13 (by rfl) (by decide) rfl ?_
    refine gx_iload_n C dX4_kindFor_14 (by rfl) (by rfl) ?_
    refine gx_if_ge (tgt := 24) C dX4_kindFor_15 (by decide) (fun h5 => ?_) (fun h5 => ?_)
    ·
      exact absurd h5 (by decide)
    ·
      clear h5
      refine gx_aload_n C dX4_kindFor_18 (by rfl) (by rfl) ?_
      refine gx_iload_n C dX4_kindFor_19 (by rfl) (by rfl) ?_
      refine gx_callVI (As := [.int (-1000005)]) (rest := []) C (c_X4_finds E σ (-1000005) 4 (by decide) (by decide)) z_X4_finds ck4 (by rfl) (by rfl) ml_X4_39 (by rfl) (Nat.le_of_ble_eq_true rfl) ⟨Nat.le_of_ble_eq_true rfl, Nat.le_of_ble_eq_true rfl⟩ dX4_kindFor_20 (fun r6 σ6 w6 => ?_)
      obtain ⟨u1, u2⟩ := w6; rw [u1, u2]; clear u1 u2
      exact gx_iret C hr hlk rfl (fim_fd hR (by decide) (by simp only [opKindFor, bey, ful, knd, non, sta, mis, siz] <;> grind)) dX4_kindFor_23
  ·
    rw [u2]; clear u2
    have c2 : (0 ≤ q ∧ q < K 0 0) ∧ 1 ≤ n ∧ n ≤ 60 := ⟨b2_nz.mp c2.1, c2.2⟩
    obtain ⟨k, hk, rfl⟩ := has_nat hO c2.1
    have ck : (nI k).toNatClampNeg = k := nI_clamp (by omega)
    obtain ⟨t, ht, rfl⟩ := i_nat (M := 60) (n := 60) (by decide) ⟨Int32.le_trans (by decide) c2.2.1, c2.2.2⟩
    have ct : (nI t).toNatClampNeg = t := nI_clamp (by omega)
    refine gx_istore_n (lv2 := [(3, .int 0), (0, .ref (eA E 49)), (1, .int (nI k)), (2, .int (nI t))]) C dX4_kindFor_13 (by rfl) (by decide) rfl ?_
    refine gx_iload_n C dX4_kindFor_14 (by rfl) (by rfl) ?_
    refine gx_if_ge (tgt := 24) C dX4_kindFor_15 (by decide) (fun h7 => ?_) (fun h7 => ?_)
    ·
      clear h7
      refine gx_aload_n C dX4_kindFor_24 (by rfl) (by rfl) ?_
      refine gx_iload_n C dX4_kindFor_25 (by rfl) (by rfl) ?_
      refine gx_iconst (v := 0) C dX4_kindFor_26 (by decide) ?_
      refine gx_callVI (As := [.int (nI k), .int 0]) (rest := []) C (c_X4_is E σ k (by omega) 0 (by omega)) z_X4_is ck4 (by rfl) (by rfl) ml_X4_51 (by rfl) (Nat.le_of_ble_eq_true rfl) ⟨Nat.le_of_ble_eq_true rfl, Nat.le_of_ble_eq_true rfl⟩ dX4_kindFor_27 (fun r8 σ8 w8 => ?_)
      obtain ⟨u1, u2⟩ := w8; rw [u1, u2]; clear u1 u2
      refine gx_st (st' := [.int (K 1 k)]) (by rw [mp_1 hM (p := k) (by omega)]) ?_
      refine gx_istore (lv2 := [(4, .int (K 1 k)), (3, .int 0), (0, .ref (eA E 49)), (1, .int (nI k)), (2, .int (nI t))]) C dX4_kindFor_30 (by decide) rfl ?_
      refine gx_iconst (v := 0) C dX4_kindFor_32 (by decide) ?_
      refine gx_istore (lv2 := [(5, .int 0), (4, .int (K 1 k)), (3, .int 0), (0, .ref (eA E 49)), (1, .int (nI k)), (2, .int (nI t))]) C dX4_kindFor_33 (by decide) rfl ?_
      refine gx_iconst (v := (-1)) C dX4_kindFor_35 (by decide) ?_
      refine gx_istore (lv2 := [(6, .int (-1)), (5, .int 0), (4, .int (K 1 k)), (3, .int 0), (0, .ref (eA E 49)), (1, .int (nI k)), (2, .int (nI t))]) C dX4_kindFor_36 (by decide) rfl ?_
      refine gx_iconst (v := 0) C dX4_kindFor_38 (by decide) ?_
      refine gx_istore (lv2 := [(7, .int 0), (6, .int (-1)), (5, .int 0), (4, .int (K 1 k)), (3, .int 0), (0, .ref (eA E 49)), (1, .int (nI k)), (2, .int (nI t))]) C dX4_kindFor_39 (by decide) rfl ?_
      have loop41 : ∀ (kf i : Nat), i ≤ 7 → 7 < i + kf → ∀ τ : Mm, (∃ x, vM τ 50 = up2 K 1 k x) → (F3 σ τ) → Gx E p e0 (rmF 8 185) s m ([.ref (eA E 49), .int (nI k), .int (nI t)] : List Value).toArray below meth c (MQ below (va_Qi (fun rr σ2 => rr = (opKindFor (K, L, g, F, tl, Bt, W, Z, N) (nI k) (nI t)).1 ∧ MR σ2 (opKindFor (K, L, g, F, tl, Bt, W, Z, N) (nI k) (nI t)).2 ∧ FM σ σ2) (WQ E) (AA E s.heap.size)) ([.ref (eA E 49), .int (nI k), .int (nI t)] : List Value).toArray s 0 0 (AA E s.heap.size)) 9 41 [(0, .ref (eA E 49)), (1, .int (nI k)), (2, .int (nI t)), (3, .int 0), (4, .int (K 1 k)), (5, .int ((kfF K k t i).1)), (6, .int ((kfF K k t i).2)), (7, .int (nI i))] [] τ := by
        intro kf
        induction kf with
        | zero => intro i q1 q2; exact absurd q2 (by omega)
        | succ kf ih41 =>
          intro i a41 b41 τ hMt0 hFt
          obtain ⟨x, hMt⟩ := hMt0
          refine gx_iload C dX4_kindFor_41 (by rfl) ?_
          refine gx_bipush (v := 6) C dX4_kindFor_43 (by decide) ?_
          refine gx_icmp_gt (tgt := 102) C dX4_kindFor_45 (by decide) (fun h9 => ?_) (fun h9 => ?_)
          ·
            have h9 := (nI_ltI (a := 6) (b := i) (by omega) (by omega)).mp h9
            refine gx_aload_n C dX4_kindFor_102 (by rfl) (by rfl) ?_
            refine gx_iload_n C dX4_kindFor_103 (by rfl) (by rfl) ?_
            refine gx_iconst (v := 0) C dX4_kindFor_104 (by decide) ?_
            refine gx_iload C dX4_kindFor_105 (by rfl) ?_
            refine gx_callVV (As := [.int (nI k), .int 0, .int (K 1 k)]) (rest := []) C (c_X4_makes E τ k (by omega) 0 (by omega) (K 1 k)) z_X4_makes ck4 (by rfl) (by rfl) ml_X4_87 (by rfl) (Nat.le_of_ble_eq_true rfl) ⟨Nat.le_of_ble_eq_true rfl, Nat.le_of_ble_eq_true rfl⟩ dX4_kindFor_107 (fun σ11 w11 => ?_)
            rw [w11]; clear w11
            have hM10 : vM (up2 τ 50 (15 + 7 * k + 0) (K 1 k)) 50 = up2 (up2 K 1 k x) 1 k (K 1 k) := by rw [vM_mk (by omega) (by omega), hMt]
            refine gx_iload C dX4_kindFor_110 (by rfl) ?_
            exact gx_iret C hr hlk rfl (fim_try hR (by have q9 := hM10; rwa [up2_bk] at q9) ((hFt).up (by decide)) (by have q1 : i = 7 := (by omega); subst q1; first | (simp only [opKindFor, ck, ct, bey, sta] <;> grind) | (simp only [opKindFor, ct, bey, sta] <;> grind))) dX4_kindFor_112
          ·
            have h9 := (not_congr (nI_ltI (a := 6) (b := i) (by omega) (by omega))).mp h9
            refine gx_aload_n C dX4_kindFor_48 (by rfl) (by rfl) ?_
            refine gx_iload_n C dX4_kindFor_49 (by rfl) (by rfl) ?_
            refine gx_iconst (v := 0) C dX4_kindFor_50 (by decide) ?_
            refine gx_iload C dX4_kindFor_51 (by rfl) ?_
            refine gx_callVV (As := [.int (nI k), .int 0, .int (nI i)]) (rest := []) C (c_X4_makes E τ k (by omega) 0 (by omega) (nI i)) z_X4_makes ck4 (by rfl) (by rfl) ml_X4_87 (by rfl) (Nat.le_of_ble_eq_true rfl) ⟨Nat.le_of_ble_eq_true rfl, Nat.le_of_ble_eq_true rfl⟩ dX4_kindFor_53 (fun σ15 w15 => ?_)
            rw [w15]; clear w15
            have hM14 : vM (up2 τ 50 (15 + 7 * k + 0) (nI i)) 50 = up2 (up2 K 1 k x) 1 k (nI i) := by rw [vM_mk (by omega) (by omega), hMt]
            have hM16 : vM (up2 τ 50 (15 + 7 * k + 0) (nI i)) 50 = up2 K 1 k (nI i) := by rw [hM14, up2_2]
            have hO16 : Ok (up2 K 1 k (nI i)) := hO.kind (by omega) (nI_rg (n := 6) (by omega) (by omega))
            have hnv16 : nn (up2 K 1 k (nI i)) = nn K := nn_up (Or.inl (by decide))
            refine gx_aload_n C dX4_kindFor_56 (by rfl) (by rfl) ?_
            refine gx_iload_n C dX4_kindFor_57 (by rfl) (by rfl) ?_
            refine gx_iload_n C dX4_kindFor_58 (by rfl) (by rfl) ?_
            refine gx_callVI (As := [.int (nI k), .int (nI t)]) (rest := []) C (c_X4_goldBehind E (up2 τ 50 (15 + 7 * k + 0) (nI i)) (up2 K 1 k (nI i)) hM16 hO16 k (by omega) t (by omega)) z_X4_goldBehind ck4 (by rfl) (by rfl) ml_X4_175 (by rfl) (Nat.le_of_ble_eq_true rfl) ⟨Nat.le_of_ble_eq_true rfl, Nat.le_of_ble_eq_true rfl⟩ dX4_kindFor_59 (fun r17 σ17 w17 => ?_)
            obtain ⟨er17, hM17, hF17⟩ := w17
            refine gx_st (st' := [.int (mos t (up2 K 1 k (nI i)) 5 k)]) (by rw [er17]) ?_
            refine gx_istore (lv2 := [(8, .int (mos t (up2 K 1 k (nI i)) 5 k)), (0, .ref (eA E 49)), (1, .int (nI k)), (2, .int (nI t)), (3, .int 0), (4, .int (K 1 k)), (5, .int ((kfF K k t i).1)), (6, .int ((kfF K k t i).2)), (7, .int (nI i))]) C dX4_kindFor_62 (by decide) rfl ?_
            refine gx_iload C dX4_kindFor_64 (by rfl) ?_
            refine gx_iload C dX4_kindFor_66 (by rfl) ?_
            refine gx_icmp_le (tgt := 76) C dX4_kindFor_68 (by decide) (fun h18 => ?_) (fun h18 => ?_)
            ·
              have gh18 := Int32.not_lt.mpr h18
              refine gx_iload C dX4_kindFor_76 (by rfl) ?_
              refine gx_istore (lv2 := [(5, .int ((kfF K k t i).1)), (8, .int (mos t (up2 K 1 k (nI i)) 5 k)), (0, .ref (eA E 49)), (1, .int (nI k)), (2, .int (nI t)), (3, .int 0), (4, .int (K 1 k)), (6, .int ((kfF K k t i).2)), (7, .int (nI i))]) C dX4_kindFor_78 (by decide) rfl ?_
              refine gx_iload C dX4_kindFor_80 (by rfl) ?_
              refine gx_iload C dX4_kindFor_82 (by rfl) ?_
              refine gx_icmp_le (tgt := 92) C dX4_kindFor_84 (by decide) (fun h19 => ?_) (fun h19 => ?_)
              ·
                have gh19 := Int32.not_lt.mpr h19
                refine gx_iload C dX4_kindFor_92 (by rfl) ?_
                refine gx_istore (lv2 := [(6, .int ((kfF K k t i).2)), (5, .int ((kfF K k t i).1)), (8, .int (mos t (up2 K 1 k (nI i)) 5 k)), (0, .ref (eA E 49)), (1, .int (nI k)), (2, .int (nI t)), (3, .int 0), (4, .int (K 1 k)), (7, .int (nI i))]) C dX4_kindFor_94 (by decide) rfl ?_
                refine gx_iinc (v := nI (i + 1)) (lv2 := [(7, .int (nI (i + 1))), (6, .int ((kfF K k t i).2)), (5, .int ((kfF K k t i).1)), (8, .int (mos t (up2 K 1 k (nI i)) 5 k)), (0, .ref (eA E 49)), (1, .int (nI k)), (2, .int (nI t)), (3, .int 0), (4, .int (K 1 k))]) C dX4_kindFor_96 (by rfl) (by exact nI_p1 _) (by decide) rfl ?_
                refine gx_goto (tgt := 41) C dX4_kindFor_99 (by decide) ?_
                refine gx_sub [4, 5, 6, 7, 8, 2, 1, 0] (lv' := [(0, .ref (eA E 49)), (1, .int (nI k)), (2, .int (nI t)), (3, .int 0), (4, .int (K 1 k)), (5, .int ((kfF K k t i).1)), (6, .int ((kfF K k t i).2)), (7, .int (nI (i + 1)))]) rfl ?_
                refine gx_lv (lv' := [(0, .ref (eA E 49)), (1, .int (nI k)), (2, .int (nI t)), (3, .int 0), (4, .int (K 1 k)), (5, .int ((kfF K k t (i + 1)).1)), (6, .int ((kfF K k t (i + 1)).2)), (7, .int (nI (i + 1)))]) (by simp only [kfF]; grind) ?_
                exact ih41 (i + 1) (by omega) (by omega) σ17 (⟨_, hM17⟩) (((hFt).up (by decide)).f2 hF17)
              ·
                have gh19 := Int32.not_le.mp h19
                refine gx_iload C dX4_kindFor_87 (by rfl) ?_
                refine gx_goto (tgt := 94) C dX4_kindFor_89 (by decide) ?_
                refine gx_istore (lv2 := [(6, .int (mos t (up2 K 1 k (nI i)) 5 k)), (5, .int ((kfF K k t i).1)), (8, .int (mos t (up2 K 1 k (nI i)) 5 k)), (0, .ref (eA E 49)), (1, .int (nI k)), (2, .int (nI t)), (3, .int 0), (4, .int (K 1 k)), (7, .int (nI i))]) C dX4_kindFor_94 (by decide) rfl ?_
                refine gx_iinc (v := nI (i + 1)) (lv2 := [(7, .int (nI (i + 1))), (6, .int (mos t (up2 K 1 k (nI i)) 5 k)), (5, .int ((kfF K k t i).1)), (8, .int (mos t (up2 K 1 k (nI i)) 5 k)), (0, .ref (eA E 49)), (1, .int (nI k)), (2, .int (nI t)), (3, .int 0), (4, .int (K 1 k))]) C dX4_kindFor_96 (by rfl) (by exact nI_p1 _) (by decide) rfl ?_
                refine gx_goto (tgt := 41) C dX4_kindFor_99 (by decide) ?_
                refine gx_sub [4, 5, 6, 7, 8, 2, 1, 0] (lv' := [(0, .ref (eA E 49)), (1, .int (nI k)), (2, .int (nI t)), (3, .int 0), (4, .int (K 1 k)), (5, .int ((kfF K k t i).1)), (6, .int (mos t (up2 K 1 k (nI i)) 5 k)), (7, .int (nI (i + 1)))]) rfl ?_
                refine gx_lv (lv' := [(0, .ref (eA E 49)), (1, .int (nI k)), (2, .int (nI t)), (3, .int 0), (4, .int (K 1 k)), (5, .int ((kfF K k t (i + 1)).1)), (6, .int ((kfF K k t (i + 1)).2)), (7, .int (nI (i + 1)))]) (by simp only [kfF]; grind) ?_
                exact ih41 (i + 1) (by omega) (by omega) σ17 (⟨_, hM17⟩) (((hFt).up (by decide)).f2 hF17)
            ·
              have gh18 := Int32.not_le.mp h18
              refine gx_iload C dX4_kindFor_71 (by rfl) ?_
              refine gx_goto (tgt := 78) C dX4_kindFor_73 (by decide) ?_
              refine gx_istore (lv2 := [(5, .int (nI i)), (8, .int (mos t (up2 K 1 k (nI i)) 5 k)), (0, .ref (eA E 49)), (1, .int (nI k)), (2, .int (nI t)), (3, .int 0), (4, .int (K 1 k)), (6, .int ((kfF K k t i).2)), (7, .int (nI i))]) C dX4_kindFor_78 (by decide) rfl ?_
              refine gx_iload C dX4_kindFor_80 (by rfl) ?_
              refine gx_iload C dX4_kindFor_82 (by rfl) ?_
              refine gx_icmp_le (tgt := 92) C dX4_kindFor_84 (by decide) (fun h20 => ?_) (fun h20 => ?_)
              ·
                have gh20 := Int32.not_lt.mpr h20
                refine gx_iload C dX4_kindFor_92 (by rfl) ?_
                refine gx_istore (lv2 := [(6, .int ((kfF K k t i).2)), (5, .int (nI i)), (8, .int (mos t (up2 K 1 k (nI i)) 5 k)), (0, .ref (eA E 49)), (1, .int (nI k)), (2, .int (nI t)), (3, .int 0), (4, .int (K 1 k)), (7, .int (nI i))]) C dX4_kindFor_94 (by decide) rfl ?_
                refine gx_iinc (v := nI (i + 1)) (lv2 := [(7, .int (nI (i + 1))), (6, .int ((kfF K k t i).2)), (5, .int (nI i)), (8, .int (mos t (up2 K 1 k (nI i)) 5 k)), (0, .ref (eA E 49)), (1, .int (nI k)), (2, .int (nI t)), (3, .int 0), (4, .int (K 1 k))]) C dX4_kindFor_96 (by rfl) (by exact nI_p1 _) (by decide) rfl ?_
                refine gx_goto (tgt := 41) C dX4_kindFor_99 (by decide) ?_
                refine gx_sub [4, 5, 6, 7, 8, 2, 1, 0] (lv' := [(0, .ref (eA E 49)), (1, .int (nI k)), (2, .int (nI t)), (3, .int 0), (4, .int (K 1 k)), (5, .int (nI i)), (6, .int ((kfF K k t i).2)), (7, .int (nI (i + 1)))]) rfl ?_
                refine gx_lv (lv' := [(0, .ref (eA E 49)), (1, .int (nI k)), (2, .int (nI t)), (3, .int 0), (4, .int (K 1 k)), (5, .int ((kfF K k t (i + 1)).1)), (6, .int ((kfF K k t (i + 1)).2)), (7, .int (nI (i + 1)))]) (by simp only [kfF]; grind) ?_
                exact ih41 (i + 1) (by omega) (by omega) σ17 (⟨_, hM17⟩) (((hFt).up (by decide)).f2 hF17)
              ·
                have gh20 := Int32.not_le.mp h20
                refine gx_iload C dX4_kindFor_87 (by rfl) ?_
                refine gx_goto (tgt := 94) C dX4_kindFor_89 (by decide) ?_
                refine gx_istore (lv2 := [(6, .int (mos t (up2 K 1 k (nI i)) 5 k)), (5, .int (nI i)), (8, .int (mos t (up2 K 1 k (nI i)) 5 k)), (0, .ref (eA E 49)), (1, .int (nI k)), (2, .int (nI t)), (3, .int 0), (4, .int (K 1 k)), (7, .int (nI i))]) C dX4_kindFor_94 (by decide) rfl ?_
                refine gx_iinc (v := nI (i + 1)) (lv2 := [(7, .int (nI (i + 1))), (6, .int (mos t (up2 K 1 k (nI i)) 5 k)), (5, .int (nI i)), (8, .int (mos t (up2 K 1 k (nI i)) 5 k)), (0, .ref (eA E 49)), (1, .int (nI k)), (2, .int (nI t)), (3, .int 0), (4, .int (K 1 k))]) C dX4_kindFor_96 (by rfl) (by exact nI_p1 _) (by decide) rfl ?_
                refine gx_goto (tgt := 41) C dX4_kindFor_99 (by decide) ?_
                refine gx_sub [4, 5, 6, 7, 8, 2, 1, 0] (lv' := [(0, .ref (eA E 49)), (1, .int (nI k)), (2, .int (nI t)), (3, .int 0), (4, .int (K 1 k)), (5, .int (nI i)), (6, .int (mos t (up2 K 1 k (nI i)) 5 k)), (7, .int (nI (i + 1)))]) rfl ?_
                refine gx_lv (lv' := [(0, .ref (eA E 49)), (1, .int (nI k)), (2, .int (nI t)), (3, .int 0), (4, .int (K 1 k)), (5, .int ((kfF K k t (i + 1)).1)), (6, .int ((kfF K k t (i + 1)).2)), (7, .int (nI (i + 1)))]) (by simp only [kfF]; grind) ?_
                exact ih41 (i + 1) (by omega) (by omega) σ17 (⟨_, hM17⟩) (((hFt).up (by decide)).f2 hF17)
      refine gx_sub [5, 6, 7, 4, 3, 2, 1, 0] (lv' := [(0, .ref (eA E 49)), (1, .int (nI k)), (2, .int (nI t)), (3, .int 0), (4, .int (K 1 k)), (5, .int 0), (6, .int (-1)), (7, .int 0)]) rfl ?_
      refine gx_lv (lv' := [(0, .ref (eA E 49)), (1, .int (nI k)), (2, .int (nI t)), (3, .int 0), (4, .int (K 1 k)), (5, .int ((kfF K k t 0).1)), (6, .int ((kfF K k t 0).2)), (7, .int (nI 0))]) (by rfl) ?_
      exact loop41 (7 + 1) 0 (by omega) (by omega) σ (⟨K 1 k, by rw [up2_same]; exact hM⟩) F3.rf
    ·
      exact absurd h7 (by decide)
def prF (K : Mm) (n : Nat) : Nat → Int32 × Int32
  | 0 => (0, 0)
  | i + 1 => pfF K n (i + 1)
def prV (K : Mm) (n i : Nat) : Int32 := mos n (up2 K 9 1 (nI (i + 1))) 0 2 - K 0 2
theorem pr_13 {K : Mm} (hO : Ok K) (n i : Nat) : prV K n i < 13 := by
  obtain ⟨d, h1, h2⟩ := mos_13 (K := up2 K 9 1 (nI (i + 1))) (hO.laws (by omega) (fun q => absurd q (by decide))) n
  have h3 : prV K n i = nI d := h2
  rw [h3]
  exact nI_lt (b := 13) (by omega) (by omega)
theorem pf_pos (K : Mm) (n : Nat) : ∀ i, i ≤ 5 → 0 < (pfF K n i).1 := by
  intro i
  induction i with
  | zero => intro _; exact (by decide : (0 : Int32) < 1)
  | succ i ih =>
    intro hi
    rw [pfF]
    split
    · exact nI_lt (a := 0) (b := i + 1) (by omega) (by omega)
    · exact ih (by omega)
theorem pr_set {K : Mm} (hO : Ok K) {n i : Nat} (hi : i < 5) (h : ¬ 0 < (prF K n i).1 ∨ prV K n i < (prF K n i).2) : prF K n (i + 1) = (nI (i + 1), prV K n i) := by
  cases i with
  | zero =>
    show pfF K n 1 = _
    rw [pfF]
    have h1 := pr_13 hO n 0
    rw [if_pos (show mos n (up2 K 9 1 (nI (0 + 1))) 0 2 - K 0 2 < (pfF K n 0).2 from h1)]
    rfl
  | succ i =>
    have h1 := h.resolve_left (fun q => q (pf_pos K n (i + 1) (by omega)))
    show pfF K n (i + 2) = _
    rw [pfF, if_pos (show mos n (up2 K 9 1 (nI (i + 1 + 1))) 0 2 - K 0 2 < (pfF K n (i + 1)).2 from h1)]
    rfl
theorem pr_same {K : Mm} {n i : Nat} (h1 : 0 < (prF K n i).1) (h : ¬ prV K n i < (prF K n i).2) : prF K n (i + 1) = prF K n i := by
  cases i with
  | zero => exact absurd h1 (by decide : ¬ (0 : Int32) < 0)
  | succ i =>
    show pfF K n (i + 2) = pfF K n (i + 1)
    rw [pfF, if_neg (show ¬ mos n (up2 K 9 1 (nI (i + 1 + 1))) 0 2 - K 0 2 < (pfF K n (i + 1)).2 from h)]
set_option maxHeartbeats 4000000 in
set_option maxRecDepth 100000 in
theorem c_X4_partsFor (E : En) (σ : Mm) (K L : Mm) (g : Int32) (F : Nat → Int32) (tl : Int32) (Bt W Z : Nat → Int32) (N : Mm) (hR : MR σ (K, L, g, F, tl, Bt, W, Z, N)) (n : Int32) : CtI E yX4_partsFor cX4_partsFor 8 (some .int) 8 186 [.ref (eA E 49), .int n] σ (fun rr σ2 => rr = (opPartsFor (K, L, g, F, tl, Bt, W, Z, N) n).1 ∧ MR σ2 (opPartsFor (K, L, g, F, tl, Bt, W, Z, N) n).2 ∧ FM σ σ2) := by
  obtain ⟨⟨hM, hO⟩, ⟨hg1, hg2, hg3⟩, hFd, ⟨⟨htl, htl2⟩, hBt⟩, hSh⟩ := id hR
  obtain ⟨⟨hn, h12⟩, hpp, hlw, hsp, hz0⟩ := id hO
  refine CtI.of (by decide +kernel) (Nat.le_of_ble_eq_true rfl) (fun p e0 s m below meth c C hr hlk => ?_)
  refine gx_lv (lv' := [(0, .ref (eA E 49)), (1, .int n)]) rfl ?_
  refine gx_aload_n C dX4_partsFor_0 (by rfl) (by rfl) ?_
  refine gx_iload_n C dX4_partsFor_1 (by rfl) (by rfl) ?_
  refine gx_iconst (v := 1) C dX4_partsFor_2 (by decide) ?_
  refine gx_bipush (v := 60) C dX4_partsFor_3 (by decide) ?_
  refine gx_iconst (v := 1) C dX4_partsFor_5 (by decide) ?_
  refine gx_callVI (As := [.int n, .int 1, .int 60, .int 1]) (rest := []) C (c_X4_wrong E σ K hM hO n 1 60 1) z_X4_wrong ck4 (by rfl) (by rfl) ml_X4_157 (by rfl) (Nat.le_of_ble_eq_true rfl) ⟨Nat.le_of_ble_eq_true rfl, Nat.le_of_ble_eq_true rfl⟩ dX4_partsFor_6 (fun r1 σ1 w1 => ?_)
  obtain ⟨u1, w1⟩ := w1; rw [u1]; clear u1
  rcases w1 with ⟨c1, u2⟩ | ⟨c1, d1, u2⟩ | ⟨c1, d1, u2⟩
  ·
    rw [u2]; clear u2
    have c1 : ¬ (1 ≤ n ∧ n ≤ 60) := fun q9 => c1 ⟨by decide, q9⟩
    refine gx_istore_n (lv2 := [(2, .int (-1000001)), (0, .ref (eA E 49)), (1, .int n)]) C dX4_partsFor_9 (by rfl) (by decide) rfl ?_
    refine gx_iload_n C dX4_partsFor_10 (by rfl) (by rfl) ?_
    refine gx_if_ge (tgt := 20) C dX4_partsFor_11 (by decide) (fun h2 => ?_) (fun h2 => ?_)
    ·
      exact absurd h2 (by decide)
    ·
      clear h2
      refine gx_aload_n C dX4_partsFor_14 (by rfl) (by rfl) ?_
      refine gx_iload_n C dX4_partsFor_15 (by rfl) (by rfl) ?_
      refine gx_callVI (As := [.int (-1000001)]) (rest := []) C (c_X4_finds E σ (-1000001) 0 (by decide) (by decide)) z_X4_finds ck4 (by rfl) (by rfl) ml_X4_39 (by rfl) (Nat.le_of_ble_eq_true rfl) ⟨Nat.le_of_ble_eq_true rfl, Nat.le_of_ble_eq_true rfl⟩ dX4_partsFor_16 (fun r3 σ3 w3 => ?_)
      obtain ⟨u1, u2⟩ := w3; rw [u1, u2]; clear u1 u2
      exact gx_iret C hr hlk rfl (fim_fd hR (by decide) (by simp only [opPartsFor, bey, ful, knd, non, sta, mis, siz] <;> grind)) dX4_partsFor_19
  ·
    rw [u2]; clear u2
    have c1 := c1.2
    refine gx_istore_n (lv2 := [(2, .int (-1000005)), (0, .ref (eA E 49)), (1, .int n)]) C dX4_partsFor_9 (by rfl) (by decide) rfl ?_
    refine gx_iload_n C dX4_partsFor_10 (by rfl) (by rfl) ?_
    refine gx_if_ge (tgt := 20) C dX4_partsFor_11 (by decide) (fun h4 => ?_) (fun h4 => ?_)
    ·
      exact absurd h4 (by decide)
    ·
      clear h4
      refine gx_aload_n C dX4_partsFor_14 (by rfl) (by rfl) ?_
      refine gx_iload_n C dX4_partsFor_15 (by rfl) (by rfl) ?_
      refine gx_callVI (As := [.int (-1000005)]) (rest := []) C (c_X4_finds E σ (-1000005) 4 (by decide) (by decide)) z_X4_finds ck4 (by rfl) (by rfl) ml_X4_39 (by rfl) (Nat.le_of_ble_eq_true rfl) ⟨Nat.le_of_ble_eq_true rfl, Nat.le_of_ble_eq_true rfl⟩ dX4_partsFor_16 (fun r5 σ5 w5 => ?_)
      obtain ⟨u1, u2⟩ := w5; rw [u1, u2]; clear u1 u2
      exact gx_iret C hr hlk rfl (fim_fd hR (by decide) (by simp only [opPartsFor, bey, ful, knd, non, sta, mis, siz] <;> grind)) dX4_partsFor_19
  ·
    rw [u2]; clear u2
    have c1 := c1.2
    obtain ⟨t, ht, rfl⟩ := i_nat (M := 60) (n := 60) (by decide) ⟨Int32.le_trans (by decide) c1.1, c1.2⟩
    have ct : (nI t).toNatClampNeg = t := nI_clamp (by omega)
    refine gx_istore_n (lv2 := [(2, .int 0), (0, .ref (eA E 49)), (1, .int (nI t))]) C dX4_partsFor_9 (by rfl) (by decide) rfl ?_
    refine gx_iload_n C dX4_partsFor_10 (by rfl) (by rfl) ?_
    refine gx_if_ge (tgt := 20) C dX4_partsFor_11 (by decide) (fun h6 => ?_) (fun h6 => ?_)
    ·
      clear h6
      refine gx_aload_n C dX4_partsFor_20 (by rfl) (by rfl) ?_
      refine gx_getr (j := 50) (k := 0) C ck4 (by rfl) (by rfl) (by decide) fl_X4_9 dX4_partsFor_21 ?_
      refine gx_iconst (v := 2) C dX4_partsFor_24 (by decide) ?_
      refine gx_ialdN (k := 2) C (by rfl) (by rfl) (by decide) (by decide) dX4_partsFor_25 ?_
      refine gx_st (st' := [.int (K 9 1)]) (by rw [mp_9_1 hM]) ?_
      refine gx_istore_n (lv2 := [(3, .int (K 9 1)), (2, .int 0), (0, .ref (eA E 49)), (1, .int (nI t))]) C dX4_partsFor_26 (by rfl) (by decide) rfl ?_
      refine gx_iconst (v := 0) C dX4_partsFor_27 (by decide) ?_
      refine gx_istore (lv2 := [(4, .int 0), (3, .int (K 9 1)), (2, .int 0), (0, .ref (eA E 49)), (1, .int (nI t))]) C dX4_partsFor_28 (by decide) rfl ?_
      refine gx_iconst (v := 0) C dX4_partsFor_30 (by decide) ?_
      refine gx_istore (lv2 := [(5, .int 0), (4, .int 0), (3, .int (K 9 1)), (2, .int 0), (0, .ref (eA E 49)), (1, .int (nI t))]) C dX4_partsFor_31 (by decide) rfl ?_
      refine gx_iconst (v := 1) C dX4_partsFor_33 (by decide) ?_
      refine gx_istore (lv2 := [(6, .int 1), (5, .int 0), (4, .int 0), (3, .int (K 9 1)), (2, .int 0), (0, .ref (eA E 49)), (1, .int (nI t))]) C dX4_partsFor_34 (by decide) rfl ?_
      have loop36 : ∀ (kf i : Nat), i ≤ 5 → 5 < i + kf → ∀ τ : Mm, (∃ x, vM τ 50 = up2 K 9 1 x) → (F3 σ τ) → Gx E p e0 (rmF 8 186) s m ([.ref (eA E 49), .int (nI t)] : List Value).toArray below meth c (MQ below (va_Qi (fun rr σ2 => rr = (opPartsFor (K, L, g, F, tl, Bt, W, Z, N) (nI t)).1 ∧ MR σ2 (opPartsFor (K, L, g, F, tl, Bt, W, Z, N) (nI t)).2 ∧ FM σ σ2) (WQ E) (AA E s.heap.size)) ([.ref (eA E 49), .int (nI t)] : List Value).toArray s 0 0 (AA E s.heap.size)) 8 36 [(0, .ref (eA E 49)), (1, .int (nI t)), (2, .int 0), (3, .int (K 9 1)), (4, .int ((prF K t i).1)), (5, .int ((prF K t i).2)), (6, .int (nI (i + 1)))] [] τ := by
        intro kf
        induction kf with
        | zero => intro i q1 q2; exact absurd q2 (by omega)
        | succ kf ih36 =>
          intro i a36 b36 τ hMt0 hFt
          obtain ⟨x, hMt⟩ := hMt0
          refine gx_iload C dX4_partsFor_36 (by rfl) ?_
          refine gx_iconst (v := 5) C dX4_partsFor_38 (by decide) ?_
          refine gx_icmp_gt (tgt := 87) C dX4_partsFor_39 (by decide) (fun h7 => ?_) (fun h7 => ?_)
          ·
            have h7 := (nI_ltI (a := 5) (b := (i + 1)) (by omega) (by omega)).mp h7
            refine gx_aload_n C dX4_partsFor_87 (by rfl) (by rfl) ?_
            refine gx_getr (j := 50) (k := 0) C ck4 (by rfl) (by rfl) (by decide) fl_X4_9 dX4_partsFor_88 ?_
            refine gx_iconst (v := 2) C dX4_partsFor_91 (by decide) ?_
            refine gx_iload_n C dX4_partsFor_92 (by rfl) (by rfl) ?_
            refine gx_iastN (k := 2) C (by rfl) (by rfl) (by decide) (by decide) dX4_partsFor_93 ?_
            have hM8 : vM (up2 τ 50 2 (K 9 1)) 50 = up2 (up2 K 9 1 x) 9 1 (K 9 1) := by rw [vM_up (j := 9) (p := 1) (by omega) (by decide) (by rfl), hMt]
            refine gx_iload C dX4_partsFor_94 (by rfl) ?_
            exact gx_iret C hr hlk rfl (fim_try hR (by have q9 := hM8; rwa [up2_bk] at q9) ((hFt).up (by decide)) (by have q1 : i = 5 := (by omega); subst q1; have q2 : prF K t 5 = pfF K t 5 := rfl; rw [q2]; simp only [opPartsFor, ct, bey, sta]; rw [if_pos (by grind), if_neg (by assumption)])) dX4_partsFor_96
          ·
            have h7 := (not_congr (nI_ltI (a := 5) (b := (i + 1)) (by omega) (by omega))).mp h7
            refine gx_aload_n C dX4_partsFor_42 (by rfl) (by rfl) ?_
            refine gx_getr (j := 50) (k := 0) C ck4 (by rfl) (by rfl) (by decide) fl_X4_9 dX4_partsFor_43 ?_
            refine gx_iconst (v := 2) C dX4_partsFor_46 (by decide) ?_
            refine gx_iload C dX4_partsFor_47 (by rfl) ?_
            refine gx_iastN (k := 2) C (by rfl) (by rfl) (by decide) (by decide) dX4_partsFor_49 ?_
            have hM9 : vM (up2 τ 50 2 (nI (i + 1))) 50 = up2 (up2 K 9 1 x) 9 1 (nI (i + 1)) := by rw [vM_up (j := 9) (p := 1) (by omega) (by decide) (by rfl), hMt]
            have hM10 : vM (up2 τ 50 2 (nI (i + 1))) 50 = up2 K 9 1 (nI (i + 1)) := by rw [hM9, up2_2]
            have hO10 : Ok (up2 K 9 1 (nI (i + 1))) := hO.laws (by omega) (fun q => absurd q (by decide))
            have hnv10 : nn (up2 K 9 1 (nI (i + 1))) = nn K := nn_up (Or.inl (by decide))
            refine gx_aload_n C dX4_partsFor_50 (by rfl) (by rfl) ?_
            refine gx_iload_n C dX4_partsFor_51 (by rfl) (by rfl) ?_
            refine gx_iconst (v := 1) C dX4_partsFor_52 (by decide) ?_
            refine gx_callVI (As := [.int (nI t), .int 1]) (rest := []) C (k_X4_behind_1 E (up2 τ 50 2 (nI (i + 1))) (up2 K 9 1 (nI (i + 1))) hM10 hO10 t (by omega)) z_X4_behind ck4 (by rfl) (by rfl) ml_X4_172 (by rfl) (Nat.le_of_ble_eq_true rfl) ⟨Nat.le_of_ble_eq_true rfl, Nat.le_of_ble_eq_true rfl⟩ dX4_partsFor_53 (fun r11 σ11 w11 => ?_)
            obtain ⟨er11, hM11, hF11⟩ := w11
            refine gx_st (st' := [.int (mos t (up2 K 9 1 (nI (i + 1))) 0 2 - (up2 K 9 1 (nI (i + 1))) 0 2)]) (by rw [er11]) ?_
            refine gx_st (st' := [.int (prV K t i)]) (by rw [show mos t (up2 K 9 1 (nI (i + 1))) 0 2 - up2 K 9 1 (nI (i + 1)) 0 2 = prV K t i from rfl]) ?_
            refine gx_istore (lv2 := [(7, .int (prV K t i)), (0, .ref (eA E 49)), (1, .int (nI t)), (2, .int 0), (3, .int (K 9 1)), (4, .int ((prF K t i).1)), (5, .int ((prF K t i).2)), (6, .int (nI (i + 1)))]) C dX4_partsFor_56 (by decide) rfl ?_
            refine gx_iload C dX4_partsFor_58 (by rfl) ?_
            refine gx_if_le (tgt := 73) C dX4_partsFor_60 (by decide) (fun h14 => ?_) (fun h14 => ?_)
            ·
              refine gx_iload C dX4_partsFor_73 (by rfl) ?_
              refine gx_istore (lv2 := [(4, .int (nI (i + 1))), (7, .int (prV K t i)), (0, .ref (eA E 49)), (1, .int (nI t)), (2, .int 0), (3, .int (K 9 1)), (5, .int ((prF K t i).2)), (6, .int (nI (i + 1)))]) C dX4_partsFor_75 (by decide) rfl ?_
              refine gx_iload C dX4_partsFor_77 (by rfl) ?_
              refine gx_istore (lv2 := [(5, .int (prV K t i)), (4, .int (nI (i + 1))), (7, .int (prV K t i)), (0, .ref (eA E 49)), (1, .int (nI t)), (2, .int 0), (3, .int (K 9 1)), (6, .int (nI (i + 1)))]) C dX4_partsFor_79 (by decide) rfl ?_
              refine gx_iinc (v := nI (i + 1 + 1)) (lv2 := [(6, .int (nI (i + 1 + 1))), (5, .int (prV K t i)), (4, .int (nI (i + 1))), (7, .int (prV K t i)), (0, .ref (eA E 49)), (1, .int (nI t)), (2, .int 0), (3, .int (K 9 1))]) C dX4_partsFor_81 (by rfl) (by exact nI_p1 _) (by decide) rfl ?_
              refine gx_goto (tgt := 36) C dX4_partsFor_84 (by decide) ?_
              refine gx_sub [4, 5, 6, 7, 2, 1, 0] (lv' := [(0, .ref (eA E 49)), (1, .int (nI t)), (2, .int 0), (3, .int (K 9 1)), (4, .int (nI (i + 1))), (5, .int (prV K t i)), (6, .int (nI (i + 1 + 1)))]) rfl ?_
              refine gx_lv (lv' := [(0, .ref (eA E 49)), (1, .int (nI t)), (2, .int 0), (3, .int (K 9 1)), (4, .int ((prF K t (i + 1)).1)), (5, .int ((prF K t (i + 1)).2)), (6, .int (nI ((i + 1) + 1)))]) (by first | rw [pr_set hO (by omega) (Or.inl (by first | assumption | exact Int32.not_lt.mpr (by assumption)))] | rw [pr_set hO (by omega) (Or.inr (by assumption))]) ?_
              exact ih36 (i + 1) (by omega) (by omega) σ11 (⟨_, hM11⟩) (((hFt).up (by decide)).f2 hF11)
            ·
              refine gx_iload C dX4_partsFor_63 (by rfl) ?_
              refine gx_iload C dX4_partsFor_65 (by rfl) ?_
              refine gx_icmp_lt (tgt := 73) C dX4_partsFor_67 (by decide) (fun h15 => ?_) (fun h15 => ?_)
              ·
                refine gx_iload C dX4_partsFor_73 (by rfl) ?_
                refine gx_istore (lv2 := [(4, .int (nI (i + 1))), (7, .int (prV K t i)), (0, .ref (eA E 49)), (1, .int (nI t)), (2, .int 0), (3, .int (K 9 1)), (5, .int ((prF K t i).2)), (6, .int (nI (i + 1)))]) C dX4_partsFor_75 (by decide) rfl ?_
                refine gx_iload C dX4_partsFor_77 (by rfl) ?_
                refine gx_istore (lv2 := [(5, .int (prV K t i)), (4, .int (nI (i + 1))), (7, .int (prV K t i)), (0, .ref (eA E 49)), (1, .int (nI t)), (2, .int 0), (3, .int (K 9 1)), (6, .int (nI (i + 1)))]) C dX4_partsFor_79 (by decide) rfl ?_
                refine gx_iinc (v := nI (i + 1 + 1)) (lv2 := [(6, .int (nI (i + 1 + 1))), (5, .int (prV K t i)), (4, .int (nI (i + 1))), (7, .int (prV K t i)), (0, .ref (eA E 49)), (1, .int (nI t)), (2, .int 0), (3, .int (K 9 1))]) C dX4_partsFor_81 (by rfl) (by exact nI_p1 _) (by decide) rfl ?_
                refine gx_goto (tgt := 36) C dX4_partsFor_84 (by decide) ?_
                refine gx_sub [4, 5, 6, 7, 2, 1, 0] (lv' := [(0, .ref (eA E 49)), (1, .int (nI t)), (2, .int 0), (3, .int (K 9 1)), (4, .int (nI (i + 1))), (5, .int (prV K t i)), (6, .int (nI (i + 1 + 1)))]) rfl ?_
                refine gx_lv (lv' := [(0, .ref (eA E 49)), (1, .int (nI t)), (2, .int 0), (3, .int (K 9 1)), (4, .int ((prF K t (i + 1)).1)), (5, .int ((prF K t (i + 1)).2)), (6, .int (nI ((i + 1) + 1)))]) (by first | rw [pr_set hO (by omega) (Or.inl (by first | assumption | exact Int32.not_lt.mpr (by assumption)))] | rw [pr_set hO (by omega) (Or.inr (by assumption))]) ?_
                exact ih36 (i + 1) (by omega) (by omega) σ11 (⟨_, hM11⟩) (((hFt).up (by decide)).f2 hF11)
              ·
                refine gx_goto (tgt := 81) C dX4_partsFor_70 (by decide) ?_
                refine gx_iinc (v := nI (i + 1 + 1)) (lv2 := [(6, .int (nI (i + 1 + 1))), (7, .int (prV K t i)), (0, .ref (eA E 49)), (1, .int (nI t)), (2, .int 0), (3, .int (K 9 1)), (4, .int ((prF K t i).1)), (5, .int ((prF K t i).2))]) C dX4_partsFor_81 (by rfl) (by exact nI_p1 _) (by decide) rfl ?_
                refine gx_goto (tgt := 36) C dX4_partsFor_84 (by decide) ?_
                refine gx_sub [2, 3, 4, 5, 6, 7, 0] (lv' := [(0, .ref (eA E 49)), (1, .int (nI t)), (2, .int 0), (3, .int (K 9 1)), (4, .int ((prF K t i).1)), (5, .int ((prF K t i).2)), (6, .int (nI (i + 1 + 1)))]) rfl ?_
                refine gx_lv (lv' := [(0, .ref (eA E 49)), (1, .int (nI t)), (2, .int 0), (3, .int (K 9 1)), (4, .int ((prF K t (i + 1)).1)), (5, .int ((prF K t (i + 1)).2)), (6, .int (nI ((i + 1) + 1)))]) (by rw [pr_same (by first | assumption | exact Int32.not_le.mp (by assumption)) (by first | assumption | exact Int32.not_lt.mpr (by assumption))]) ?_
                exact ih36 (i + 1) (by omega) (by omega) σ11 (⟨_, hM11⟩) (((hFt).up (by decide)).f2 hF11)
      refine gx_sub [5, 6, 4, 3, 2, 1, 0] (lv' := [(0, .ref (eA E 49)), (1, .int (nI t)), (2, .int 0), (3, .int (K 9 1)), (4, .int 0), (5, .int 0), (6, .int 1)]) rfl ?_
      refine gx_lv (lv' := [(0, .ref (eA E 49)), (1, .int (nI t)), (2, .int 0), (3, .int (K 9 1)), (4, .int ((prF K t 0).1)), (5, .int ((prF K t 0).2)), (6, .int (nI (0 + 1)))]) (by rfl) ?_
      exact loop36 (5 + 1) 0 (by omega) (by omega) σ (⟨K 9 1, by rw [up2_same]; exact hM⟩) F3.rf
    ·
      exact absurd h6 (by decide)
