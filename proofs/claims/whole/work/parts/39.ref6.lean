set_option maxHeartbeats 4000000 in
set_option maxRecDepth 100000 in
theorem c_X4_seats (E : En) (σ : Mm) (K L : Mm) (g : Int32) (F : Nat → Int32) (tl : Int32) (Bt W Z : Nat → Int32) (N : Mm) (hR : MR σ (K, L, g, F, tl, Bt, W, Z, N)) (r v : Int32) : CtI E yX4_seats cX4_seats 3 (some .int) 2 45 [.ref (eA E 49), .int r, .int v] σ (fun rr σ2 => rr = (opSeats (K, L, g, F, tl, Bt, W, Z, N) r v).1 ∧ MR σ2 (opSeats (K, L, g, F, tl, Bt, W, Z, N) r v).2 ∧ FM σ σ2) := by
  obtain ⟨⟨hM, hO⟩, ⟨hg1, hg2, hg3⟩, hFd, ⟨⟨htl, htl2⟩, hBt⟩, hSh⟩ := id hR
  obtain ⟨⟨hn, h12⟩, hpp, hlw, hsp, hz0⟩ := id hO
  refine CtI.of (by decide +kernel) (Nat.le_of_ble_eq_true rfl) (fun p e0 s m below meth c C hr hlk => ?_)
  refine gx_lv (lv' := [(0, .ref (eA E 49)), (1, .int r), (2, .int v)]) rfl ?_
  refine gx_iload_n C dX4_seats_0 (by rfl) (by rfl) ?_
  refine gx_callSI (As := [.int r]) (rest := []) C (c_X4_isRank E σ r) z_X4_isRank (by rfl) ml_X4_61 (by rfl) (Nat.le_of_ble_eq_true rfl) ⟨Nat.le_of_ble_eq_true rfl, Nat.le_of_ble_eq_true rfl⟩ dX4_seats_1 (fun r1 σ1 w1 => ?_)
  obtain ⟨u1, u2⟩ := w1; rw [u1, u2]; clear u1 u2
  refine gx_if_eq (tgt := 19) C dX4_seats_4 (by decide) (fun h2 => ?_) (fun h2 => ?_)
  ·
    have h2 := b2_z.mp h2
    refine gx_aload_n C dX4_seats_19 (by rfl) (by rfl) ?_
    refine gx_ldc C kc_X4_37 dX4_seats_20 ?_
    refine gx_callVI (As := [.int (-1000001)]) (rest := []) C (c_X4_finds E σ (-1000001) 0 (by decide) (by decide)) z_X4_finds ck4 (by rfl) (by rfl) ml_X4_39 (by rfl) (Nat.le_of_ble_eq_true rfl) ⟨Nat.le_of_ble_eq_true rfl, Nat.le_of_ble_eq_true rfl⟩ dX4_seats_22 (fun r3 σ3 w3 => ?_)
    obtain ⟨u1, u2⟩ := w3; rw [u1, u2]; clear u1 u2
    exact gx_iret C hr hlk rfl (fim_fd hR (by decide) (by simp only [opSeats, bey, ful, knd, non, sta, mis, siz] <;> grind)) dX4_seats_25
  ·
    have h2 := b2_nz.mp h2
    obtain ⟨k, hk, rfl⟩ := r_nat h2
    have ck : (nI k).toNatClampNeg = k := nI_clamp (by omega)
    refine gx_iload_n C dX4_seats_7 (by rfl) (by rfl) ?_
    refine gx_i2l C dX4_seats_8 ?_
    refine gx_lconst (v := 0) C dX4_seats_9 (by decide) ?_
    refine gx_ldc2 C kl_X4_65 dX4_seats_10 ?_
    refine gx_callSI (As := [.long v.toInt64, .long 0, .long 4]) (rest := []) C (c_X4_in E σ v 0 4 v.toInt64 0 4 (by first | rfl | decide) (by first | rfl | decide) (by first | rfl | decide)) z_X4_in (by rfl) ml_X4_45 (by rfl) (Nat.le_of_ble_eq_true rfl) ⟨Nat.le_of_ble_eq_true rfl, Nat.le_of_ble_eq_true rfl⟩ dX4_seats_13 (fun r4 σ4 w4 => ?_)
    obtain ⟨u1, u2⟩ := w4; rw [u1, u2]; clear u1 u2
    refine gx_if_ne (tgt := 26) C dX4_seats_16 (by decide) (fun h5 => ?_) (fun h5 => ?_)
    ·
      have h5 := b2_nz.mp h5
      refine gx_aload_n C dX4_seats_26 (by rfl) (by rfl) ?_
      refine gx_iload_n C dX4_seats_27 (by rfl) (by rfl) ?_
      refine gx_callVI (As := [.int (nI k)]) (rest := []) C (c_X4_inRank E σ K hM hO (nI k)) z_X4_inRank ck4 (by rfl) (by rfl) ml_X4_55 (by rfl) (Nat.le_of_ble_eq_true rfl) ⟨Nat.le_of_ble_eq_true rfl, Nat.le_of_ble_eq_true rfl⟩ dX4_seats_28 (fun r6 σ6 w6 => ?_)
      obtain ⟨u1, u2⟩ := w6; rw [u1, u2]; clear u1 u2
      refine gx_callSI (As := [.int (bset (nn K) (inP K (nI k)))]) (rest := []) C (c_X4_many E σ (nn K) (by omega) (inP K (nI k))) z_X4_many (by rfl) ml_X4_58 (by rfl) (Nat.le_of_ble_eq_true rfl) ⟨Nat.le_of_ble_eq_true rfl, Nat.le_of_ble_eq_true rfl⟩ dX4_seats_31 (fun r7 σ7 w7 => ?_)
      obtain ⟨u1, u2⟩ := w7; rw [u1, u2]; clear u1 u2
      refine gx_iload_n C dX4_seats_34 (by rfl) (by rfl) ?_
      refine gx_icmp_le (tgt := 47) C dX4_seats_35 (by decide) (fun h8 => ?_) (fun h8 => ?_)
      ·
        refine gx_aload_n C dX4_seats_47 (by rfl) (by rfl) ?_
        refine gx_bipush (v := 7) C dX4_seats_48 (by decide) ?_
        refine gx_iload_n C dX4_seats_50 (by rfl) (by rfl) ?_
        refine gx_iadd C dX4_seats_51 ?_
        refine gx_st (st' := [.int (nI (7 + k)), .ref (eA E 49)]) (by rw [show 7 + (nI k) = nI (7 + k) from nI_add 7 k]) ?_
        refine gx_iload_n C dX4_seats_52 (by rfl) (by rfl) ?_
        refine gx_callVI (As := [.int (nI (7 + k)), .int v]) (rest := []) C (c_X4_becomes E σ (7 + k) (by omega) v) z_X4_becomes ck4 (by rfl) (by rfl) ml_X4_68 (by rfl) (Nat.le_of_ble_eq_true rfl) ⟨Nat.le_of_ble_eq_true rfl, Nat.le_of_ble_eq_true rfl⟩ dX4_seats_53 (fun r10 σ10 w10 => ?_)
        obtain ⟨u1, u2⟩ := w10; rw [u1, u2]; clear u1 u2
        refine gx_st (st' := [.int (K (8) k)]) (by rw [mp_8 hM (p := k) (by omega)]) ?_
        have hM9 : vM (up2 σ 50 (7 + k) v) 50 = up2 K (8) k v := by rw [vM_up (j := 8) (p := k) (by omega) (show _ < 8 by omega) (by rfl), hM]
        exact gx_iret C hr hlk rfl (fim_now hR hM9 (hO.seats (p := k) (v := v) (by omega) (by grind)) ((F3.rf).up (by decide)) (by simp only [opSeats, bey, ful, knd, non, sta, mis, siz] <;> grind)) dX4_seats_56
      ·
        refine gx_aload_n C dX4_seats_38 (by rfl) (by rfl) ?_
        refine gx_ldc C kc_X4_67 dX4_seats_39 ?_
        refine gx_callVI (As := [.int (-1000005)]) (rest := []) C (c_X4_finds E σ (-1000005) 4 (by decide) (by decide)) z_X4_finds ck4 (by rfl) (by rfl) ml_X4_39 (by rfl) (Nat.le_of_ble_eq_true rfl) ⟨Nat.le_of_ble_eq_true rfl, Nat.le_of_ble_eq_true rfl⟩ dX4_seats_41 (fun r11 σ11 w11 => ?_)
        obtain ⟨u1, u2⟩ := w11; rw [u1, u2]; clear u1 u2
        refine gx_goto (tgt := 56) C dX4_seats_44 (by decide) ?_
        exact gx_iret C hr hlk rfl (fim_fd hR (by decide) (by simp only [opSeats, bey, ful, knd, non, sta, mis, siz] <;> grind)) dX4_seats_56
    ·
      have h5 := b2_z.mp h5
      refine gx_aload_n C dX4_seats_19 (by rfl) (by rfl) ?_
      refine gx_ldc C kc_X4_37 dX4_seats_20 ?_
      refine gx_callVI (As := [.int (-1000001)]) (rest := []) C (c_X4_finds E σ (-1000001) 0 (by decide) (by decide)) z_X4_finds ck4 (by rfl) (by rfl) ml_X4_39 (by rfl) (Nat.le_of_ble_eq_true rfl) ⟨Nat.le_of_ble_eq_true rfl, Nat.le_of_ble_eq_true rfl⟩ dX4_seats_22 (fun r14 σ14 w14 => ?_)
      obtain ⟨u1, u2⟩ := w14; rw [u1, u2]; clear u1 u2
      exact gx_iret C hr hlk rfl (fim_fd hR (by decide) (by simp only [opSeats, bey, ful, knd, non, sta, mis, siz] <;> grind)) dX4_seats_25
theorem in04 {w : Int32} (h : 0 ≤ w ∧ w ≤ 4) (h0 : ¬ w = 0) (h1 : ¬ w = 1) (h2 : ¬ w = 2) (h3 : ¬ w = 3) : w = 4 := by
  obtain ⟨k, hk, rfl⟩ := i_nat (M := 4) (n := 4) (by decide) h
  rcases (show k = 0 ∨ k = 1 ∨ k = 2 ∨ k = 3 ∨ k = 4 by omega) with rfl | rfl | rfl | rfl | rfl
  · exact absurd rfl h0
  · exact absurd rfl h1
  · exact absurd rfl h2
  · exact absurd rfl h3
  · rfl
theorem nin04 {w : Int32} (h : ¬ (0 ≤ w ∧ w ≤ 4)) : ¬ w = 0 ∧ ¬ w = 1 ∧ ¬ w = 2 ∧ ¬ w = 3 ∧ ¬ w = 4 := by
  refine ⟨?_, ?_, ?_, ?_, ?_⟩ <;> (rintro rfl; exact h (by decide))
theorem nin06 {w : Int32} (h : ¬ (0 ≤ w ∧ w ≤ 6)) : ¬ w = 0 ∧ ¬ w = 1 ∧ ¬ w = 2 ∧ ¬ w = 3 ∧ ¬ w = 4 ∧ ¬ w = 5 ∧ ¬ w = 6 := by
  refine ⟨?_, ?_, ?_, ?_, ?_, ?_, ?_⟩ <;> (rintro rfl; exact h (by decide))
set_option maxHeartbeats 4000000 in
set_option maxRecDepth 100000 in
theorem c_X4_rankOf (E : En) (σ : Mm) (K L : Mm) (g : Int32) (F : Nat → Int32) (tl : Int32) (Bt W Z : Nat → Int32) (N : Mm) (hR : MR σ (K, L, g, F, tl, Bt, W, Z, N)) (r w : Int32) : CtI E yX4_rankOf cX4_rankOf 4 (some .int) 2 45 [.ref (eA E 49), .int r, .int w] σ (fun rr σ2 => rr = (opRankOf (K, L, g, F, tl, Bt, W, Z, N) r w).1 ∧ MR σ2 (opRankOf (K, L, g, F, tl, Bt, W, Z, N) r w).2 ∧ FM σ σ2) := by
  obtain ⟨⟨hM, hO⟩, ⟨hg1, hg2, hg3⟩, hFd, ⟨⟨htl, htl2⟩, hBt⟩, hSh⟩ := id hR
  obtain ⟨⟨hn, h12⟩, hpp, hlw, hsp, hz0⟩ := id hO
  refine CtI.of (by decide +kernel) (Nat.le_of_ble_eq_true rfl) (fun p e0 s m below meth c C hr hlk => ?_)
  refine gx_lv (lv' := [(0, .ref (eA E 49)), (1, .int r), (2, .int w)]) rfl ?_
  refine gx_iload_n C dX4_rankOf_0 (by rfl) (by rfl) ?_
  refine gx_callSI (As := [.int r]) (rest := []) C (c_X4_isRank E σ r) z_X4_isRank (by rfl) ml_X4_61 (by rfl) (Nat.le_of_ble_eq_true rfl) ⟨Nat.le_of_ble_eq_true rfl, Nat.le_of_ble_eq_true rfl⟩ dX4_rankOf_1 (fun r1 σ1 w1 => ?_)
  obtain ⟨u1, u2⟩ := w1; rw [u1, u2]; clear u1 u2
  refine gx_if_eq (tgt := 19) C dX4_rankOf_4 (by decide) (fun h2 => ?_) (fun h2 => ?_)
  ·
    have h2 := b2_z.mp h2
    refine gx_aload_n C dX4_rankOf_19 (by rfl) (by rfl) ?_
    refine gx_ldc C kc_X4_37 dX4_rankOf_20 ?_
    refine gx_callVI (As := [.int (-1000001)]) (rest := []) C (c_X4_finds E σ (-1000001) 0 (by decide) (by decide)) z_X4_finds ck4 (by rfl) (by rfl) ml_X4_39 (by rfl) (Nat.le_of_ble_eq_true rfl) ⟨Nat.le_of_ble_eq_true rfl, Nat.le_of_ble_eq_true rfl⟩ dX4_rankOf_22 (fun r3 σ3 w3 => ?_)
    obtain ⟨u1, u2⟩ := w3; rw [u1, u2]; clear u1 u2
    exact gx_iret C hr hlk rfl (fim_fd hR (by decide) (by simp only [opRankOf, bey, ful, knd, non, sta, mis, siz] <;> grind)) dX4_rankOf_25
  ·
    have h2 := b2_nz.mp h2
    obtain ⟨k, hk, rfl⟩ := r_nat h2
    have ck : (nI k).toNatClampNeg = k := nI_clamp (by omega)
    refine gx_iload_n C dX4_rankOf_7 (by rfl) (by rfl) ?_
    refine gx_i2l C dX4_rankOf_8 ?_
    refine gx_lconst (v := 0) C dX4_rankOf_9 (by decide) ?_
    refine gx_ldc2 C kl_X4_65 dX4_rankOf_10 ?_
    refine gx_callSI (As := [.long w.toInt64, .long 0, .long 4]) (rest := []) C (c_X4_in E σ w 0 4 w.toInt64 0 4 (by first | rfl | decide) (by first | rfl | decide) (by first | rfl | decide)) z_X4_in (by rfl) ml_X4_45 (by rfl) (Nat.le_of_ble_eq_true rfl) ⟨Nat.le_of_ble_eq_true rfl, Nat.le_of_ble_eq_true rfl⟩ dX4_rankOf_13 (fun r4 σ4 w4 => ?_)
    obtain ⟨u1, u2⟩ := w4; rw [u1, u2]; clear u1 u2
    refine gx_if_ne (tgt := 26) C dX4_rankOf_16 (by decide) (fun h5 => ?_) (fun h5 => ?_)
    ·
      have h5 := b2_nz.mp h5
      refine gx_aload_n C dX4_rankOf_26 (by rfl) (by rfl) ?_
      refine gx_iload_n C dX4_rankOf_27 (by rfl) (by rfl) ?_
      refine gx_callVI (As := [.int (nI k)]) (rest := []) C (c_X4_inRank E σ K hM hO (nI k)) z_X4_inRank ck4 (by rfl) (by rfl) ml_X4_55 (by rfl) (Nat.le_of_ble_eq_true rfl) ⟨Nat.le_of_ble_eq_true rfl, Nat.le_of_ble_eq_true rfl⟩ dX4_rankOf_28 (fun r6 σ6 w6 => ?_)
      obtain ⟨u1, u2⟩ := w6; rw [u1, u2]; clear u1 u2
      refine gx_istore_n (lv2 := [(3, .int (bset (nn K) (inP K (nI k)))), (0, .ref (eA E 49)), (1, .int (nI k)), (2, .int w)]) C dX4_rankOf_31 (by rfl) (by decide) rfl ?_
      refine gx_iload_n C dX4_rankOf_32 (by rfl) (by rfl) ?_
      refine gx_if_ne (tgt := 48) C dX4_rankOf_33 (by decide) (fun h7 => ?_) (fun h7 => ?_)
      ·
        refine gx_iload_n C dX4_rankOf_48 (by rfl) (by rfl) ?_
        refine gx_iconst (v := 1) C dX4_rankOf_49 (by decide) ?_
        refine gx_icmp_ne (tgt := 60) C dX4_rankOf_50 (by decide) (fun h8 => ?_) (fun h8 => ?_)
        ·
          refine gx_iload_n C dX4_rankOf_60 (by rfl) (by rfl) ?_
          refine gx_iconst (v := 2) C dX4_rankOf_61 (by decide) ?_
          refine gx_icmp_ne (tgt := 69) C dX4_rankOf_62 (by decide) (fun h9 => ?_) (fun h9 => ?_)
          ·
            refine gx_iload_n C dX4_rankOf_69 (by rfl) (by rfl) ?_
            refine gx_iconst (v := 3) C dX4_rankOf_70 (by decide) ?_
            refine gx_icmp_ne (tgt := 85) C dX4_rankOf_71 (by decide) (fun h10 => ?_) (fun h10 => ?_)
            ·
              have w4 : w = 4 := in04 (by assumption) (by assumption) (by assumption) (by assumption) (by assumption)
              refine gx_aload_n C dX4_rankOf_85 (by rfl) (by rfl) ?_
              refine gx_iload_n C dX4_rankOf_86 (by rfl) (by rfl) ?_
              refine gx_callVI (As := [.int (bset (nn K) (inP K (nI k)))]) (rest := []) C (c_X4_goldOf E σ K hM hO (inP K (nI k))) z_X4_goldOf ck4 (by rfl) (by rfl) ml_X4_78 (by rfl) (Nat.le_of_ble_eq_true rfl) ⟨Nat.le_of_ble_eq_true rfl, Nat.le_of_ble_eq_true rfl⟩ dX4_rankOf_87 (fun r11 σ11 w11 => ?_)
              obtain ⟨u1, u2⟩ := w11; rw [u1, u2]; clear u1 u2
              exact gx_iret C hr hlk rfl (fim_rd hR (by simp only [opRankOf, bey, ful, knd, non, sta, mis, siz] <;> grind)) dX4_rankOf_90
            ·
              refine gx_aload_n C dX4_rankOf_74 (by rfl) (by rfl) ?_
              refine gx_iload_n C dX4_rankOf_75 (by rfl) (by rfl) ?_
              refine gx_callVI (As := [.int (nI k)]) (rest := []) C (c_X4_counting E σ K hM hO (nI k)) z_X4_counting ck4 (by rfl) (by rfl) ml_X4_75 (by rfl) (Nat.le_of_ble_eq_true rfl) ⟨Nat.le_of_ble_eq_true rfl, Nat.le_of_ble_eq_true rfl⟩ dX4_rankOf_76 (fun r14 σ14 w14 => ?_)
              obtain ⟨u1, u2⟩ := w14; rw [u1, u2]; clear u1 u2
              refine gx_callSI (As := [.int (bset (nn K) (fun q => inP K (nI k) q && cgP K q))]) (rest := []) C (c_X4_many E σ (nn K) (by omega) (fun q => inP K (nI k) q && cgP K q)) z_X4_many (by rfl) ml_X4_58 (by rfl) (Nat.le_of_ble_eq_true rfl) ⟨Nat.le_of_ble_eq_true rfl, Nat.le_of_ble_eq_true rfl⟩ dX4_rankOf_79 (fun r15 σ15 w15 => ?_)
              obtain ⟨u1, u2⟩ := w15; rw [u1, u2]; clear u1 u2
              refine gx_goto (tgt := 90) C dX4_rankOf_82 (by decide) ?_
              exact gx_iret C hr hlk rfl (fim_rd hR (by simp only [opRankOf, bey, ful, knd, non, sta, mis, siz] <;> grind)) dX4_rankOf_90
          ·
            refine gx_iload_n C dX4_rankOf_65 (by rfl) (by rfl) ?_
            refine gx_goto (tgt := 90) C dX4_rankOf_66 (by decide) ?_
            exact gx_iret C hr hlk rfl (fim_rd hR (by simp only [opRankOf, bey, ful, knd, non, sta, mis, siz] <;> grind)) dX4_rankOf_90
        ·
          refine gx_iload_n C dX4_rankOf_53 (by rfl) (by rfl) ?_
          refine gx_callSI (As := [.int (bset (nn K) (inP K (nI k)))]) (rest := []) C (c_X4_many E σ (nn K) (by omega) (inP K (nI k))) z_X4_many (by rfl) ml_X4_58 (by rfl) (Nat.le_of_ble_eq_true rfl) ⟨Nat.le_of_ble_eq_true rfl, Nat.le_of_ble_eq_true rfl⟩ dX4_rankOf_54 (fun r16 σ16 w16 => ?_)
          obtain ⟨u1, u2⟩ := w16; rw [u1, u2]; clear u1 u2
          refine gx_goto (tgt := 90) C dX4_rankOf_57 (by decide) ?_
          exact gx_iret C hr hlk rfl (fim_rd hR (by simp only [opRankOf, bey, ful, knd, non, sta, mis, siz] <;> grind)) dX4_rankOf_90
      ·
        refine gx_aload_n C dX4_rankOf_36 (by rfl) (by rfl) ?_
        refine gx_getr (j := 50) (k := 0) C ck4 (by rfl) (by rfl) (by decide) fl_X4_9 dX4_rankOf_37 ?_
        refine gx_bipush (v := 7) C dX4_rankOf_40 (by decide) ?_
        refine gx_iload_n C dX4_rankOf_42 (by rfl) (by rfl) ?_
        refine gx_iadd C dX4_rankOf_43 ?_
        refine gx_st (st' := [.int (nI (7 + k)), .ref (eA E 50)]) (by rw [show 7 + (nI k) = nI (7 + k) from nI_add 7 k]) ?_
        refine gx_ialdN (k := (7 + k)) C (by rfl) rfl (by omega) (by decide) dX4_rankOf_44 ?_
        refine gx_st (st' := [.int (K 8 k)]) (by rw [mp_8 hM (p := k) (by omega)]) ?_
        refine gx_goto (tgt := 90) C dX4_rankOf_45 (by decide) ?_
        exact gx_iret C hr hlk rfl (fim_rd hR (by simp only [opRankOf, bey, ful, knd, non, sta, mis, siz] <;> grind)) dX4_rankOf_90
    ·
      have h5 := b2_z.mp h5
      have nw := nin04 h5
      refine gx_aload_n C dX4_rankOf_19 (by rfl) (by rfl) ?_
      refine gx_ldc C kc_X4_37 dX4_rankOf_20 ?_
      refine gx_callVI (As := [.int (-1000001)]) (rest := []) C (c_X4_finds E σ (-1000001) 0 (by decide) (by decide)) z_X4_finds ck4 (by rfl) (by rfl) ml_X4_39 (by rfl) (Nat.le_of_ble_eq_true rfl) ⟨Nat.le_of_ble_eq_true rfl, Nat.le_of_ble_eq_true rfl⟩ dX4_rankOf_22 (fun r17 σ17 w17 => ?_)
      obtain ⟨u1, u2⟩ := w17; rw [u1, u2]; clear u1 u2
      exact gx_iret C hr hlk rfl (fim_fd hR (by decide) (by simp only [opRankOf, bey, ful, knd, non, sta, mis, siz] <;> grind)) dX4_rankOf_25
theorem nin02 {w : Int32} (h0 : ¬ w = 0) (h1 : ¬ w = 1) (h2 : ¬ w = 2) : ¬ (0 ≤ w ∧ w ≤ 2) := by
  intro h
  obtain ⟨k, hk, rfl⟩ := i_nat (M := 2) (n := 2) (by decide) h
  rcases (show k = 0 ∨ k = 1 ∨ k = 2 by omega) with rfl | rfl | rfl
  · exact h0 rfl
  · exact h1 rfl
  · exact h2 rfl
theorem opLaw_ok {A : As} {k : Nat} (hk : k ≤ 2) {v : Int32} (h : jLeast.getD k 0 ≤ v ∧ v ≤ jMost.getD k 0) : opLaw A (nI k) v = (A.1 9 k, (up2 A.1 9 k v, A.2)) := by
  unfold opLaw
  rw [show cl (nI k) = k from nI_clamp (by omega), if_pos ⟨⟨nI_pos' (by omega), nI_le (b := 2) hk (by omega)⟩, h⟩]
theorem opLaw_no {A : As} {k : Nat} (hk : k ≤ 2) {v : Int32} (h : ¬ (jLeast.getD k 0 ≤ v ∧ v ≤ jMost.getD k 0)) : opLaw A (nI k) v = bey A := by
  unfold opLaw
  rw [show cl (nI k) = k from nI_clamp (by omega), if_neg (fun q => h q.2)]
set_option maxHeartbeats 4000000 in
set_option maxRecDepth 100000 in
theorem c_X4_law (E : En) (σ : Mm) (K L : Mm) (g : Int32) (F : Nat → Int32) (tl : Int32) (Bt W Z : Nat → Int32) (N : Mm) (hR : MR σ (K, L, g, F, tl, Bt, W, Z, N)) (w v : Int32) : CtI E yX4_law cX4_law 4 (some .int) 1 25 [.ref (eA E 49), .int w, .int v] σ (fun rr σ2 => rr = (opLaw (K, L, g, F, tl, Bt, W, Z, N) w v).1 ∧ MR σ2 (opLaw (K, L, g, F, tl, Bt, W, Z, N) w v).2 ∧ FM σ σ2) := by
  obtain ⟨⟨hM, hO⟩, ⟨hg1, hg2, hg3⟩, hFd, ⟨⟨htl, htl2⟩, hBt⟩, hSh⟩ := id hR
  obtain ⟨⟨hn, h12⟩, hpp, hlw, hsp, hz0⟩ := id hO
  refine CtI.of (by decide +kernel) (Nat.le_of_ble_eq_true rfl) (fun p e0 s m below meth c C hr hlk => ?_)
  refine gx_lv (lv' := [(0, .ref (eA E 49)), (1, .int w), (2, .int v)]) rfl ?_
  refine gx_iload_n C dX4_law_0 (by rfl) (by rfl) ?_
  refine gx_if_ne (tgt := 16) C dX4_law_1 (by decide) (fun h1 => ?_) (fun h1 => ?_)
  ·
    refine gx_iload_n C dX4_law_16 (by rfl) (by rfl) ?_
    refine gx_iconst (v := 1) C dX4_law_17 (by decide) ?_
    refine gx_icmp_ne (tgt := 33) C dX4_law_18 (by decide) (fun h2 => ?_) (fun h2 => ?_)
    ·
      refine gx_iload_n C dX4_law_33 (by rfl) (by rfl) ?_
      refine gx_iconst (v := 2) C dX4_law_34 (by decide) ?_
      refine gx_icmp_ne (tgt := 54) C dX4_law_35 (by decide) (fun h3 => ?_) (fun h3 => ?_)
      ·
        refine gx_iconst (v := 0) C dX4_law_54 (by decide) ?_
        refine gx_istore_n (lv2 := [(3, .int 0), (0, .ref (eA E 49)), (1, .int w), (2, .int v)]) C dX4_law_55 (by rfl) (by decide) rfl ?_
        refine gx_iload_n C dX4_law_56 (by rfl) (by rfl) ?_
        refine gx_if_eq (tgt := 71) C dX4_law_57 (by decide) (fun h4 => ?_) (fun h4 => ?_)
        ·
          clear h4
          refine gx_aload_n C dX4_law_71 (by rfl) (by rfl) ?_
          refine gx_ldc C kc_X4_37 dX4_law_72 ?_
          refine gx_callVI (As := [.int (-1000001)]) (rest := []) C (c_X4_finds E σ (-1000001) 0 (by decide) (by decide)) z_X4_finds ck4 (by rfl) (by rfl) ml_X4_39 (by rfl) (Nat.le_of_ble_eq_true rfl) ⟨Nat.le_of_ble_eq_true rfl, Nat.le_of_ble_eq_true rfl⟩ dX4_law_74 (fun r5 σ5 w5 => ?_)
          obtain ⟨u1, u2⟩ := w5; rw [u1, u2]; clear u1 u2
          exact gx_iret C hr hlk rfl (fim_fd hR (by decide) (by unfold opLaw; rw [if_neg (fun q => nin02 (by assumption) (by assumption) (by assumption) q.1)]; rfl)) dX4_law_77
        ·
          exact absurd h4 (by decide)
      ·
        subst h3
        refine gx_iload_n C dX4_law_38 (by rfl) (by rfl) ?_
        refine gx_i2l C dX4_law_39 ?_
        refine gx_lconst (v := 0) C dX4_law_40 (by decide) ?_
        refine gx_ldc2 C kl_X4_85 dX4_law_41 ?_
        refine gx_callSI (As := [.long v.toInt64, .long 0, .long 999]) (rest := []) C (c_X4_in E σ v 0 999 v.toInt64 0 999 (by first | rfl | decide) (by first | rfl | decide) (by first | rfl | decide)) z_X4_in (by rfl) ml_X4_45 (by rfl) (Nat.le_of_ble_eq_true rfl) ⟨Nat.le_of_ble_eq_true rfl, Nat.le_of_ble_eq_true rfl⟩ dX4_law_44 (fun r6 σ6 w6 => ?_)
        obtain ⟨u1, u2⟩ := w6; rw [u1, u2]; clear u1 u2
        refine gx_if_eq (tgt := 54) C dX4_law_47 (by decide) (fun h7 => ?_) (fun h7 => ?_)
        ·
          have h7 := b2_z.mp h7
          refine gx_iconst (v := 0) C dX4_law_54 (by decide) ?_
          refine gx_istore_n (lv2 := [(3, .int 0), (0, .ref (eA E 49)), (1, .int 2), (2, .int v)]) C dX4_law_55 (by rfl) (by decide) rfl ?_
          refine gx_iload_n C dX4_law_56 (by rfl) (by rfl) ?_
          refine gx_if_eq (tgt := 71) C dX4_law_57 (by decide) (fun h8 => ?_) (fun h8 => ?_)
          ·
            clear h8
            refine gx_aload_n C dX4_law_71 (by rfl) (by rfl) ?_
            refine gx_ldc C kc_X4_37 dX4_law_72 ?_
            refine gx_callVI (As := [.int (-1000001)]) (rest := []) C (c_X4_finds E σ (-1000001) 0 (by decide) (by decide)) z_X4_finds ck4 (by rfl) (by rfl) ml_X4_39 (by rfl) (Nat.le_of_ble_eq_true rfl) ⟨Nat.le_of_ble_eq_true rfl, Nat.le_of_ble_eq_true rfl⟩ dX4_law_74 (fun r9 σ9 w9 => ?_)
            obtain ⟨u1, u2⟩ := w9; rw [u1, u2]; clear u1 u2
            exact gx_iret C hr hlk rfl (fim_fd hR (by decide) (opLaw_no (k := 2) (by decide) (by assumption))) dX4_law_77
          ·
            exact absurd h8 (by decide)
        ·
          have h7 := b2_nz.mp h7
          refine gx_iconst (v := 1) C dX4_law_50 (by decide) ?_
          refine gx_goto (tgt := 55) C dX4_law_51 (by decide) ?_
          refine gx_istore_n (lv2 := [(3, .int 1), (0, .ref (eA E 49)), (1, .int 2), (2, .int v)]) C dX4_law_55 (by rfl) (by decide) rfl ?_
          refine gx_iload_n C dX4_law_56 (by rfl) (by rfl) ?_
          refine gx_if_eq (tgt := 71) C dX4_law_57 (by decide) (fun h10 => ?_) (fun h10 => ?_)
          ·
            exact absurd h10 (by decide)
          ·
            clear h10
            refine gx_aload_n C dX4_law_60 (by rfl) (by rfl) ?_
            refine gx_iconst (v := 1) C dX4_law_61 (by decide) ?_
            refine gx_iload_n C dX4_law_62 (by rfl) (by rfl) ?_
            refine gx_iadd C dX4_law_63 ?_
            refine gx_st (st' := [.int (nI (1 + 2)), .ref (eA E 49)]) (by rw [show (1 : Int32) + 2 = nI (1 + 2) from by decide]) ?_
            refine gx_iload_n C dX4_law_64 (by rfl) (by rfl) ?_
            refine gx_callVI (As := [.int (nI (1 + 2)), .int v]) (rest := []) C (c_X4_becomes E σ (1 + 2) (by omega) v) z_X4_becomes ck4 (by rfl) (by rfl) ml_X4_68 (by rfl) (Nat.le_of_ble_eq_true rfl) ⟨Nat.le_of_ble_eq_true rfl, Nat.le_of_ble_eq_true rfl⟩ dX4_law_65 (fun r14 σ14 w14 => ?_)
            obtain ⟨u1, u2⟩ := w14; rw [u1, u2]; clear u1 u2
            refine gx_st (st' := [.int (K (9) 2)]) (by rw [mp_9 hM (p := 2) (by omega)]) ?_
            have hM11 : vM (up2 σ 50 (1 + 2) v) 50 = up2 K (9) 2 v := by rw [vM_up (j := 9) (p := 2) (by omega) (show _ < 3 by omega) (by rfl), hM]
            refine gx_goto (tgt := 77) C dX4_law_68 (by decide) ?_
            exact gx_iret C hr hlk rfl (fim_now hR hM11 (hO.laws (p := 2) (v := v) (by omega) (fun q => by first | (exact absurd q (by decide)) | assumption)) ((F3.rf).up (by decide)) (opLaw_ok (k := 2) (by decide) (by assumption))) dX4_law_77
    ·
      subst h2
      refine gx_iload_n C dX4_law_21 (by rfl) (by rfl) ?_
      refine gx_i2l C dX4_law_22 ?_
      refine gx_lconst (v := 1) C dX4_law_23 (by decide) ?_
      refine gx_ldc2 C kl_X4_83 dX4_law_24 ?_
      refine gx_callSI (As := [.long v.toInt64, .long 1, .long 5]) (rest := []) C (c_X4_in E σ v 1 5 v.toInt64 1 5 (by first | rfl | decide) (by first | rfl | decide) (by first | rfl | decide)) z_X4_in (by rfl) ml_X4_45 (by rfl) (Nat.le_of_ble_eq_true rfl) ⟨Nat.le_of_ble_eq_true rfl, Nat.le_of_ble_eq_true rfl⟩ dX4_law_27 (fun r15 σ15 w15 => ?_)
      obtain ⟨u1, u2⟩ := w15; rw [u1, u2]; clear u1 u2
      refine gx_goto (tgt := 55) C dX4_law_30 (by decide) ?_
      refine gx_istore_n (lv2 := [(3, .int (b2 (1 ≤ v ∧ v ≤ 5))), (0, .ref (eA E 49)), (1, .int 1), (2, .int v)]) C dX4_law_55 (by rfl) (by decide) rfl ?_
      refine gx_iload_n C dX4_law_56 (by rfl) (by rfl) ?_
      refine gx_if_eq (tgt := 71) C dX4_law_57 (by decide) (fun h16 => ?_) (fun h16 => ?_)
      ·
        have h16 := b2_z.mp h16
        refine gx_aload_n C dX4_law_71 (by rfl) (by rfl) ?_
        refine gx_ldc C kc_X4_37 dX4_law_72 ?_
        refine gx_callVI (As := [.int (-1000001)]) (rest := []) C (c_X4_finds E σ (-1000001) 0 (by decide) (by decide)) z_X4_finds ck4 (by rfl) (by rfl) ml_X4_39 (by rfl) (Nat.le_of_ble_eq_true rfl) ⟨Nat.le_of_ble_eq_true rfl, Nat.le_of_ble_eq_true rfl⟩ dX4_law_74 (fun r17 σ17 w17 => ?_)
        obtain ⟨u1, u2⟩ := w17; rw [u1, u2]; clear u1 u2
        exact gx_iret C hr hlk rfl (fim_fd hR (by decide) (opLaw_no (k := 1) (by decide) (by assumption))) dX4_law_77
      ·
        have h16 := b2_nz.mp h16
        refine gx_aload_n C dX4_law_60 (by rfl) (by rfl) ?_
        refine gx_iconst (v := 1) C dX4_law_61 (by decide) ?_
        refine gx_iload_n C dX4_law_62 (by rfl) (by rfl) ?_
        refine gx_iadd C dX4_law_63 ?_
        refine gx_st (st' := [.int (nI (1 + 1)), .ref (eA E 49)]) (by rw [show (1 : Int32) + 1 = nI (1 + 1) from by decide]) ?_
        refine gx_iload_n C dX4_law_64 (by rfl) (by rfl) ?_
        refine gx_callVI (As := [.int (nI (1 + 1)), .int v]) (rest := []) C (c_X4_becomes E σ (1 + 1) (by omega) v) z_X4_becomes ck4 (by rfl) (by rfl) ml_X4_68 (by rfl) (Nat.le_of_ble_eq_true rfl) ⟨Nat.le_of_ble_eq_true rfl, Nat.le_of_ble_eq_true rfl⟩ dX4_law_65 (fun r19 σ19 w19 => ?_)
        obtain ⟨u1, u2⟩ := w19; rw [u1, u2]; clear u1 u2
        refine gx_st (st' := [.int (K (9) 1)]) (by rw [mp_9 hM (p := 1) (by omega)]) ?_
        have hM18 : vM (up2 σ 50 (1 + 1) v) 50 = up2 K (9) 1 v := by rw [vM_up (j := 9) (p := 1) (by omega) (show _ < 3 by omega) (by rfl), hM]
        refine gx_goto (tgt := 77) C dX4_law_68 (by decide) ?_
        exact gx_iret C hr hlk rfl (fim_now hR hM18 (hO.laws (p := 1) (v := v) (by omega) (fun q => by first | (exact absurd q (by decide)) | assumption)) ((F3.rf).up (by decide)) (opLaw_ok (k := 1) (by decide) (by assumption))) dX4_law_77
  ·
    subst h1
    refine gx_iload_n C dX4_law_4 (by rfl) (by rfl) ?_
    refine gx_i2l C dX4_law_5 ?_
    refine gx_lconst (v := 0) C dX4_law_6 (by decide) ?_
    refine gx_ldc2 C kl_X4_81 dX4_law_7 ?_
    refine gx_callSI (As := [.long v.toInt64, .long 0, .long 2]) (rest := []) C (c_X4_in E σ v 0 2 v.toInt64 0 2 (by first | rfl | decide) (by first | rfl | decide) (by first | rfl | decide)) z_X4_in (by rfl) ml_X4_45 (by rfl) (Nat.le_of_ble_eq_true rfl) ⟨Nat.le_of_ble_eq_true rfl, Nat.le_of_ble_eq_true rfl⟩ dX4_law_10 (fun r20 σ20 w20 => ?_)
    obtain ⟨u1, u2⟩ := w20; rw [u1, u2]; clear u1 u2
    refine gx_goto (tgt := 55) C dX4_law_13 (by decide) ?_
    refine gx_istore_n (lv2 := [(3, .int (b2 (0 ≤ v ∧ v ≤ 2))), (0, .ref (eA E 49)), (1, .int 0), (2, .int v)]) C dX4_law_55 (by rfl) (by decide) rfl ?_
    refine gx_iload_n C dX4_law_56 (by rfl) (by rfl) ?_
    refine gx_if_eq (tgt := 71) C dX4_law_57 (by decide) (fun h21 => ?_) (fun h21 => ?_)
    ·
      have h21 := b2_z.mp h21
      refine gx_aload_n C dX4_law_71 (by rfl) (by rfl) ?_
      refine gx_ldc C kc_X4_37 dX4_law_72 ?_
      refine gx_callVI (As := [.int (-1000001)]) (rest := []) C (c_X4_finds E σ (-1000001) 0 (by decide) (by decide)) z_X4_finds ck4 (by rfl) (by rfl) ml_X4_39 (by rfl) (Nat.le_of_ble_eq_true rfl) ⟨Nat.le_of_ble_eq_true rfl, Nat.le_of_ble_eq_true rfl⟩ dX4_law_74 (fun r22 σ22 w22 => ?_)
      obtain ⟨u1, u2⟩ := w22; rw [u1, u2]; clear u1 u2
      exact gx_iret C hr hlk rfl (fim_fd hR (by decide) (opLaw_no (k := 0) (by decide) (by assumption))) dX4_law_77
    ·
      have h21 := b2_nz.mp h21
      refine gx_aload_n C dX4_law_60 (by rfl) (by rfl) ?_
      refine gx_iconst (v := 1) C dX4_law_61 (by decide) ?_
      refine gx_iload_n C dX4_law_62 (by rfl) (by rfl) ?_
      refine gx_iadd C dX4_law_63 ?_
      refine gx_st (st' := [.int (nI (1 + 0)), .ref (eA E 49)]) (by rw [show (1 : Int32) + 0 = nI (1 + 0) from by decide]) ?_
      refine gx_iload_n C dX4_law_64 (by rfl) (by rfl) ?_
      refine gx_callVI (As := [.int (nI (1 + 0)), .int v]) (rest := []) C (c_X4_becomes E σ (1 + 0) (by omega) v) z_X4_becomes ck4 (by rfl) (by rfl) ml_X4_68 (by rfl) (Nat.le_of_ble_eq_true rfl) ⟨Nat.le_of_ble_eq_true rfl, Nat.le_of_ble_eq_true rfl⟩ dX4_law_65 (fun r24 σ24 w24 => ?_)
      obtain ⟨u1, u2⟩ := w24; rw [u1, u2]; clear u1 u2
      refine gx_st (st' := [.int (K (9) 0)]) (by rw [mp_9 hM (p := 0) (by omega)]) ?_
      have hM23 : vM (up2 σ 50 (1 + 0) v) 50 = up2 K (9) 0 v := by rw [vM_up (j := 9) (p := 0) (by omega) (show _ < 3 by omega) (by rfl), hM]
      refine gx_goto (tgt := 77) C dX4_law_68 (by decide) ?_
      exact gx_iret C hr hlk rfl (fim_now hR hM23 (hO.laws (p := 0) (v := v) (by omega) (fun q => by first | (exact absurd q (by decide)) | assumption)) ((F3.rf).up (by decide)) (opLaw_ok (k := 0) (by decide) (by assumption))) dX4_law_77
set_option maxHeartbeats 4000000 in
set_option maxRecDepth 100000 in
theorem c_X4_person (E : En) (σ : Mm) (K L : Mm) (g : Int32) (F : Nat → Int32) (tl : Int32) (Bt W Z : Nat → Int32) (N : Mm) (hR : MR σ (K, L, g, F, tl, Bt, W, Z, N)) (k r : Int32) : CtI E yX4_person cX4_person 3 (some .int) 3 66 [.ref (eA E 49), .int k, .int r] σ (fun rr σ2 => rr = (opPerson (K, L, g, F, tl, Bt, W, Z, N) k r).1 ∧ MR σ2 (opPerson (K, L, g, F, tl, Bt, W, Z, N) k r).2 ∧ FM σ σ2) := by
  obtain ⟨⟨hM, hO⟩, ⟨hg1, hg2, hg3⟩, hFd, ⟨⟨htl, htl2⟩, hBt⟩, hSh⟩ := id hR
  obtain ⟨⟨hn, h12⟩, hpp, hlw, hsp, hz0⟩ := id hO
  refine CtI.of (by decide +kernel) (Nat.le_of_ble_eq_true rfl) (fun p e0 s m below meth c C hr hlk => ?_)
  refine gx_lv (lv' := [(0, .ref (eA E 49)), (1, .int k), (2, .int r)]) rfl ?_
  refine gx_iload_n C dX4_person_0 (by rfl) (by rfl) ?_
  refine gx_callSI (As := [.int k]) (rest := []) C (c_X4_isKind E σ k) z_X4_isKind (by rfl) ml_X4_91 (by rfl) (Nat.le_of_ble_eq_true rfl) ⟨Nat.le_of_ble_eq_true rfl, Nat.le_of_ble_eq_true rfl⟩ dX4_person_1 (fun r1 σ1 w1 => ?_)
  obtain ⟨u1, u2⟩ := w1; rw [u1, u2]; clear u1 u2
  refine gx_if_eq (tgt := 14) C dX4_person_4 (by decide) (fun h2 => ?_) (fun h2 => ?_)
  ·
    have h2 := b2_z.mp h2
    refine gx_aload_n C dX4_person_14 (by rfl) (by rfl) ?_
    refine gx_ldc C kc_X4_37 dX4_person_15 ?_
    refine gx_callVI (As := [.int (-1000001)]) (rest := []) C (c_X4_finds E σ (-1000001) 0 (by decide) (by decide)) z_X4_finds ck4 (by rfl) (by rfl) ml_X4_39 (by rfl) (Nat.le_of_ble_eq_true rfl) ⟨Nat.le_of_ble_eq_true rfl, Nat.le_of_ble_eq_true rfl⟩ dX4_person_17 (fun r3 σ3 w3 => ?_)
    obtain ⟨u1, u2⟩ := w3; rw [u1, u2]; clear u1 u2
    exact gx_iret C hr hlk rfl (fim_fd hR (by decide) (by first | (simp only [opPerson, ct, bey, ful, sta] <;> grind) | (simp only [opPerson, bey, ful, sta] <;> grind))) dX4_person_20
  ·
    have h2 := b2_nz.mp h2
    refine gx_iload_n C dX4_person_7 (by rfl) (by rfl) ?_
    refine gx_callSI (As := [.int r]) (rest := []) C (c_X4_isRank E σ r) z_X4_isRank (by rfl) ml_X4_61 (by rfl) (Nat.le_of_ble_eq_true rfl) ⟨Nat.le_of_ble_eq_true rfl, Nat.le_of_ble_eq_true rfl⟩ dX4_person_8 (fun r4 σ4 w4 => ?_)
    obtain ⟨u1, u2⟩ := w4; rw [u1, u2]; clear u1 u2
    refine gx_if_ne (tgt := 21) C dX4_person_11 (by decide) (fun h5 => ?_) (fun h5 => ?_)
    ·
      have h5 := b2_nz.mp h5
      obtain ⟨t, ht, rfl⟩ := r_nat h5
      have ct : (nI t).toNatClampNeg = t := nI_clamp (by omega)
      refine gx_aload_n C dX4_person_21 (by rfl) (by rfl) ?_
      refine gx_iload_n C dX4_person_22 (by rfl) (by rfl) ?_
      refine gx_callVI (As := [.int (nI t)]) (rest := []) C (c_X4_hasSeat E σ K hM hO t (by omega)) z_X4_hasSeat ck4 (by rfl) (by rfl) ml_X4_94 (by rfl) (Nat.le_of_ble_eq_true rfl) ⟨Nat.le_of_ble_eq_true rfl, Nat.le_of_ble_eq_true rfl⟩ dX4_person_23 (fun r6 σ6 w6 => ?_)
      obtain ⟨u1, u2⟩ := w6; rw [u1, u2]; clear u1 u2
      refine gx_if_ne (tgt := 36) C dX4_person_26 (by decide) (fun h7 => ?_) (fun h7 => ?_)
      ·
        have h7 := b2_nz.mp h7
        refine gx_aload_n C dX4_person_36 (by rfl) (by rfl) ?_
        refine gx_getr (j := 50) (k := 0) C ck4 (by rfl) (by rfl) (by decide) fl_X4_9 dX4_person_37 ?_
        refine gx_bipush (v := 6) C dX4_person_40 (by decide) ?_
        refine gx_ialdN (k := 6) C (by rfl) (by rfl) (by decide) (by decide) dX4_person_42 ?_
        refine gx_st (st' := [.int (nI (nn K))]) (by rw [mp_n hM, hn]) ?_
        refine gx_bipush (v := 12) C dX4_person_43 (by decide) ?_
        refine gx_icmp_ne (tgt := 57) C dX4_person_45 (by decide) (fun h8 => ?_) (fun h8 => ?_)
        ·
          have h8 := (not_congr (nI_eq (a := (nn K)) (b := 12) (by omega) (by omega))).mp h8
          refine gx_aload_n C dX4_person_57 (by rfl) (by rfl) ?_
          refine gx_iload_n C dX4_person_58 (by rfl) (by rfl) ?_
          refine gx_iload_n C dX4_person_59 (by rfl) (by rfl) ?_
          refine gx_callVI (As := [.int k, .int (nI t)]) (rest := []) C (c_X4_comes E σ K hM hO k (nI t) (by omega)) z_X4_comes ck4 (by rfl) (by rfl) ml_X4_98 (by rfl) (Nat.le_of_ble_eq_true rfl) ⟨Nat.le_of_ble_eq_true rfl, Nat.le_of_ble_eq_true rfl⟩ dX4_person_60 (fun r9 σ9 w9 => ?_)
          obtain ⟨er9, hM9, hF9⟩ := w9
          refine gx_st (st' := [.int (nI (nn K))]) (by rw [er9]) ?_
          exact gx_iret C hr hlk rfl (fim_now hR hM9 ((Ok_nw hO (by omega) (by assumption)).rank (by omega) (rk_rg (by omega))) ((F3.rf).f1 hF9 (by decide)) (by first | (simp only [opPerson, ct, bey, ful, sta] <;> grind) | (simp only [opPerson, bey, ful, sta] <;> grind))) dX4_person_63
        ·
          have h8 := (nI_eq (a := (nn K)) (b := 12) (by omega) (by omega)).mp h8
          refine gx_aload_n C dX4_person_48 (by rfl) (by rfl) ?_
          refine gx_ldc C kc_X4_97 dX4_person_49 ?_
          refine gx_callVI (As := [.int (-1000002)]) (rest := []) C (c_X4_finds E σ (-1000002) 1 (by decide) (by decide)) z_X4_finds ck4 (by rfl) (by rfl) ml_X4_39 (by rfl) (Nat.le_of_ble_eq_true rfl) ⟨Nat.le_of_ble_eq_true rfl, Nat.le_of_ble_eq_true rfl⟩ dX4_person_51 (fun r10 σ10 w10 => ?_)
          obtain ⟨u1, u2⟩ := w10; rw [u1, u2]; clear u1 u2
          refine gx_goto (tgt := 63) C dX4_person_54 (by decide) ?_
          exact gx_iret C hr hlk rfl (fim_fd hR (by decide) (by first | (simp only [opPerson, ct, bey, ful, sta] <;> grind) | (simp only [opPerson, bey, ful, sta] <;> grind))) dX4_person_63
      ·
        have h7 := b2_z.mp h7
        refine gx_aload_n C dX4_person_29 (by rfl) (by rfl) ?_
        refine gx_ldc C kc_X4_67 dX4_person_30 ?_
        refine gx_callVI (As := [.int (-1000005)]) (rest := []) C (c_X4_finds E σ (-1000005) 4 (by decide) (by decide)) z_X4_finds ck4 (by rfl) (by rfl) ml_X4_39 (by rfl) (Nat.le_of_ble_eq_true rfl) ⟨Nat.le_of_ble_eq_true rfl, Nat.le_of_ble_eq_true rfl⟩ dX4_person_32 (fun r11 σ11 w11 => ?_)
        obtain ⟨u1, u2⟩ := w11; rw [u1, u2]; clear u1 u2
        exact gx_iret C hr hlk rfl (fim_fd hR (by decide) (by first | (simp only [opPerson, ct, bey, ful, sta] <;> grind) | (simp only [opPerson, bey, ful, sta] <;> grind))) dX4_person_35
    ·
      have h5 := b2_z.mp h5
      refine gx_aload_n C dX4_person_14 (by rfl) (by rfl) ?_
      refine gx_ldc C kc_X4_37 dX4_person_15 ?_
      refine gx_callVI (As := [.int (-1000001)]) (rest := []) C (c_X4_finds E σ (-1000001) 0 (by decide) (by decide)) z_X4_finds ck4 (by rfl) (by rfl) ml_X4_39 (by rfl) (Nat.le_of_ble_eq_true rfl) ⟨Nat.le_of_ble_eq_true rfl, Nat.le_of_ble_eq_true rfl⟩ dX4_person_17 (fun r14 σ14 w14 => ?_)
      obtain ⟨u1, u2⟩ := w14; rw [u1, u2]; clear u1 u2
      exact gx_iret C hr hlk rfl (fim_fd hR (by decide) (by first | (simp only [opPerson, ct, bey, ful, sta] <;> grind) | (simp only [opPerson, bey, ful, sta] <;> grind))) dX4_person_20
theorem opOf_j {A : As} {j k : Nat} (hj : j ≤ 6) (hk : k < nn A.1) (hO : Ok A.1) : opOf A (nI k) (nI j) = (A.1 (j + 1) k, A) := by
  have h12 := hO.1.2
  unfold opOf
  rw [if_pos (nI_has hO hk), show cl (nI k) = k from nI_clamp (by omega)]
  rcases (show j = 0 ∨ j = 1 ∨ j = 2 ∨ j = 3 ∨ j = 4 ∨ j = 5 ∨ j = 6 by omega) with rfl | rfl | rfl | rfl | rfl | rfl | rfl <;> rfl
set_option maxHeartbeats 4000000 in
set_option maxRecDepth 100000 in
theorem c_X4_of (E : En) (σ : Mm) (K L : Mm) (g : Int32) (F : Nat → Int32) (tl : Int32) (Bt W Z : Nat → Int32) (N : Mm) (hR : MR σ (K, L, g, F, tl, Bt, W, Z, N)) (q w : Int32) : CtI E yX4_of cX4_of 3 (some .int) 2 46 [.ref (eA E 49), .int q, .int w] σ (fun rr σ2 => rr = (opOf (K, L, g, F, tl, Bt, W, Z, N) q w).1 ∧ MR σ2 (opOf (K, L, g, F, tl, Bt, W, Z, N) q w).2 ∧ FM σ σ2) := by
  obtain ⟨⟨hM, hO⟩, ⟨hg1, hg2, hg3⟩, hFd, ⟨⟨htl, htl2⟩, hBt⟩, hSh⟩ := id hR
  obtain ⟨⟨hn, h12⟩, hpp, hlw, hsp, hz0⟩ := id hO
  refine CtI.of (by decide +kernel) (Nat.le_of_ble_eq_true rfl) (fun p e0 s m below meth c C hr hlk => ?_)
  refine gx_lv (lv' := [(0, .ref (eA E 49)), (1, .int q), (2, .int w)]) rfl ?_
  refine gx_aload_n C dX4_of_0 (by rfl) (by rfl) ?_
  refine gx_iload_n C dX4_of_1 (by rfl) (by rfl) ?_
  refine gx_callVI (As := [.int q]) (rest := []) C (c_X4_isPerson E σ K hM hO q) z_X4_isPerson ck4 (by rfl) (by rfl) ml_X4_101 (by rfl) (Nat.le_of_ble_eq_true rfl) ⟨Nat.le_of_ble_eq_true rfl, Nat.le_of_ble_eq_true rfl⟩ dX4_of_2 (fun r1 σ1 w1 => ?_)
  obtain ⟨u1, u2⟩ := w1; rw [u1, u2]; clear u1 u2
  refine gx_if_eq (tgt := 29) C dX4_of_5 (by decide) (fun h2 => ?_) (fun h2 => ?_)
  ·
    have h2 := b2_z.mp h2
    refine gx_aload_n C dX4_of_29 (by rfl) (by rfl) ?_
    refine gx_ldc C kc_X4_37 dX4_of_30 ?_
    refine gx_callVI (As := [.int (-1000001)]) (rest := []) C (c_X4_finds E σ (-1000001) 0 (by decide) (by decide)) z_X4_finds ck4 (by rfl) (by rfl) ml_X4_39 (by rfl) (Nat.le_of_ble_eq_true rfl) ⟨Nat.le_of_ble_eq_true rfl, Nat.le_of_ble_eq_true rfl⟩ dX4_of_32 (fun r3 σ3 w3 => ?_)
    obtain ⟨u1, u2⟩ := w3; rw [u1, u2]; clear u1 u2
    exact gx_iret C hr hlk rfl (fim_fd hR (by decide) (by simp only [opOf, bey, ful, knd, non, sta, mis, siz] <;> grind)) dX4_of_35
  ·
    have h2 := b2_nz.mp h2
    obtain ⟨k, hk, rfl⟩ := has_nat hO h2
    have ck : (nI k).toNatClampNeg = k := nI_clamp (by omega)
    refine gx_iload_n C dX4_of_8 (by rfl) (by rfl) ?_
    refine gx_i2l C dX4_of_9 ?_
    refine gx_lconst (v := 0) C dX4_of_10 (by decide) ?_
    refine gx_ldc2 C kl_X4_49 dX4_of_11 ?_
    refine gx_callSI (As := [.long w.toInt64, .long 0, .long 6]) (rest := []) C (c_X4_in E σ w 0 6 w.toInt64 0 6 (by first | rfl | decide) (by first | rfl | decide) (by first | rfl | decide)) z_X4_in (by rfl) ml_X4_45 (by rfl) (Nat.le_of_ble_eq_true rfl) ⟨Nat.le_of_ble_eq_true rfl, Nat.le_of_ble_eq_true rfl⟩ dX4_of_14 (fun r4 σ4 w4 => ?_)
    obtain ⟨u1, u2⟩ := w4; rw [u1, u2]; clear u1 u2
    refine gx_if_eq (tgt := 29) C dX4_of_17 (by decide) (fun h5 => ?_) (fun h5 => ?_)
    ·
      have h5 := b2_z.mp h5
      have nw := nin06 h5
      refine gx_aload_n C dX4_of_29 (by rfl) (by rfl) ?_
      refine gx_ldc C kc_X4_37 dX4_of_30 ?_
      refine gx_callVI (As := [.int (-1000001)]) (rest := []) C (c_X4_finds E σ (-1000001) 0 (by decide) (by decide)) z_X4_finds ck4 (by rfl) (by rfl) ml_X4_39 (by rfl) (Nat.le_of_ble_eq_true rfl) ⟨Nat.le_of_ble_eq_true rfl, Nat.le_of_ble_eq_true rfl⟩ dX4_of_32 (fun r6 σ6 w6 => ?_)
      obtain ⟨u1, u2⟩ := w6; rw [u1, u2]; clear u1 u2
      exact gx_iret C hr hlk rfl (fim_fd hR (by decide) (by simp only [opOf, bey, ful, knd, non, sta, mis, siz] <;> grind)) dX4_of_35
    ·
      have h5 := b2_nz.mp h5
      obtain ⟨j, hj, rfl⟩ := i_nat (M := 6) (n := 6) (by decide) h5
      refine gx_aload_n C dX4_of_20 (by rfl) (by rfl) ?_
      refine gx_iload_n C dX4_of_21 (by rfl) (by rfl) ?_
      refine gx_iload_n C dX4_of_22 (by rfl) (by rfl) ?_
      refine gx_callVI (As := [.int (nI k), .int (nI j)]) (rest := []) C (c_X4_is E σ k (by omega) j (by omega)) z_X4_is ck4 (by rfl) (by rfl) ml_X4_51 (by rfl) (Nat.le_of_ble_eq_true rfl) ⟨Nat.le_of_ble_eq_true rfl, Nat.le_of_ble_eq_true rfl⟩ dX4_of_23 (fun r7 σ7 w7 => ?_)
      obtain ⟨u1, u2⟩ := w7; rw [u1, u2]; clear u1 u2
      refine gx_st (st' := [.int (K (j + 1) k)]) (by rw [mp_J hM (by omega) (p := k) (by omega)]) ?_
      refine gx_goto (tgt := 35) C dX4_of_26 (by decide) ?_
      exact gx_iret C hr hlk rfl (fim_rd hR (opOf_j (by omega) hk hO)) dX4_of_35
set_option maxHeartbeats 4000000 in
set_option maxRecDepth 100000 in
theorem c_X4_change (E : En) (σ : Mm) (K L : Mm) (g : Int32) (F : Nat → Int32) (tl : Int32) (Bt W Z : Nat → Int32) (N : Mm) (hR : MR σ (K, L, g, F, tl, Bt, W, Z, N)) (q w v : Int32) : CtI E yX4_change cX4_change 4 (some .int) 3 66 [.ref (eA E 49), .int q, .int w, .int v] σ (fun rr σ2 => rr = (opChange (K, L, g, F, tl, Bt, W, Z, N) q w v).1 ∧ MR σ2 (opChange (K, L, g, F, tl, Bt, W, Z, N) q w v).2 ∧ FM σ σ2) := by
  obtain ⟨⟨hM, hO⟩, ⟨hg1, hg2, hg3⟩, hFd, ⟨⟨htl, htl2⟩, hBt⟩, hSh⟩ := id hR
  obtain ⟨⟨hn, h12⟩, hpp, hlw, hsp, hz0⟩ := id hO
  refine CtI.of (by decide +kernel) (Nat.le_of_ble_eq_true rfl) (fun p e0 s m below meth c C hr hlk => ?_)
  refine gx_lv (lv' := [(0, .ref (eA E 49)), (1, .int q), (2, .int w), (3, .int v)]) rfl ?_
  refine gx_aload_n C dX4_change_0 (by rfl) (by rfl) ?_
  refine gx_iload_n C dX4_change_1 (by rfl) (by rfl) ?_
  refine gx_callVI (As := [.int q]) (rest := []) C (c_X4_isPerson E σ K hM hO q) z_X4_isPerson ck4 (by rfl) (by rfl) ml_X4_101 (by rfl) (Nat.le_of_ble_eq_true rfl) ⟨Nat.le_of_ble_eq_true rfl, Nat.le_of_ble_eq_true rfl⟩ dX4_change_2 (fun r1 σ1 w1 => ?_)
  obtain ⟨u1, u2⟩ := w1; rw [u1, u2]; clear u1 u2
  refine gx_if_eq (tgt := 33) C dX4_change_5 (by decide) (fun h2 => ?_) (fun h2 => ?_)
  ·
    have h2 := b2_z.mp h2
    refine gx_aload_n C dX4_change_33 (by rfl) (by rfl) ?_
    refine gx_ldc C kc_X4_37 dX4_change_34 ?_
    refine gx_callVI (As := [.int (-1000001)]) (rest := []) C (c_X4_finds E σ (-1000001) 0 (by decide) (by decide)) z_X4_finds ck4 (by rfl) (by rfl) ml_X4_39 (by rfl) (Nat.le_of_ble_eq_true rfl) ⟨Nat.le_of_ble_eq_true rfl, Nat.le_of_ble_eq_true rfl⟩ dX4_change_36 (fun r3 σ3 w3 => ?_)
    obtain ⟨u1, u2⟩ := w3; rw [u1, u2]; clear u1 u2
    exact gx_iret C hr hlk rfl (fim_fd hR (by decide) (by simp only [opChange, bey, ful, knd, non, sta, mis, siz] <;> grind)) dX4_change_39
  ·
    have h2 := b2_nz.mp h2
    obtain ⟨k, hk, rfl⟩ := has_nat hO h2
    have ck : (nI k).toNatClampNeg = k := nI_clamp (by omega)
    refine gx_iload_n C dX4_change_8 (by rfl) (by rfl) ?_
    refine gx_iload_n C dX4_change_9 (by rfl) (by rfl) ?_
    refine gx_callSI (As := [.int w, .int v]) (rest := []) C (c_X4_isPart E σ w v) z_X4_isPart (by rfl) ml_X4_110 (by rfl) (Nat.le_of_ble_eq_true rfl) ⟨Nat.le_of_ble_eq_true rfl, Nat.le_of_ble_eq_true rfl⟩ dX4_change_10 (fun r4 σ4 w4 => ?_)
    obtain ⟨u1, u2⟩ := w4; rw [u1, u2]; clear u1 u2
    refine gx_if_eq (tgt := 33) C dX4_change_13 (by decide) (fun h5 => ?_) (fun h5 => ?_)
    ·
      have h5 := b2_z.mp h5
      refine gx_aload_n C dX4_change_33 (by rfl) (by rfl) ?_
      refine gx_ldc C kc_X4_37 dX4_change_34 ?_
      refine gx_callVI (As := [.int (-1000001)]) (rest := []) C (c_X4_finds E σ (-1000001) 0 (by decide) (by decide)) z_X4_finds ck4 (by rfl) (by rfl) ml_X4_39 (by rfl) (Nat.le_of_ble_eq_true rfl) ⟨Nat.le_of_ble_eq_true rfl, Nat.le_of_ble_eq_true rfl⟩ dX4_change_36 (fun r6 σ6 w6 => ?_)
      obtain ⟨u1, u2⟩ := w6; rw [u1, u2]; clear u1 u2
      exact gx_iret C hr hlk rfl (fim_fd hR (by decide) (by simp only [opChange, bey, ful, knd, non, sta, mis, siz] <;> grind)) dX4_change_39
    ·
      have h5 := b2_nz.mp h5
      rcases h5 with ⟨e0, hv⟩ | ⟨e0, hv⟩ | ⟨e0, hv⟩ | ⟨e0, hv⟩
      ·
        subst e0
        refine gx_aload_n C dX4_change_16 (by rfl) (by rfl) ?_
        refine gx_bipush (v := 15) C dX4_change_17 (by decide) ?_
        refine gx_bipush (v := 7) C dX4_change_19 (by decide) ?_
        refine gx_iload_n C dX4_change_21 (by rfl) (by rfl) ?_
        refine gx_imul C dX4_change_22 ?_
        refine gx_st (st' := [.int (nI (7 * k)), .int 15, .ref (eA E 49)]) (by rw [show 7 * (nI k) = nI (7 * k) from pk_mul 7 k]) ?_
        refine gx_iadd C dX4_change_23 ?_
        refine gx_st (st' := [.int (nI (15 + 7 * k)), .ref (eA E 49)]) (by rw [show 15 + (nI (7 * k)) = nI (15 + 7 * k) from nI_add 15 (7 * k)]) ?_
        refine gx_iload_n C dX4_change_24 (by rfl) (by rfl) ?_
        refine gx_iadd C dX4_change_25 ?_
        refine gx_st (st' := [.int (nI (15 + 7 * k + 0)), .ref (eA E 49)]) (by rw [show (nI (15 + 7 * k)) + 0 = nI (15 + 7 * k + 0) from nI_add (15 + 7 * k) 0]) ?_
        refine gx_iload_n C dX4_change_26 (by rfl) (by rfl) ?_
        refine gx_callVI (As := [.int (nI (15 + 7 * k + 0)), .int v]) (rest := []) C (c_X4_becomes E σ (15 + 7 * k + 0) (by omega) v) z_X4_becomes ck4 (by rfl) (by rfl) ml_X4_68 (by rfl) (Nat.le_of_ble_eq_true rfl) ⟨Nat.le_of_ble_eq_true rfl, Nat.le_of_ble_eq_true rfl⟩ dX4_change_27 (fun r8 σ8 w8 => ?_)
        obtain ⟨u1, u2⟩ := w8; rw [u1, u2]; clear u1 u2
        refine gx_st (st' := [.int (K (1) k)]) (by rw [mp_1 hM (p := k) (by omega)]) ?_
        have hM7 : vM (up2 σ 50 (15 + 7 * k + 0) v) 50 = up2 K (1) k v := by rw [vM_mk (by omega) (by omega), hM]
        refine gx_goto (tgt := 39) C dX4_change_30 (by decide) ?_
        exact gx_iret C hr hlk rfl (fim_now hR hM7 (hO.kind (p := k) (v := v) (by omega) hv) ((F3.rf).up (by decide)) (by simp only [opChange, ck]; rw [if_pos (nI_has hO hk)]; simp only [show ¬ (2 : Int32) = 0 from by decide, show ¬ (3 : Int32) = 0 from by decide, show ¬ (3 : Int32) = 2 from by decide, show ¬ (4 : Int32) = 0 from by decide, show ¬ (4 : Int32) = 2 from by decide, show ¬ (4 : Int32) = 3 from by decide, if_true, if_false]; rw [if_pos hv])) dX4_change_39
      ·
        subst e0
        refine gx_aload_n C dX4_change_16 (by rfl) (by rfl) ?_
        refine gx_bipush (v := 15) C dX4_change_17 (by decide) ?_
        refine gx_bipush (v := 7) C dX4_change_19 (by decide) ?_
        refine gx_iload_n C dX4_change_21 (by rfl) (by rfl) ?_
        refine gx_imul C dX4_change_22 ?_
        refine gx_st (st' := [.int (nI (7 * k)), .int 15, .ref (eA E 49)]) (by rw [show 7 * (nI k) = nI (7 * k) from pk_mul 7 k]) ?_
        refine gx_iadd C dX4_change_23 ?_
        refine gx_st (st' := [.int (nI (15 + 7 * k)), .ref (eA E 49)]) (by rw [show 15 + (nI (7 * k)) = nI (15 + 7 * k) from nI_add 15 (7 * k)]) ?_
        refine gx_iload_n C dX4_change_24 (by rfl) (by rfl) ?_
        refine gx_iadd C dX4_change_25 ?_
        refine gx_st (st' := [.int (nI (15 + 7 * k + 2)), .ref (eA E 49)]) (by rw [show (nI (15 + 7 * k)) + 2 = nI (15 + 7 * k + 2) from nI_add (15 + 7 * k) 2]) ?_
        refine gx_iload_n C dX4_change_26 (by rfl) (by rfl) ?_
        refine gx_callVI (As := [.int (nI (15 + 7 * k + 2)), .int v]) (rest := []) C (c_X4_becomes E σ (15 + 7 * k + 2) (by omega) v) z_X4_becomes ck4 (by rfl) (by rfl) ml_X4_68 (by rfl) (Nat.le_of_ble_eq_true rfl) ⟨Nat.le_of_ble_eq_true rfl, Nat.le_of_ble_eq_true rfl⟩ dX4_change_27 (fun r10 σ10 w10 => ?_)
        obtain ⟨u1, u2⟩ := w10; rw [u1, u2]; clear u1 u2
        refine gx_st (st' := [.int (K (3) k)]) (by rw [mp_3 hM (p := k) (by omega)]) ?_
        have hM9 : vM (up2 σ 50 (15 + 7 * k + 2) v) 50 = up2 K (3) k v := by rw [vM_mk (by omega) (by omega), hM]
        refine gx_goto (tgt := 39) C dX4_change_30 (by decide) ?_
        exact gx_iret C hr hlk rfl (fim_now hR hM9 (hO.age (p := k) (v := v) (by omega) hv) ((F3.rf).up (by decide)) (by simp only [opChange, ck]; rw [if_pos (nI_has hO hk)]; simp only [show ¬ (2 : Int32) = 0 from by decide, show ¬ (3 : Int32) = 0 from by decide, show ¬ (3 : Int32) = 2 from by decide, show ¬ (4 : Int32) = 0 from by decide, show ¬ (4 : Int32) = 2 from by decide, show ¬ (4 : Int32) = 3 from by decide, if_true, if_false]; rw [if_pos hv])) dX4_change_39
      ·
        subst e0
        refine gx_aload_n C dX4_change_16 (by rfl) (by rfl) ?_
        refine gx_bipush (v := 15) C dX4_change_17 (by decide) ?_
        refine gx_bipush (v := 7) C dX4_change_19 (by decide) ?_
        refine gx_iload_n C dX4_change_21 (by rfl) (by rfl) ?_
        refine gx_imul C dX4_change_22 ?_
        refine gx_st (st' := [.int (nI (7 * k)), .int 15, .ref (eA E 49)]) (by rw [show 7 * (nI k) = nI (7 * k) from pk_mul 7 k]) ?_
        refine gx_iadd C dX4_change_23 ?_
        refine gx_st (st' := [.int (nI (15 + 7 * k)), .ref (eA E 49)]) (by rw [show 15 + (nI (7 * k)) = nI (15 + 7 * k) from nI_add 15 (7 * k)]) ?_
        refine gx_iload_n C dX4_change_24 (by rfl) (by rfl) ?_
        refine gx_iadd C dX4_change_25 ?_
        refine gx_st (st' := [.int (nI (15 + 7 * k + 3)), .ref (eA E 49)]) (by rw [show (nI (15 + 7 * k)) + 3 = nI (15 + 7 * k + 3) from nI_add (15 + 7 * k) 3]) ?_
        refine gx_iload_n C dX4_change_26 (by rfl) (by rfl) ?_
        refine gx_callVI (As := [.int (nI (15 + 7 * k + 3)), .int v]) (rest := []) C (c_X4_becomes E σ (15 + 7 * k + 3) (by omega) v) z_X4_becomes ck4 (by rfl) (by rfl) ml_X4_68 (by rfl) (Nat.le_of_ble_eq_true rfl) ⟨Nat.le_of_ble_eq_true rfl, Nat.le_of_ble_eq_true rfl⟩ dX4_change_27 (fun r14 σ14 w14 => ?_)
        obtain ⟨u1, u2⟩ := w14; rw [u1, u2]; clear u1 u2
        refine gx_st (st' := [.int (K (4) k)]) (by rw [mp_4 hM (p := k) (by omega)]) ?_
        have hM11 : vM (up2 σ 50 (15 + 7 * k + 3) v) 50 = up2 K (4) k v := by rw [vM_mk (by omega) (by omega), hM]
        refine gx_goto (tgt := 39) C dX4_change_30 (by decide) ?_
        exact gx_iret C hr hlk rfl (fim_now hR hM11 (hO.house (p := k) (v := v) (by omega)) ((F3.rf).up (by decide)) (by simp only [opChange, ck]; rw [if_pos (nI_has hO hk)]; simp only [show ¬ (2 : Int32) = 0 from by decide, show ¬ (3 : Int32) = 0 from by decide, show ¬ (3 : Int32) = 2 from by decide, show ¬ (4 : Int32) = 0 from by decide, show ¬ (4 : Int32) = 2 from by decide, show ¬ (4 : Int32) = 3 from by decide, if_true, if_false]; rw [if_pos hv])) dX4_change_39
      ·
        subst e0
        refine gx_aload_n C dX4_change_16 (by rfl) (by rfl) ?_
        refine gx_bipush (v := 15) C dX4_change_17 (by decide) ?_
        refine gx_bipush (v := 7) C dX4_change_19 (by decide) ?_
        refine gx_iload_n C dX4_change_21 (by rfl) (by rfl) ?_
        refine gx_imul C dX4_change_22 ?_
        refine gx_st (st' := [.int (nI (7 * k)), .int 15, .ref (eA E 49)]) (by rw [show 7 * (nI k) = nI (7 * k) from pk_mul 7 k]) ?_
        refine gx_iadd C dX4_change_23 ?_
        refine gx_st (st' := [.int (nI (15 + 7 * k)), .ref (eA E 49)]) (by rw [show 15 + (nI (7 * k)) = nI (15 + 7 * k) from nI_add 15 (7 * k)]) ?_
        refine gx_iload_n C dX4_change_24 (by rfl) (by rfl) ?_
        refine gx_iadd C dX4_change_25 ?_
        refine gx_st (st' := [.int (nI (15 + 7 * k + 4)), .ref (eA E 49)]) (by rw [show (nI (15 + 7 * k)) + 4 = nI (15 + 7 * k + 4) from nI_add (15 + 7 * k) 4]) ?_
        refine gx_iload_n C dX4_change_26 (by rfl) (by rfl) ?_
        refine gx_callVI (As := [.int (nI (15 + 7 * k + 4)), .int v]) (rest := []) C (c_X4_becomes E σ (15 + 7 * k + 4) (by omega) v) z_X4_becomes ck4 (by rfl) (by rfl) ml_X4_68 (by rfl) (Nat.le_of_ble_eq_true rfl) ⟨Nat.le_of_ble_eq_true rfl, Nat.le_of_ble_eq_true rfl⟩ dX4_change_27 (fun r16 σ16 w16 => ?_)
        obtain ⟨u1, u2⟩ := w16; rw [u1, u2]; clear u1 u2
        refine gx_st (st' := [.int (K (5) k)]) (by rw [mp_5 hM (p := k) (by omega)]) ?_
        have hM15 : vM (up2 σ 50 (15 + 7 * k + 4) v) 50 = up2 K (5) k v := by rw [vM_mk (by omega) (by omega), hM]
        refine gx_goto (tgt := 39) C dX4_change_30 (by decide) ?_
        exact gx_iret C hr hlk rfl (fim_now hR hM15 (hO.gold (p := k) (v := v) (by omega) hv) ((F3.rf).up (by decide)) (by simp only [opChange, ck]; rw [if_pos (nI_has hO hk)]; simp only [show ¬ (2 : Int32) = 0 from by decide, show ¬ (3 : Int32) = 0 from by decide, show ¬ (3 : Int32) = 2 from by decide, show ¬ (4 : Int32) = 0 from by decide, show ¬ (4 : Int32) = 2 from by decide, show ¬ (4 : Int32) = 3 from by decide, if_true, if_false]; rw [if_pos hv])) dX4_change_39
set_option maxHeartbeats 4000000 in
set_option maxRecDepth 100000 in
theorem c_X4_grudge (E : En) (σ : Mm) (K L : Mm) (g : Int32) (F : Nat → Int32) (tl : Int32) (Bt W Z : Nat → Int32) (N : Mm) (hR : MR σ (K, L, g, F, tl, Bt, W, Z, N)) (q t : Int32) : CtI E yX4_grudge cX4_grudge 3 (some .int) 3 68 [.ref (eA E 49), .int q, .int t] σ (fun rr σ2 => rr = (opGrudge (K, L, g, F, tl, Bt, W, Z, N) q t).1 ∧ MR σ2 (opGrudge (K, L, g, F, tl, Bt, W, Z, N) q t).2 ∧ FM σ σ2) := by
  obtain ⟨⟨hM, hO⟩, ⟨hg1, hg2, hg3⟩, hFd, ⟨⟨htl, htl2⟩, hBt⟩, hSh⟩ := id hR
  obtain ⟨⟨hn, h12⟩, hpp, hlw, hsp, hz0⟩ := id hO
  refine CtI.of (by decide +kernel) (Nat.le_of_ble_eq_true rfl) (fun p e0 s m below meth c C hr hlk => ?_)
  refine gx_lv (lv' := [(0, .ref (eA E 49)), (1, .int q), (2, .int t)]) rfl ?_
  refine gx_aload_n C dX4_grudge_0 (by rfl) (by rfl) ?_
  refine gx_iload_n C dX4_grudge_1 (by rfl) (by rfl) ?_
  refine gx_callVI (As := [.int q]) (rest := []) C (c_X4_isPerson E σ K hM hO q) z_X4_isPerson ck4 (by rfl) (by rfl) ml_X4_101 (by rfl) (Nat.le_of_ble_eq_true rfl) ⟨Nat.le_of_ble_eq_true rfl, Nat.le_of_ble_eq_true rfl⟩ dX4_grudge_2 (fun r1 σ1 w1 => ?_)
  obtain ⟨u1, u2⟩ := w1; rw [u1, u2]; clear u1 u2
  refine gx_if_eq (tgt := 26) C dX4_grudge_5 (by decide) (fun h2 => ?_) (fun h2 => ?_)
  ·
    have h2 := b2_z.mp h2
    refine gx_aload_n C dX4_grudge_26 (by rfl) (by rfl) ?_
    refine gx_ldc C kc_X4_37 dX4_grudge_27 ?_
    refine gx_callVI (As := [.int (-1000001)]) (rest := []) C (c_X4_finds E σ (-1000001) 0 (by decide) (by decide)) z_X4_finds ck4 (by rfl) (by rfl) ml_X4_39 (by rfl) (Nat.le_of_ble_eq_true rfl) ⟨Nat.le_of_ble_eq_true rfl, Nat.le_of_ble_eq_true rfl⟩ dX4_grudge_29 (fun r3 σ3 w3 => ?_)
    obtain ⟨u1, u2⟩ := w3; rw [u1, u2]; clear u1 u2
    exact gx_iret C hr hlk rfl (fim_fd hR (by decide) (by first | (simp only [opGrudge, ck, bey]; rw [if_pos (by grind)]) | (simp only [opGrudge, bey] <;> grind))) dX4_grudge_32
  ·
    have h2 := b2_nz.mp h2
    obtain ⟨k, hk, rfl⟩ := has_nat hO h2
    have ck : (nI k).toNatClampNeg = k := nI_clamp (by omega)
    refine gx_aload_n C dX4_grudge_8 (by rfl) (by rfl) ?_
    refine gx_iload_n C dX4_grudge_9 (by rfl) (by rfl) ?_
    refine gx_iload_n C dX4_grudge_10 (by rfl) (by rfl) ?_
    refine gx_callVI (As := [.int (nI k), .int t]) (rest := []) C (c_X4_mayBear E σ K hM hO (nI k) t) z_X4_mayBear ck4 (by rfl) (by rfl) ml_X4_113 (by rfl) (Nat.le_of_ble_eq_true rfl) ⟨Nat.le_of_ble_eq_true rfl, Nat.le_of_ble_eq_true rfl⟩ dX4_grudge_11 (fun r4 σ4 w4 => ?_)
    obtain ⟨u1, u2⟩ := w4; rw [u1, u2]; clear u1 u2
    refine gx_if_eq (tgt := 26) C dX4_grudge_14 (by decide) (fun h5 => ?_) (fun h5 => ?_)
    ·
      have h5 := b2_z.mp h5
      refine gx_aload_n C dX4_grudge_26 (by rfl) (by rfl) ?_
      refine gx_ldc C kc_X4_37 dX4_grudge_27 ?_
      refine gx_callVI (As := [.int (-1000001)]) (rest := []) C (c_X4_finds E σ (-1000001) 0 (by decide) (by decide)) z_X4_finds ck4 (by rfl) (by rfl) ml_X4_39 (by rfl) (Nat.le_of_ble_eq_true rfl) ⟨Nat.le_of_ble_eq_true rfl, Nat.le_of_ble_eq_true rfl⟩ dX4_grudge_29 (fun r6 σ6 w6 => ?_)
      obtain ⟨u1, u2⟩ := w6; rw [u1, u2]; clear u1 u2
      exact gx_iret C hr hlk rfl (fim_fd hR (by decide) (by first | (simp only [opGrudge, ck, bey]; rw [if_pos (by grind)]) | (simp only [opGrudge, bey] <;> grind))) dX4_grudge_32
    ·
      have h5 := b2_nz.mp h5
      refine gx_aload_n C dX4_grudge_17 (by rfl) (by rfl) ?_
      refine gx_iload_n C dX4_grudge_18 (by rfl) (by rfl) ?_
      refine gx_iload_n C dX4_grudge_19 (by rfl) (by rfl) ?_
      refine gx_callVI (As := [.int (nI k), .int t]) (rest := []) C (c_X4_bears E σ K hM hO k (by omega) t) z_X4_bears ck4 (by rfl) (by rfl) ml_X4_116 (by rfl) (Nat.le_of_ble_eq_true rfl) ⟨Nat.le_of_ble_eq_true rfl, Nat.le_of_ble_eq_true rfl⟩ dX4_grudge_20 (fun r7 σ7 w7 => ?_)
      obtain ⟨er7, hM7, hF7⟩ := w7
      rw [bear_c] at hM7
      refine gx_st (st' := [.int (K 6 k)]) (by rw [er7]) ?_
      refine gx_goto (tgt := 32) C dX4_grudge_23 (by decide) ?_
      exact gx_iret C hr hlk rfl (fim_now hR hM7 ((hO.grudge (p := k) (v := t) (by omega) (q_rg hO (by grind))).gift (p := k) (v := 0) (by omega)) ((F3.rf).f1 hF7 (by decide)) (by first | (simp only [opGrudge, ck, bey]; rw [if_pos (by grind)]) | (simp only [opGrudge, bey] <;> grind))) dX4_grudge_32
set_option maxHeartbeats 4000000 in
set_option maxRecDepth 100000 in
theorem c_X4_put (E : En) (σ : Mm) (K L : Mm) (g : Int32) (F : Nat → Int32) (tl : Int32) (Bt W Z : Nat → Int32) (N : Mm) (hR : MR σ (K, L, g, F, tl, Bt, W, Z, N)) (q r : Int32) : CtI E yX4_put cX4_put 3 (some .int) 3 66 [.ref (eA E 49), .int q, .int r] σ (fun rr σ2 => rr = (opPut (K, L, g, F, tl, Bt, W, Z, N) q r).1 ∧ MR σ2 (opPut (K, L, g, F, tl, Bt, W, Z, N) q r).2 ∧ FM σ σ2) := by
  obtain ⟨⟨hM, hO⟩, ⟨hg1, hg2, hg3⟩, hFd, ⟨⟨htl, htl2⟩, hBt⟩, hSh⟩ := id hR
  obtain ⟨⟨hn, h12⟩, hpp, hlw, hsp, hz0⟩ := id hO
  refine CtI.of (by decide +kernel) (Nat.le_of_ble_eq_true rfl) (fun p e0 s m below meth c C hr hlk => ?_)
  refine gx_lv (lv' := [(0, .ref (eA E 49)), (1, .int q), (2, .int r)]) rfl ?_
  refine gx_aload_n C dX4_put_0 (by rfl) (by rfl) ?_
  refine gx_iload_n C dX4_put_1 (by rfl) (by rfl) ?_
  refine gx_callVI (As := [.int q]) (rest := []) C (c_X4_isPerson E σ K hM hO q) z_X4_isPerson ck4 (by rfl) (by rfl) ml_X4_101 (by rfl) (Nat.le_of_ble_eq_true rfl) ⟨Nat.le_of_ble_eq_true rfl, Nat.le_of_ble_eq_true rfl⟩ dX4_put_2 (fun r1 σ1 w1 => ?_)
  obtain ⟨u1, u2⟩ := w1; rw [u1, u2]; clear u1 u2
  refine gx_if_eq (tgt := 20) C dX4_put_5 (by decide) (fun h2 => ?_) (fun h2 => ?_)
  ·
    have h2 := b2_z.mp h2
    refine gx_aload_n C dX4_put_20 (by rfl) (by rfl) ?_
    refine gx_ldc C kc_X4_37 dX4_put_21 ?_
    refine gx_callVI (As := [.int (-1000001)]) (rest := []) C (c_X4_finds E σ (-1000001) 0 (by decide) (by decide)) z_X4_finds ck4 (by rfl) (by rfl) ml_X4_39 (by rfl) (Nat.le_of_ble_eq_true rfl) ⟨Nat.le_of_ble_eq_true rfl, Nat.le_of_ble_eq_true rfl⟩ dX4_put_23 (fun r3 σ3 w3 => ?_)
    obtain ⟨u1, u2⟩ := w3; rw [u1, u2]; clear u1 u2
    exact gx_iret C hr hlk rfl (fim_fd hR (by decide) (by first | (simp only [opPut, ck, ct, bey, sta] <;> grind) | (simp only [opPut, ck, bey, sta] <;> grind) | (simp only [opPut, bey, sta] <;> grind))) dX4_put_26
  ·
    have h2 := b2_nz.mp h2
    obtain ⟨k, hk, rfl⟩ := has_nat hO h2
    have ck : (nI k).toNatClampNeg = k := nI_clamp (by omega)
    refine gx_iload_n C dX4_put_8 (by rfl) (by rfl) ?_
    refine gx_iconst (v := (-1)) C dX4_put_9 (by decide) ?_
    refine gx_icmp_eq (tgt := 27) C dX4_put_10 (by decide) (fun h4 => ?_) (fun h4 => ?_)
    ·
      refine gx_aload_n C dX4_put_27 (by rfl) (by rfl) ?_
      refine gx_iload_n C dX4_put_28 (by rfl) (by rfl) ?_
      refine gx_callVI (As := [.int (nI k)]) (rest := []) C (c_X4_isOut E σ K hM hO k (by omega)) z_X4_isOut ck4 (by rfl) (by rfl) ml_X4_119 (by rfl) (Nat.le_of_ble_eq_true rfl) ⟨Nat.le_of_ble_eq_true rfl, Nat.le_of_ble_eq_true rfl⟩ dX4_put_29 (fun r5 σ5 w5 => ?_)
      obtain ⟨u1, u2⟩ := w5; rw [u1, u2]; clear u1 u2
      refine gx_iload_n C dX4_put_32 (by rfl) (by rfl) ?_
      refine gx_iconst (v := (-1)) C dX4_put_33 (by decide) ?_
      refine gx_icmp_ne (tgt := 41) C dX4_put_34 (by decide) (fun h6 => ?_) (fun h6 => ?_)
      ·
        refine gx_iconst (v := 0) C dX4_put_41 (by decide) ?_
        refine gx_icmp_eq (tgt := 58) C dX4_put_42 (by decide) (fun h7 => ?_) (fun h7 => ?_)
        ·
          have hq9 : ¬ K 2 k = -1 := b2_z.mp h7
          refine gx_aload_n C dX4_put_58 (by rfl) (by rfl) ?_
          refine gx_ldc C kc_X4_67 dX4_put_59 ?_
          refine gx_callVI (As := [.int (-1000005)]) (rest := []) C (c_X4_finds E σ (-1000005) 4 (by decide) (by decide)) z_X4_finds ck4 (by rfl) (by rfl) ml_X4_39 (by rfl) (Nat.le_of_ble_eq_true rfl) ⟨Nat.le_of_ble_eq_true rfl, Nat.le_of_ble_eq_true rfl⟩ dX4_put_61 (fun r8 σ8 w8 => ?_)
          obtain ⟨u1, u2⟩ := w8; rw [u1, u2]; clear u1 u2
          exact gx_iret C hr hlk rfl (fim_fd hR (by decide) (by first | (simp only [opPut, ck, ct, bey, sta] <;> grind) | (simp only [opPut, ck, bey, sta] <;> grind) | (simp only [opPut, bey, sta] <;> grind))) dX4_put_64
        ·
          have hq9 : K 2 k = -1 := b2_nz.mp h7
          refine gx_iload_n C dX4_put_45 (by rfl) (by rfl) ?_
          refine gx_iconst (v := (-1)) C dX4_put_46 (by decide) ?_
          refine gx_icmp_eq (tgt := 65) C dX4_put_47 (by decide) (fun h9 => ?_) (fun h9 => ?_)
          ·
            refine gx_aload_n C dX4_put_65 (by rfl) (by rfl) ?_
            refine gx_bipush (v := 15) C dX4_put_66 (by decide) ?_
            refine gx_bipush (v := 7) C dX4_put_68 (by decide) ?_
            refine gx_iload_n C dX4_put_70 (by rfl) (by rfl) ?_
            refine gx_imul C dX4_put_71 ?_
            refine gx_st (st' := [.int (nI (7 * k)), .int 15, .ref (eA E 49)]) (by rw [show 7 * (nI k) = nI (7 * k) from pk_mul 7 k]) ?_
            refine gx_iadd C dX4_put_72 ?_
            refine gx_st (st' := [.int (nI (15 + 7 * k)), .ref (eA E 49)]) (by rw [show 15 + (nI (7 * k)) = nI (15 + 7 * k) from nI_add 15 (7 * k)]) ?_
            refine gx_iconst (v := 1) C dX4_put_73 (by decide) ?_
            refine gx_iadd C dX4_put_74 ?_
            refine gx_st (st' := [.int (nI (15 + 7 * k + 1)), .ref (eA E 49)]) (by rw [show (nI (15 + 7 * k)) + 1 = nI (15 + 7 * k + 1) from nI_add (15 + 7 * k) 1]) ?_
            refine gx_iload_n C dX4_put_75 (by rfl) (by rfl) ?_
            refine gx_callVI (As := [.int (nI (15 + 7 * k + 1)), .int r]) (rest := []) C (c_X4_becomes E σ (15 + 7 * k + 1) (by omega) r) z_X4_becomes ck4 (by rfl) (by rfl) ml_X4_68 (by rfl) (Nat.le_of_ble_eq_true rfl) ⟨Nat.le_of_ble_eq_true rfl, Nat.le_of_ble_eq_true rfl⟩ dX4_put_76 (fun r11 σ11 w11 => ?_)
            obtain ⟨u1, u2⟩ := w11; rw [u1, u2]; clear u1 u2
            refine gx_st (st' := [.int (K (2) k)]) (by rw [mp_2 hM (p := k) (by omega)]) ?_
            have hM10 : vM (up2 σ 50 (15 + 7 * k + 1) r) 50 = up2 K (2) k r := by rw [vM_mk (by omega) (by omega), hM]
            exact gx_iret C hr hlk rfl (fim_now hR hM10 (hO.rank (p := k) (v := r) (by omega) ⟨by grind, by grind⟩) ((F3.rf).up (by decide)) (by first | (simp only [opPut, ck, ct, bey, sta] <;> grind) | (simp only [opPut, ck, bey, sta] <;> grind) | (simp only [opPut, bey, sta] <;> grind))) dX4_put_79
          ·
            have hr0 : 0 ≤ r ∧ r ≤ 7 := by grind
            obtain ⟨t, ht, rfl⟩ := r_nat hr0
            have ct : (nI t).toNatClampNeg = t := nI_clamp (by omega)
            refine gx_aload_n C dX4_put_50 (by rfl) (by rfl) ?_
            refine gx_iload_n C dX4_put_51 (by rfl) (by rfl) ?_
            refine gx_callVI (As := [.int (nI t)]) (rest := []) C (c_X4_hasSeat E σ K hM hO t (by omega)) z_X4_hasSeat ck4 (by rfl) (by rfl) ml_X4_94 (by rfl) (Nat.le_of_ble_eq_true rfl) ⟨Nat.le_of_ble_eq_true rfl, Nat.le_of_ble_eq_true rfl⟩ dX4_put_52 (fun r14 σ14 w14 => ?_)
            obtain ⟨u1, u2⟩ := w14; rw [u1, u2]; clear u1 u2
            refine gx_if_ne (tgt := 65) C dX4_put_55 (by decide) (fun h15 => ?_) (fun h15 => ?_)
            ·
              have h15 := b2_nz.mp h15
              refine gx_aload_n C dX4_put_65 (by rfl) (by rfl) ?_
              refine gx_bipush (v := 15) C dX4_put_66 (by decide) ?_
              refine gx_bipush (v := 7) C dX4_put_68 (by decide) ?_
              refine gx_iload_n C dX4_put_70 (by rfl) (by rfl) ?_
              refine gx_imul C dX4_put_71 ?_
              refine gx_st (st' := [.int (nI (7 * k)), .int 15, .ref (eA E 49)]) (by rw [show 7 * (nI k) = nI (7 * k) from pk_mul 7 k]) ?_
              refine gx_iadd C dX4_put_72 ?_
              refine gx_st (st' := [.int (nI (15 + 7 * k)), .ref (eA E 49)]) (by rw [show 15 + (nI (7 * k)) = nI (15 + 7 * k) from nI_add 15 (7 * k)]) ?_
              refine gx_iconst (v := 1) C dX4_put_73 (by decide) ?_
              refine gx_iadd C dX4_put_74 ?_
              refine gx_st (st' := [.int (nI (15 + 7 * k + 1)), .ref (eA E 49)]) (by rw [show (nI (15 + 7 * k)) + 1 = nI (15 + 7 * k + 1) from nI_add (15 + 7 * k) 1]) ?_
              refine gx_iload_n C dX4_put_75 (by rfl) (by rfl) ?_
              refine gx_callVI (As := [.int (nI (15 + 7 * k + 1)), .int (nI t)]) (rest := []) C (c_X4_becomes E σ (15 + 7 * k + 1) (by omega) (nI t)) z_X4_becomes ck4 (by rfl) (by rfl) ml_X4_68 (by rfl) (Nat.le_of_ble_eq_true rfl) ⟨Nat.le_of_ble_eq_true rfl, Nat.le_of_ble_eq_true rfl⟩ dX4_put_76 (fun r17 σ17 w17 => ?_)
              obtain ⟨u1, u2⟩ := w17; rw [u1, u2]; clear u1 u2
              refine gx_st (st' := [.int (K (2) k)]) (by rw [mp_2 hM (p := k) (by omega)]) ?_
              have hM16 : vM (up2 σ 50 (15 + 7 * k + 1) (nI t)) 50 = up2 K (2) k (nI t) := by rw [vM_mk (by omega) (by omega), hM]
              exact gx_iret C hr hlk rfl (fim_now hR hM16 (hO.rank (p := k) (v := (nI t)) (by omega) (rk_rg (by omega))) ((F3.rf).up (by decide)) (by first | (simp only [opPut, ck, ct, bey, sta] <;> grind) | (simp only [opPut, ck, bey, sta] <;> grind) | (simp only [opPut, bey, sta] <;> grind))) dX4_put_79
            ·
              have h15 := b2_z.mp h15
              refine gx_aload_n C dX4_put_58 (by rfl) (by rfl) ?_
              refine gx_ldc C kc_X4_67 dX4_put_59 ?_
              refine gx_callVI (As := [.int (-1000005)]) (rest := []) C (c_X4_finds E σ (-1000005) 4 (by decide) (by decide)) z_X4_finds ck4 (by rfl) (by rfl) ml_X4_39 (by rfl) (Nat.le_of_ble_eq_true rfl) ⟨Nat.le_of_ble_eq_true rfl, Nat.le_of_ble_eq_true rfl⟩ dX4_put_61 (fun r18 σ18 w18 => ?_)
              obtain ⟨u1, u2⟩ := w18; rw [u1, u2]; clear u1 u2
              exact gx_iret C hr hlk rfl (fim_fd hR (by decide) (by first | (simp only [opPut, ck, ct, bey, sta] <;> grind) | (simp only [opPut, ck, bey, sta] <;> grind) | (simp only [opPut, bey, sta] <;> grind))) dX4_put_64
      ·
        refine gx_iconst (v := 1) C dX4_put_37 (by decide) ?_
        refine gx_goto (tgt := 42) C dX4_put_38 (by decide) ?_
        refine gx_icmp_eq (tgt := 58) C dX4_put_42 (by decide) (fun h19 => ?_) (fun h19 => ?_)
        ·
          have hq9 : K 2 k = -1 := b2_nz.mp (by rw [h19]; decide)
          refine gx_aload_n C dX4_put_58 (by rfl) (by rfl) ?_
          refine gx_ldc C kc_X4_67 dX4_put_59 ?_
          refine gx_callVI (As := [.int (-1000005)]) (rest := []) C (c_X4_finds E σ (-1000005) 4 (by decide) (by decide)) z_X4_finds ck4 (by rfl) (by rfl) ml_X4_39 (by rfl) (Nat.le_of_ble_eq_true rfl) ⟨Nat.le_of_ble_eq_true rfl, Nat.le_of_ble_eq_true rfl⟩ dX4_put_61 (fun r20 σ20 w20 => ?_)
          obtain ⟨u1, u2⟩ := w20; rw [u1, u2]; clear u1 u2
          exact gx_iret C hr hlk rfl (fim_fd hR (by decide) (by first | (simp only [opPut, ck, ct, bey, sta] <;> grind) | (simp only [opPut, ck, bey, sta] <;> grind) | (simp only [opPut, bey, sta] <;> grind))) dX4_put_64
        ·
          have hq9 : ¬ K 2 k = -1 := fun z => h19 (b2_t z).symm
          refine gx_iload_n C dX4_put_45 (by rfl) (by rfl) ?_
          refine gx_iconst (v := (-1)) C dX4_put_46 (by decide) ?_
          refine gx_icmp_eq (tgt := 65) C dX4_put_47 (by decide) (fun h21 => ?_) (fun h21 => ?_)
          ·
            refine gx_aload_n C dX4_put_65 (by rfl) (by rfl) ?_
            refine gx_bipush (v := 15) C dX4_put_66 (by decide) ?_
            refine gx_bipush (v := 7) C dX4_put_68 (by decide) ?_
            refine gx_iload_n C dX4_put_70 (by rfl) (by rfl) ?_
            refine gx_imul C dX4_put_71 ?_
            refine gx_st (st' := [.int (nI (7 * k)), .int 15, .ref (eA E 49)]) (by rw [show 7 * (nI k) = nI (7 * k) from pk_mul 7 k]) ?_
            refine gx_iadd C dX4_put_72 ?_
            refine gx_st (st' := [.int (nI (15 + 7 * k)), .ref (eA E 49)]) (by rw [show 15 + (nI (7 * k)) = nI (15 + 7 * k) from nI_add 15 (7 * k)]) ?_
            refine gx_iconst (v := 1) C dX4_put_73 (by decide) ?_
            refine gx_iadd C dX4_put_74 ?_
            refine gx_st (st' := [.int (nI (15 + 7 * k + 1)), .ref (eA E 49)]) (by rw [show (nI (15 + 7 * k)) + 1 = nI (15 + 7 * k + 1) from nI_add (15 + 7 * k) 1]) ?_
            refine gx_iload_n C dX4_put_75 (by rfl) (by rfl) ?_
            refine gx_callVI (As := [.int (nI (15 + 7 * k + 1)), .int r]) (rest := []) C (c_X4_becomes E σ (15 + 7 * k + 1) (by omega) r) z_X4_becomes ck4 (by rfl) (by rfl) ml_X4_68 (by rfl) (Nat.le_of_ble_eq_true rfl) ⟨Nat.le_of_ble_eq_true rfl, Nat.le_of_ble_eq_true rfl⟩ dX4_put_76 (fun r23 σ23 w23 => ?_)
            obtain ⟨u1, u2⟩ := w23; rw [u1, u2]; clear u1 u2
            refine gx_st (st' := [.int (K (2) k)]) (by rw [mp_2 hM (p := k) (by omega)]) ?_
            have hM22 : vM (up2 σ 50 (15 + 7 * k + 1) r) 50 = up2 K (2) k r := by rw [vM_mk (by omega) (by omega), hM]
            exact gx_iret C hr hlk rfl (fim_now hR hM22 (hO.rank (p := k) (v := r) (by omega) ⟨by grind, by grind⟩) ((F3.rf).up (by decide)) (by first | (simp only [opPut, ck, ct, bey, sta] <;> grind) | (simp only [opPut, ck, bey, sta] <;> grind) | (simp only [opPut, bey, sta] <;> grind))) dX4_put_79
          ·
            have hr0 : 0 ≤ r ∧ r ≤ 7 := by grind
            obtain ⟨t, ht, rfl⟩ := r_nat hr0
            have ct : (nI t).toNatClampNeg = t := nI_clamp (by omega)
            refine gx_aload_n C dX4_put_50 (by rfl) (by rfl) ?_
            refine gx_iload_n C dX4_put_51 (by rfl) (by rfl) ?_
            refine gx_callVI (As := [.int (nI t)]) (rest := []) C (c_X4_hasSeat E σ K hM hO t (by omega)) z_X4_hasSeat ck4 (by rfl) (by rfl) ml_X4_94 (by rfl) (Nat.le_of_ble_eq_true rfl) ⟨Nat.le_of_ble_eq_true rfl, Nat.le_of_ble_eq_true rfl⟩ dX4_put_52 (fun r24 σ24 w24 => ?_)
            obtain ⟨u1, u2⟩ := w24; rw [u1, u2]; clear u1 u2
            refine gx_if_ne (tgt := 65) C dX4_put_55 (by decide) (fun h26 => ?_) (fun h26 => ?_)
            ·
              have h26 := b2_nz.mp h26
              refine gx_aload_n C dX4_put_65 (by rfl) (by rfl) ?_
              refine gx_bipush (v := 15) C dX4_put_66 (by decide) ?_
              refine gx_bipush (v := 7) C dX4_put_68 (by decide) ?_
              refine gx_iload_n C dX4_put_70 (by rfl) (by rfl) ?_
              refine gx_imul C dX4_put_71 ?_
              refine gx_st (st' := [.int (nI (7 * k)), .int 15, .ref (eA E 49)]) (by rw [show 7 * (nI k) = nI (7 * k) from pk_mul 7 k]) ?_
              refine gx_iadd C dX4_put_72 ?_
              refine gx_st (st' := [.int (nI (15 + 7 * k)), .ref (eA E 49)]) (by rw [show 15 + (nI (7 * k)) = nI (15 + 7 * k) from nI_add 15 (7 * k)]) ?_
              refine gx_iconst (v := 1) C dX4_put_73 (by decide) ?_
              refine gx_iadd C dX4_put_74 ?_
              refine gx_st (st' := [.int (nI (15 + 7 * k + 1)), .ref (eA E 49)]) (by rw [show (nI (15 + 7 * k)) + 1 = nI (15 + 7 * k + 1) from nI_add (15 + 7 * k) 1]) ?_
              refine gx_iload_n C dX4_put_75 (by rfl) (by rfl) ?_
              refine gx_callVI (As := [.int (nI (15 + 7 * k + 1)), .int (nI t)]) (rest := []) C (c_X4_becomes E σ (15 + 7 * k + 1) (by omega) (nI t)) z_X4_becomes ck4 (by rfl) (by rfl) ml_X4_68 (by rfl) (Nat.le_of_ble_eq_true rfl) ⟨Nat.le_of_ble_eq_true rfl, Nat.le_of_ble_eq_true rfl⟩ dX4_put_76 (fun r28 σ28 w28 => ?_)
              obtain ⟨u1, u2⟩ := w28; rw [u1, u2]; clear u1 u2
              refine gx_st (st' := [.int (K (2) k)]) (by rw [mp_2 hM (p := k) (by omega)]) ?_
              have hM27 : vM (up2 σ 50 (15 + 7 * k + 1) (nI t)) 50 = up2 K (2) k (nI t) := by rw [vM_mk (by omega) (by omega), hM]
              exact gx_iret C hr hlk rfl (fim_now hR hM27 (hO.rank (p := k) (v := (nI t)) (by omega) (rk_rg (by omega))) ((F3.rf).up (by decide)) (by first | (simp only [opPut, ck, ct, bey, sta] <;> grind) | (simp only [opPut, ck, bey, sta] <;> grind) | (simp only [opPut, bey, sta] <;> grind))) dX4_put_79
            ·
              have h26 := b2_z.mp h26
              refine gx_aload_n C dX4_put_58 (by rfl) (by rfl) ?_
              refine gx_ldc C kc_X4_67 dX4_put_59 ?_
              refine gx_callVI (As := [.int (-1000005)]) (rest := []) C (c_X4_finds E σ (-1000005) 4 (by decide) (by decide)) z_X4_finds ck4 (by rfl) (by rfl) ml_X4_39 (by rfl) (Nat.le_of_ble_eq_true rfl) ⟨Nat.le_of_ble_eq_true rfl, Nat.le_of_ble_eq_true rfl⟩ dX4_put_61 (fun r29 σ29 w29 => ?_)
              obtain ⟨u1, u2⟩ := w29; rw [u1, u2]; clear u1 u2
              exact gx_iret C hr hlk rfl (fim_fd hR (by decide) (by first | (simp only [opPut, ck, ct, bey, sta] <;> grind) | (simp only [opPut, ck, bey, sta] <;> grind) | (simp only [opPut, bey, sta] <;> grind))) dX4_put_64
    ·
      refine gx_iload_n C dX4_put_13 (by rfl) (by rfl) ?_
      refine gx_callSI (As := [.int r]) (rest := []) C (c_X4_isRank E σ r) z_X4_isRank (by rfl) ml_X4_61 (by rfl) (Nat.le_of_ble_eq_true rfl) ⟨Nat.le_of_ble_eq_true rfl, Nat.le_of_ble_eq_true rfl⟩ dX4_put_14 (fun r30 σ30 w30 => ?_)
      obtain ⟨u1, u2⟩ := w30; rw [u1, u2]; clear u1 u2
      refine gx_if_ne (tgt := 27) C dX4_put_17 (by decide) (fun h31 => ?_) (fun h31 => ?_)
      ·
        have h31 := b2_nz.mp h31
        refine gx_aload_n C dX4_put_27 (by rfl) (by rfl) ?_
        refine gx_iload_n C dX4_put_28 (by rfl) (by rfl) ?_
        refine gx_callVI (As := [.int (nI k)]) (rest := []) C (c_X4_isOut E σ K hM hO k (by omega)) z_X4_isOut ck4 (by rfl) (by rfl) ml_X4_119 (by rfl) (Nat.le_of_ble_eq_true rfl) ⟨Nat.le_of_ble_eq_true rfl, Nat.le_of_ble_eq_true rfl⟩ dX4_put_29 (fun r32 σ32 w32 => ?_)
        obtain ⟨u1, u2⟩ := w32; rw [u1, u2]; clear u1 u2
        refine gx_iload_n C dX4_put_32 (by rfl) (by rfl) ?_
        refine gx_iconst (v := (-1)) C dX4_put_33 (by decide) ?_
        refine gx_icmp_ne (tgt := 41) C dX4_put_34 (by decide) (fun h33 => ?_) (fun h33 => ?_)
        ·
          refine gx_iconst (v := 0) C dX4_put_41 (by decide) ?_
          refine gx_icmp_eq (tgt := 58) C dX4_put_42 (by decide) (fun h34 => ?_) (fun h34 => ?_)
          ·
            have hq9 : ¬ K 2 k = -1 := b2_z.mp h34
            refine gx_aload_n C dX4_put_58 (by rfl) (by rfl) ?_
            refine gx_ldc C kc_X4_67 dX4_put_59 ?_
            refine gx_callVI (As := [.int (-1000005)]) (rest := []) C (c_X4_finds E σ (-1000005) 4 (by decide) (by decide)) z_X4_finds ck4 (by rfl) (by rfl) ml_X4_39 (by rfl) (Nat.le_of_ble_eq_true rfl) ⟨Nat.le_of_ble_eq_true rfl, Nat.le_of_ble_eq_true rfl⟩ dX4_put_61 (fun r35 σ35 w35 => ?_)
            obtain ⟨u1, u2⟩ := w35; rw [u1, u2]; clear u1 u2
            exact gx_iret C hr hlk rfl (fim_fd hR (by decide) (by first | (simp only [opPut, ck, ct, bey, sta] <;> grind) | (simp only [opPut, ck, bey, sta] <;> grind) | (simp only [opPut, bey, sta] <;> grind))) dX4_put_64
          ·
            have hq9 : K 2 k = -1 := b2_nz.mp h34
            refine gx_iload_n C dX4_put_45 (by rfl) (by rfl) ?_
            refine gx_iconst (v := (-1)) C dX4_put_46 (by decide) ?_
            refine gx_icmp_eq (tgt := 65) C dX4_put_47 (by decide) (fun h36 => ?_) (fun h36 => ?_)
            ·
              refine gx_aload_n C dX4_put_65 (by rfl) (by rfl) ?_
              refine gx_bipush (v := 15) C dX4_put_66 (by decide) ?_
              refine gx_bipush (v := 7) C dX4_put_68 (by decide) ?_
              refine gx_iload_n C dX4_put_70 (by rfl) (by rfl) ?_
              refine gx_imul C dX4_put_71 ?_
              refine gx_st (st' := [.int (nI (7 * k)), .int 15, .ref (eA E 49)]) (by rw [show 7 * (nI k) = nI (7 * k) from pk_mul 7 k]) ?_
              refine gx_iadd C dX4_put_72 ?_
              refine gx_st (st' := [.int (nI (15 + 7 * k)), .ref (eA E 49)]) (by rw [show 15 + (nI (7 * k)) = nI (15 + 7 * k) from nI_add 15 (7 * k)]) ?_
              refine gx_iconst (v := 1) C dX4_put_73 (by decide) ?_
              refine gx_iadd C dX4_put_74 ?_
              refine gx_st (st' := [.int (nI (15 + 7 * k + 1)), .ref (eA E 49)]) (by rw [show (nI (15 + 7 * k)) + 1 = nI (15 + 7 * k + 1) from nI_add (15 + 7 * k) 1]) ?_
              refine gx_iload_n C dX4_put_75 (by rfl) (by rfl) ?_
              refine gx_callVI (As := [.int (nI (15 + 7 * k + 1)), .int r]) (rest := []) C (c_X4_becomes E σ (15 + 7 * k + 1) (by omega) r) z_X4_becomes ck4 (by rfl) (by rfl) ml_X4_68 (by rfl) (Nat.le_of_ble_eq_true rfl) ⟨Nat.le_of_ble_eq_true rfl, Nat.le_of_ble_eq_true rfl⟩ dX4_put_76 (fun r39 σ39 w39 => ?_)
              obtain ⟨u1, u2⟩ := w39; rw [u1, u2]; clear u1 u2
              refine gx_st (st' := [.int (K (2) k)]) (by rw [mp_2 hM (p := k) (by omega)]) ?_
              have hM38 : vM (up2 σ 50 (15 + 7 * k + 1) r) 50 = up2 K (2) k r := by rw [vM_mk (by omega) (by omega), hM]
              exact gx_iret C hr hlk rfl (fim_now hR hM38 (hO.rank (p := k) (v := r) (by omega) ⟨by grind, by grind⟩) ((F3.rf).up (by decide)) (by first | (simp only [opPut, ck, ct, bey, sta] <;> grind) | (simp only [opPut, ck, bey, sta] <;> grind) | (simp only [opPut, bey, sta] <;> grind))) dX4_put_79
            ·
              have hr0 : 0 ≤ r ∧ r ≤ 7 := by grind
              obtain ⟨t, ht, rfl⟩ := r_nat hr0
              have ct : (nI t).toNatClampNeg = t := nI_clamp (by omega)
              refine gx_aload_n C dX4_put_50 (by rfl) (by rfl) ?_
              refine gx_iload_n C dX4_put_51 (by rfl) (by rfl) ?_
              refine gx_callVI (As := [.int (nI t)]) (rest := []) C (c_X4_hasSeat E σ K hM hO t (by omega)) z_X4_hasSeat ck4 (by rfl) (by rfl) ml_X4_94 (by rfl) (Nat.le_of_ble_eq_true rfl) ⟨Nat.le_of_ble_eq_true rfl, Nat.le_of_ble_eq_true rfl⟩ dX4_put_52 (fun r40 σ40 w40 => ?_)
              obtain ⟨u1, u2⟩ := w40; rw [u1, u2]; clear u1 u2
              refine gx_if_ne (tgt := 65) C dX4_put_55 (by decide) (fun h41 => ?_) (fun h41 => ?_)
              ·
                have h41 := b2_nz.mp h41
                refine gx_aload_n C dX4_put_65 (by rfl) (by rfl) ?_
                refine gx_bipush (v := 15) C dX4_put_66 (by decide) ?_
                refine gx_bipush (v := 7) C dX4_put_68 (by decide) ?_
                refine gx_iload_n C dX4_put_70 (by rfl) (by rfl) ?_
                refine gx_imul C dX4_put_71 ?_
                refine gx_st (st' := [.int (nI (7 * k)), .int 15, .ref (eA E 49)]) (by rw [show 7 * (nI k) = nI (7 * k) from pk_mul 7 k]) ?_
                refine gx_iadd C dX4_put_72 ?_
                refine gx_st (st' := [.int (nI (15 + 7 * k)), .ref (eA E 49)]) (by rw [show 15 + (nI (7 * k)) = nI (15 + 7 * k) from nI_add 15 (7 * k)]) ?_
                refine gx_iconst (v := 1) C dX4_put_73 (by decide) ?_
                refine gx_iadd C dX4_put_74 ?_
                refine gx_st (st' := [.int (nI (15 + 7 * k + 1)), .ref (eA E 49)]) (by rw [show (nI (15 + 7 * k)) + 1 = nI (15 + 7 * k + 1) from nI_add (15 + 7 * k) 1]) ?_
                refine gx_iload_n C dX4_put_75 (by rfl) (by rfl) ?_
                refine gx_callVI (As := [.int (nI (15 + 7 * k + 1)), .int (nI t)]) (rest := []) C (c_X4_becomes E σ (15 + 7 * k + 1) (by omega) (nI t)) z_X4_becomes ck4 (by rfl) (by rfl) ml_X4_68 (by rfl) (Nat.le_of_ble_eq_true rfl) ⟨Nat.le_of_ble_eq_true rfl, Nat.le_of_ble_eq_true rfl⟩ dX4_put_76 (fun r43 σ43 w43 => ?_)
                obtain ⟨u1, u2⟩ := w43; rw [u1, u2]; clear u1 u2
                refine gx_st (st' := [.int (K (2) k)]) (by rw [mp_2 hM (p := k) (by omega)]) ?_
                have hM42 : vM (up2 σ 50 (15 + 7 * k + 1) (nI t)) 50 = up2 K (2) k (nI t) := by rw [vM_mk (by omega) (by omega), hM]
                exact gx_iret C hr hlk rfl (fim_now hR hM42 (hO.rank (p := k) (v := (nI t)) (by omega) (rk_rg (by omega))) ((F3.rf).up (by decide)) (by first | (simp only [opPut, ck, ct, bey, sta] <;> grind) | (simp only [opPut, ck, bey, sta] <;> grind) | (simp only [opPut, bey, sta] <;> grind))) dX4_put_79
              ·
                have h41 := b2_z.mp h41
                refine gx_aload_n C dX4_put_58 (by rfl) (by rfl) ?_
                refine gx_ldc C kc_X4_67 dX4_put_59 ?_
                refine gx_callVI (As := [.int (-1000005)]) (rest := []) C (c_X4_finds E σ (-1000005) 4 (by decide) (by decide)) z_X4_finds ck4 (by rfl) (by rfl) ml_X4_39 (by rfl) (Nat.le_of_ble_eq_true rfl) ⟨Nat.le_of_ble_eq_true rfl, Nat.le_of_ble_eq_true rfl⟩ dX4_put_61 (fun r44 σ44 w44 => ?_)
                obtain ⟨u1, u2⟩ := w44; rw [u1, u2]; clear u1 u2
                exact gx_iret C hr hlk rfl (fim_fd hR (by decide) (by first | (simp only [opPut, ck, ct, bey, sta] <;> grind) | (simp only [opPut, ck, bey, sta] <;> grind) | (simp only [opPut, bey, sta] <;> grind))) dX4_put_64
        ·
          refine gx_iconst (v := 1) C dX4_put_37 (by decide) ?_
          refine gx_goto (tgt := 42) C dX4_put_38 (by decide) ?_
          refine gx_icmp_eq (tgt := 58) C dX4_put_42 (by decide) (fun h45 => ?_) (fun h45 => ?_)
          ·
            have hq9 : K 2 k = -1 := b2_nz.mp (by rw [h45]; decide)
            refine gx_aload_n C dX4_put_58 (by rfl) (by rfl) ?_
            refine gx_ldc C kc_X4_67 dX4_put_59 ?_
            refine gx_callVI (As := [.int (-1000005)]) (rest := []) C (c_X4_finds E σ (-1000005) 4 (by decide) (by decide)) z_X4_finds ck4 (by rfl) (by rfl) ml_X4_39 (by rfl) (Nat.le_of_ble_eq_true rfl) ⟨Nat.le_of_ble_eq_true rfl, Nat.le_of_ble_eq_true rfl⟩ dX4_put_61 (fun r46 σ46 w46 => ?_)
            obtain ⟨u1, u2⟩ := w46; rw [u1, u2]; clear u1 u2
            exact gx_iret C hr hlk rfl (fim_fd hR (by decide) (by first | (simp only [opPut, ck, ct, bey, sta] <;> grind) | (simp only [opPut, ck, bey, sta] <;> grind) | (simp only [opPut, bey, sta] <;> grind))) dX4_put_64
          ·
            have hq9 : ¬ K 2 k = -1 := fun z => h45 (b2_t z).symm
            refine gx_iload_n C dX4_put_45 (by rfl) (by rfl) ?_
            refine gx_iconst (v := (-1)) C dX4_put_46 (by decide) ?_
            refine gx_icmp_eq (tgt := 65) C dX4_put_47 (by decide) (fun h47 => ?_) (fun h47 => ?_)
            ·
              refine gx_aload_n C dX4_put_65 (by rfl) (by rfl) ?_
              refine gx_bipush (v := 15) C dX4_put_66 (by decide) ?_
              refine gx_bipush (v := 7) C dX4_put_68 (by decide) ?_
              refine gx_iload_n C dX4_put_70 (by rfl) (by rfl) ?_
              refine gx_imul C dX4_put_71 ?_
              refine gx_st (st' := [.int (nI (7 * k)), .int 15, .ref (eA E 49)]) (by rw [show 7 * (nI k) = nI (7 * k) from pk_mul 7 k]) ?_
              refine gx_iadd C dX4_put_72 ?_
              refine gx_st (st' := [.int (nI (15 + 7 * k)), .ref (eA E 49)]) (by rw [show 15 + (nI (7 * k)) = nI (15 + 7 * k) from nI_add 15 (7 * k)]) ?_
              refine gx_iconst (v := 1) C dX4_put_73 (by decide) ?_
              refine gx_iadd C dX4_put_74 ?_
              refine gx_st (st' := [.int (nI (15 + 7 * k + 1)), .ref (eA E 49)]) (by rw [show (nI (15 + 7 * k)) + 1 = nI (15 + 7 * k + 1) from nI_add (15 + 7 * k) 1]) ?_
              refine gx_iload_n C dX4_put_75 (by rfl) (by rfl) ?_
              refine gx_callVI (As := [.int (nI (15 + 7 * k + 1)), .int r]) (rest := []) C (c_X4_becomes E σ (15 + 7 * k + 1) (by omega) r) z_X4_becomes ck4 (by rfl) (by rfl) ml_X4_68 (by rfl) (Nat.le_of_ble_eq_true rfl) ⟨Nat.le_of_ble_eq_true rfl, Nat.le_of_ble_eq_true rfl⟩ dX4_put_76 (fun r49 σ49 w49 => ?_)
              obtain ⟨u1, u2⟩ := w49; rw [u1, u2]; clear u1 u2
              refine gx_st (st' := [.int (K (2) k)]) (by rw [mp_2 hM (p := k) (by omega)]) ?_
              have hM48 : vM (up2 σ 50 (15 + 7 * k + 1) r) 50 = up2 K (2) k r := by rw [vM_mk (by omega) (by omega), hM]
              exact gx_iret C hr hlk rfl (fim_now hR hM48 (hO.rank (p := k) (v := r) (by omega) ⟨by grind, by grind⟩) ((F3.rf).up (by decide)) (by first | (simp only [opPut, ck, ct, bey, sta] <;> grind) | (simp only [opPut, ck, bey, sta] <;> grind) | (simp only [opPut, bey, sta] <;> grind))) dX4_put_79
            ·
              have hr0 : 0 ≤ r ∧ r ≤ 7 := by grind
              obtain ⟨t, ht, rfl⟩ := r_nat hr0
              have ct : (nI t).toNatClampNeg = t := nI_clamp (by omega)
              refine gx_aload_n C dX4_put_50 (by rfl) (by rfl) ?_
              refine gx_iload_n C dX4_put_51 (by rfl) (by rfl) ?_
              refine gx_callVI (As := [.int (nI t)]) (rest := []) C (c_X4_hasSeat E σ K hM hO t (by omega)) z_X4_hasSeat ck4 (by rfl) (by rfl) ml_X4_94 (by rfl) (Nat.le_of_ble_eq_true rfl) ⟨Nat.le_of_ble_eq_true rfl, Nat.le_of_ble_eq_true rfl⟩ dX4_put_52 (fun r50 σ50 w50 => ?_)
              obtain ⟨u1, u2⟩ := w50; rw [u1, u2]; clear u1 u2
              refine gx_if_ne (tgt := 65) C dX4_put_55 (by decide) (fun h51 => ?_) (fun h51 => ?_)
              ·
                have h51 := b2_nz.mp h51
                refine gx_aload_n C dX4_put_65 (by rfl) (by rfl) ?_
                refine gx_bipush (v := 15) C dX4_put_66 (by decide) ?_
                refine gx_bipush (v := 7) C dX4_put_68 (by decide) ?_
                refine gx_iload_n C dX4_put_70 (by rfl) (by rfl) ?_
                refine gx_imul C dX4_put_71 ?_
                refine gx_st (st' := [.int (nI (7 * k)), .int 15, .ref (eA E 49)]) (by rw [show 7 * (nI k) = nI (7 * k) from pk_mul 7 k]) ?_
                refine gx_iadd C dX4_put_72 ?_
                refine gx_st (st' := [.int (nI (15 + 7 * k)), .ref (eA E 49)]) (by rw [show 15 + (nI (7 * k)) = nI (15 + 7 * k) from nI_add 15 (7 * k)]) ?_
                refine gx_iconst (v := 1) C dX4_put_73 (by decide) ?_
                refine gx_iadd C dX4_put_74 ?_
                refine gx_st (st' := [.int (nI (15 + 7 * k + 1)), .ref (eA E 49)]) (by rw [show (nI (15 + 7 * k)) + 1 = nI (15 + 7 * k + 1) from nI_add (15 + 7 * k) 1]) ?_
                refine gx_iload_n C dX4_put_75 (by rfl) (by rfl) ?_
                refine gx_callVI (As := [.int (nI (15 + 7 * k + 1)), .int (nI t)]) (rest := []) C (c_X4_becomes E σ (15 + 7 * k + 1) (by omega) (nI t)) z_X4_becomes ck4 (by rfl) (by rfl) ml_X4_68 (by rfl) (Nat.le_of_ble_eq_true rfl) ⟨Nat.le_of_ble_eq_true rfl, Nat.le_of_ble_eq_true rfl⟩ dX4_put_76 (fun r53 σ53 w53 => ?_)
                obtain ⟨u1, u2⟩ := w53; rw [u1, u2]; clear u1 u2
                refine gx_st (st' := [.int (K (2) k)]) (by rw [mp_2 hM (p := k) (by omega)]) ?_
                have hM52 : vM (up2 σ 50 (15 + 7 * k + 1) (nI t)) 50 = up2 K (2) k (nI t) := by rw [vM_mk (by omega) (by omega), hM]
                exact gx_iret C hr hlk rfl (fim_now hR hM52 (hO.rank (p := k) (v := (nI t)) (by omega) (rk_rg (by omega))) ((F3.rf).up (by decide)) (by first | (simp only [opPut, ck, ct, bey, sta] <;> grind) | (simp only [opPut, ck, bey, sta] <;> grind) | (simp only [opPut, bey, sta] <;> grind))) dX4_put_79
              ·
                have h51 := b2_z.mp h51
                refine gx_aload_n C dX4_put_58 (by rfl) (by rfl) ?_
                refine gx_ldc C kc_X4_67 dX4_put_59 ?_
                refine gx_callVI (As := [.int (-1000005)]) (rest := []) C (c_X4_finds E σ (-1000005) 4 (by decide) (by decide)) z_X4_finds ck4 (by rfl) (by rfl) ml_X4_39 (by rfl) (Nat.le_of_ble_eq_true rfl) ⟨Nat.le_of_ble_eq_true rfl, Nat.le_of_ble_eq_true rfl⟩ dX4_put_61 (fun r54 σ54 w54 => ?_)
                obtain ⟨u1, u2⟩ := w54; rw [u1, u2]; clear u1 u2
                exact gx_iret C hr hlk rfl (fim_fd hR (by decide) (by first | (simp only [opPut, ck, ct, bey, sta] <;> grind) | (simp only [opPut, ck, bey, sta] <;> grind) | (simp only [opPut, bey, sta] <;> grind))) dX4_put_64
      ·
        have h31 := b2_z.mp h31
        refine gx_aload_n C dX4_put_20 (by rfl) (by rfl) ?_
        refine gx_ldc C kc_X4_37 dX4_put_21 ?_
        refine gx_callVI (As := [.int (-1000001)]) (rest := []) C (c_X4_finds E σ (-1000001) 0 (by decide) (by decide)) z_X4_finds ck4 (by rfl) (by rfl) ml_X4_39 (by rfl) (Nat.le_of_ble_eq_true rfl) ⟨Nat.le_of_ble_eq_true rfl, Nat.le_of_ble_eq_true rfl⟩ dX4_put_23 (fun r55 σ55 w55 => ?_)
        obtain ⟨u1, u2⟩ := w55; rw [u1, u2]; clear u1 u2
        exact gx_iret C hr hlk rfl (fim_fd hR (by decide) (by first | (simp only [opPut, ck, ct, bey, sta] <;> grind) | (simp only [opPut, ck, bey, sta] <;> grind) | (simp only [opPut, bey, sta] <;> grind))) dX4_put_26
set_option maxHeartbeats 4000000 in
set_option maxRecDepth 100000 in
theorem c_X4_gift (E : En) (σ : Mm) (K L : Mm) (g : Int32) (F : Nat → Int32) (tl : Int32) (Bt W Z : Nat → Int32) (N : Mm) (hR : MR σ (K, L, g, F, tl, Bt, W, Z, N)) (q v : Int32) : CtI E yX4_gift cX4_gift 3 (some .int) 2 46 [.ref (eA E 49), .int q, .int v] σ (fun rr σ2 => rr = (opGift (K, L, g, F, tl, Bt, W, Z, N) q v).1 ∧ MR σ2 (opGift (K, L, g, F, tl, Bt, W, Z, N) q v).2 ∧ FM σ σ2) := by
  obtain ⟨⟨hM, hO⟩, ⟨hg1, hg2, hg3⟩, hFd, ⟨⟨htl, htl2⟩, hBt⟩, hSh⟩ := id hR
  obtain ⟨⟨hn, h12⟩, hpp, hlw, hsp, hz0⟩ := id hO
  refine CtI.of (by decide +kernel) (Nat.le_of_ble_eq_true rfl) (fun p e0 s m below meth c C hr hlk => ?_)
  refine gx_lv (lv' := [(0, .ref (eA E 49)), (1, .int q), (2, .int v)]) rfl ?_
  refine gx_aload_n C dX4_gift_0 (by rfl) (by rfl) ?_
  refine gx_iload_n C dX4_gift_1 (by rfl) (by rfl) ?_
  refine gx_callVI (As := [.int q]) (rest := []) C (c_X4_isPerson E σ K hM hO q) z_X4_isPerson ck4 (by rfl) (by rfl) ml_X4_101 (by rfl) (Nat.le_of_ble_eq_true rfl) ⟨Nat.le_of_ble_eq_true rfl, Nat.le_of_ble_eq_true rfl⟩ dX4_gift_2 (fun r1 σ1 w1 => ?_)
  obtain ⟨u1, u2⟩ := w1; rw [u1, u2]; clear u1 u2
  refine gx_if_eq (tgt := 20) C dX4_gift_5 (by decide) (fun h2 => ?_) (fun h2 => ?_)
  ·
    have h2 := b2_z.mp h2
    refine gx_aload_n C dX4_gift_20 (by rfl) (by rfl) ?_
    refine gx_ldc C kc_X4_37 dX4_gift_21 ?_
    refine gx_callVI (As := [.int (-1000001)]) (rest := []) C (c_X4_finds E σ (-1000001) 0 (by decide) (by decide)) z_X4_finds ck4 (by rfl) (by rfl) ml_X4_39 (by rfl) (Nat.le_of_ble_eq_true rfl) ⟨Nat.le_of_ble_eq_true rfl, Nat.le_of_ble_eq_true rfl⟩ dX4_gift_23 (fun r3 σ3 w3 => ?_)
    obtain ⟨u1, u2⟩ := w3; rw [u1, u2]; clear u1 u2
    exact gx_iret C hr hlk rfl (fim_fd hR (by decide) (by first | (simp only [opGift, ck, cg1, bey, sta] <;> grind) | (simp only [opGift, ck, bey, sta] <;> grind) | (simp only [opGift, bey, sta] <;> grind))) dX4_gift_26
  ·
    have h2 := b2_nz.mp h2
    obtain ⟨k, hk, rfl⟩ := has_nat hO h2
    have ck : (nI k).toNatClampNeg = k := nI_clamp (by omega)
    refine gx_iload_n C dX4_gift_8 (by rfl) (by rfl) ?_
    refine gx_i2l C dX4_gift_9 ?_
    refine gx_lconst (v := 1) C dX4_gift_10 (by decide) ?_
    refine gx_ldc2 C kl_X4_108 dX4_gift_11 ?_
    refine gx_callSI (As := [.long v.toInt64, .long 1, .long 9999]) (rest := []) C (c_X4_in E σ v 1 9999 v.toInt64 1 9999 (by first | rfl | decide) (by first | rfl | decide) (by first | rfl | decide)) z_X4_in (by rfl) ml_X4_45 (by rfl) (Nat.le_of_ble_eq_true rfl) ⟨Nat.le_of_ble_eq_true rfl, Nat.le_of_ble_eq_true rfl⟩ dX4_gift_14 (fun r4 σ4 w4 => ?_)
    obtain ⟨u1, u2⟩ := w4; rw [u1, u2]; clear u1 u2
    refine gx_if_ne (tgt := 27) C dX4_gift_17 (by decide) (fun h5 => ?_) (fun h5 => ?_)
    ·
      have h5 := b2_nz.mp h5
      refine gx_aload_n C dX4_gift_27 (by rfl) (by rfl) ?_
      refine gx_iload_n C dX4_gift_28 (by rfl) (by rfl) ?_
      refine gx_iconst (v := 5) C dX4_gift_29 (by decide) ?_
      refine gx_callVI (As := [.int (nI k), .int 5]) (rest := []) C (c_X4_is E σ k (by omega) 5 (by omega)) z_X4_is ck4 (by rfl) (by rfl) ml_X4_51 (by rfl) (Nat.le_of_ble_eq_true rfl) ⟨Nat.le_of_ble_eq_true rfl, Nat.le_of_ble_eq_true rfl⟩ dX4_gift_30 (fun r6 σ6 w6 => ?_)
      obtain ⟨u1, u2⟩ := w6; rw [u1, u2]; clear u1 u2
      refine gx_st (st' := [.int (K 6 k)]) (by rw [mp_6 hM (p := k) (by omega)]) ?_
      refine gx_if_lt (tgt := 45) C dX4_gift_33 (by decide) (fun h7 => ?_) (fun h7 => ?_)
      ·
        refine gx_aload_n C dX4_gift_45 (by rfl) (by rfl) ?_
        refine gx_ldc C kc_X4_67 dX4_gift_46 ?_
        refine gx_callVI (As := [.int (-1000005)]) (rest := []) C (c_X4_finds E σ (-1000005) 4 (by decide) (by decide)) z_X4_finds ck4 (by rfl) (by rfl) ml_X4_39 (by rfl) (Nat.le_of_ble_eq_true rfl) ⟨Nat.le_of_ble_eq_true rfl, Nat.le_of_ble_eq_true rfl⟩ dX4_gift_48 (fun r8 σ8 w8 => ?_)
        obtain ⟨u1, u2⟩ := w8; rw [u1, u2]; clear u1 u2
        exact gx_iret C hr hlk rfl (fim_fd hR (by decide) (by first | (simp only [opGift, ck, cg1, bey, sta] <;> grind) | (simp only [opGift, ck, bey, sta] <;> grind) | (simp only [opGift, bey, sta] <;> grind))) dX4_gift_51
      ·
        have hg0 : 0 ≤ K 6 k ∧ K 6 k < K 0 0 := ⟨Int32.not_lt.mp h7, (hpp k hk).2.2.2.2.2⟩
        obtain ⟨g1, hg1, eg1⟩ := has_nat hO hg0
        have cg1 : cl (K 6 k) = g1 := by rw [eg1]; exact nI_clamp (by omega)
        refine gx_aload_n C dX4_gift_36 (by rfl) (by rfl) ?_
        refine gx_iload_n C dX4_gift_37 (by rfl) (by rfl) ?_
        refine gx_iload_n C dX4_gift_38 (by rfl) (by rfl) ?_
        refine gx_callVI (As := [.int (nI k), .int v]) (rest := []) C (c_X4_canGive E σ K hM hO k (by omega) g1 (by omega) eg1 v) z_X4_canGive ck4 (by rfl) (by rfl) ml_X4_122 (by rfl) (Nat.le_of_ble_eq_true rfl) ⟨Nat.le_of_ble_eq_true rfl, Nat.le_of_ble_eq_true rfl⟩ dX4_gift_39 (fun r9 σ9 w9 => ?_)
        obtain ⟨u1, u2⟩ := w9; rw [u1, u2]; clear u1 u2
        refine gx_if_ne (tgt := 52) C dX4_gift_42 (by decide) (fun h10 => ?_) (fun h10 => ?_)
        ·
          have h10 := b2_nz.mp h10
          refine gx_aload_n C dX4_gift_52 (by rfl) (by rfl) ?_
          refine gx_iload_n C dX4_gift_53 (by rfl) (by rfl) ?_
          refine gx_iload_n C dX4_gift_54 (by rfl) (by rfl) ?_
          refine gx_callVV (As := [.int (nI k), .int v]) (rest := []) C (c_X4_gives E σ K hM hO k (by omega) g1 (by omega) eg1 v) z_X4_gives ck4 (by rfl) (by rfl) ml_X4_125 (by rfl) (Nat.le_of_ble_eq_true rfl) ⟨Nat.le_of_ble_eq_true rfl, Nat.le_of_ble_eq_true rfl⟩ dX4_gift_55 (fun σ11 w11 => ?_)
          obtain ⟨hM11, hF11⟩ := w11
          refine gx_aload_n C dX4_gift_58 (by rfl) (by rfl) ?_
          refine gx_iload_n C dX4_gift_59 (by rfl) (by rfl) ?_
          refine gx_bipush (v := 6) C dX4_gift_60 (by decide) ?_
          refine gx_callVI (As := [.int (nI k), .int 6]) (rest := []) C (c_X4_is E σ11 k (by omega) 6 (by omega)) z_X4_is ck4 (by rfl) (by rfl) ml_X4_51 (by rfl) (Nat.le_of_ble_eq_true rfl) ⟨Nat.le_of_ble_eq_true rfl, Nat.le_of_ble_eq_true rfl⟩ dX4_gift_62 (fun r14 σ14 w14 => ?_)
          obtain ⟨u1, u2⟩ := w14; rw [u1, u2]; clear u1 u2
          refine gx_st (st' := [.int ((tkK K k g1 v) 7 k)]) (by rw [mp_7 hM11 (p := k) (by omega)]) ?_
          exact gx_iret C hr hlk rfl (fim_now hR hM11 (Ok_tk hO (by omega) hg1 (by grind) (by grind) (by grind)) ((F3.rf).f1 hF11 (by decide)) (by first | (simp only [opGift, ck, cg1, bey, sta] <;> grind) | (simp only [opGift, ck, bey, sta] <;> grind) | (simp only [opGift, bey, sta] <;> grind))) dX4_gift_65
        ·
          have h10 := b2_z.mp h10
          refine gx_aload_n C dX4_gift_45 (by rfl) (by rfl) ?_
          refine gx_ldc C kc_X4_67 dX4_gift_46 ?_
          refine gx_callVI (As := [.int (-1000005)]) (rest := []) C (c_X4_finds E σ (-1000005) 4 (by decide) (by decide)) z_X4_finds ck4 (by rfl) (by rfl) ml_X4_39 (by rfl) (Nat.le_of_ble_eq_true rfl) ⟨Nat.le_of_ble_eq_true rfl, Nat.le_of_ble_eq_true rfl⟩ dX4_gift_48 (fun r15 σ15 w15 => ?_)
          obtain ⟨u1, u2⟩ := w15; rw [u1, u2]; clear u1 u2
          exact gx_iret C hr hlk rfl (fim_fd hR (by decide) (by first | (simp only [opGift, ck, cg1, bey, sta] <;> grind) | (simp only [opGift, ck, bey, sta] <;> grind) | (simp only [opGift, bey, sta] <;> grind))) dX4_gift_51
    ·
      have h5 := b2_z.mp h5
      refine gx_aload_n C dX4_gift_20 (by rfl) (by rfl) ?_
      refine gx_ldc C kc_X4_37 dX4_gift_21 ?_
      refine gx_callVI (As := [.int (-1000001)]) (rest := []) C (c_X4_finds E σ (-1000001) 0 (by decide) (by decide)) z_X4_finds ck4 (by rfl) (by rfl) ml_X4_39 (by rfl) (Nat.le_of_ble_eq_true rfl) ⟨Nat.le_of_ble_eq_true rfl, Nat.le_of_ble_eq_true rfl⟩ dX4_gift_23 (fun r16 σ16 w16 => ?_)
      obtain ⟨u1, u2⟩ := w16; rw [u1, u2]; clear u1 u2
      exact gx_iret C hr hlk rfl (fim_fd hR (by decide) (by first | (simp only [opGift, ck, cg1, bey, sta] <;> grind) | (simp only [opGift, ck, bey, sta] <;> grind) | (simp only [opGift, bey, sta] <;> grind))) dX4_gift_26
set_option maxHeartbeats 4000000 in
set_option maxRecDepth 100000 in
theorem c_X4_exchange (E : En) (σ : Mm) (K L : Mm) (g : Int32) (F : Nat → Int32) (tl : Int32) (Bt W Z : Nat → Int32) (N : Mm) (hR : MR σ (K, L, g, F, tl, Bt, W, Z, N)) (q t : Int32) : CtI E yX4_exchange cX4_exchange 3 (some .int) 2 46 [.ref (eA E 49), .int q, .int t] σ (fun rr σ2 => rr = (opExchange (K, L, g, F, tl, Bt, W, Z, N) q t).1 ∧ MR σ2 (opExchange (K, L, g, F, tl, Bt, W, Z, N) q t).2 ∧ FM σ σ2) := by
  obtain ⟨⟨hM, hO⟩, ⟨hg1, hg2, hg3⟩, hFd, ⟨⟨htl, htl2⟩, hBt⟩, hSh⟩ := id hR
  obtain ⟨⟨hn, h12⟩, hpp, hlw, hsp, hz0⟩ := id hO
  refine CtI.of (by decide +kernel) (Nat.le_of_ble_eq_true rfl) (fun p e0 s m below meth c C hr hlk => ?_)
  refine gx_lv (lv' := [(0, .ref (eA E 49)), (1, .int q), (2, .int t)]) rfl ?_
  refine gx_aload_n C dX4_exchange_0 (by rfl) (by rfl) ?_
  refine gx_iload_n C dX4_exchange_1 (by rfl) (by rfl) ?_
  refine gx_callVI (As := [.int q]) (rest := []) C (c_X4_isPerson E σ K hM hO q) z_X4_isPerson ck4 (by rfl) (by rfl) ml_X4_101 (by rfl) (Nat.le_of_ble_eq_true rfl) ⟨Nat.le_of_ble_eq_true rfl, Nat.le_of_ble_eq_true rfl⟩ dX4_exchange_2 (fun r1 σ1 w1 => ?_)
  obtain ⟨u1, u2⟩ := w1; rw [u1, u2]; clear u1 u2
  refine gx_if_eq (tgt := 21) C dX4_exchange_5 (by decide) (fun h2 => ?_) (fun h2 => ?_)
  ·
    have h2 := b2_z.mp h2
    refine gx_aload_n C dX4_exchange_21 (by rfl) (by rfl) ?_
    refine gx_ldc C kc_X4_37 dX4_exchange_22 ?_
    refine gx_callVI (As := [.int (-1000001)]) (rest := []) C (c_X4_finds E σ (-1000001) 0 (by decide) (by decide)) z_X4_finds ck4 (by rfl) (by rfl) ml_X4_39 (by rfl) (Nat.le_of_ble_eq_true rfl) ⟨Nat.le_of_ble_eq_true rfl, Nat.le_of_ble_eq_true rfl⟩ dX4_exchange_24 (fun r3 σ3 w3 => ?_)
    obtain ⟨u1, u2⟩ := w3; rw [u1, u2]; clear u1 u2
    exact gx_iret C hr hlk rfl (fim_fd hR (by decide) (by first | (simp only [opExchange, ck, cj, bey, sta] <;> grind) | (simp only [opExchange, ck, bey, sta] <;> grind) | (simp only [opExchange, bey, sta] <;> grind))) dX4_exchange_27
  ·
    have h2 := b2_nz.mp h2
    obtain ⟨k, hk, rfl⟩ := has_nat hO h2
    have ck : (nI k).toNatClampNeg = k := nI_clamp (by omega)
    refine gx_aload_n C dX4_exchange_8 (by rfl) (by rfl) ?_
    refine gx_iload_n C dX4_exchange_9 (by rfl) (by rfl) ?_
    refine gx_callVI (As := [.int t]) (rest := []) C (c_X4_isPerson E σ K hM hO t) z_X4_isPerson ck4 (by rfl) (by rfl) ml_X4_101 (by rfl) (Nat.le_of_ble_eq_true rfl) ⟨Nat.le_of_ble_eq_true rfl, Nat.le_of_ble_eq_true rfl⟩ dX4_exchange_10 (fun r4 σ4 w4 => ?_)
    obtain ⟨u1, u2⟩ := w4; rw [u1, u2]; clear u1 u2
    refine gx_if_eq (tgt := 21) C dX4_exchange_13 (by decide) (fun h5 => ?_) (fun h5 => ?_)
    ·
      have h5 := b2_z.mp h5
      refine gx_aload_n C dX4_exchange_21 (by rfl) (by rfl) ?_
      refine gx_ldc C kc_X4_37 dX4_exchange_22 ?_
      refine gx_callVI (As := [.int (-1000001)]) (rest := []) C (c_X4_finds E σ (-1000001) 0 (by decide) (by decide)) z_X4_finds ck4 (by rfl) (by rfl) ml_X4_39 (by rfl) (Nat.le_of_ble_eq_true rfl) ⟨Nat.le_of_ble_eq_true rfl, Nat.le_of_ble_eq_true rfl⟩ dX4_exchange_24 (fun r6 σ6 w6 => ?_)
      obtain ⟨u1, u2⟩ := w6; rw [u1, u2]; clear u1 u2
      exact gx_iret C hr hlk rfl (fim_fd hR (by decide) (by first | (simp only [opExchange, ck, cj, bey, sta] <;> grind) | (simp only [opExchange, ck, bey, sta] <;> grind) | (simp only [opExchange, bey, sta] <;> grind))) dX4_exchange_27
    ·
      have h5 := b2_nz.mp h5
      obtain ⟨j, hj, rfl⟩ := has_nat hO h5
      have cj : (nI j).toNatClampNeg = j := nI_clamp (by omega)
      refine gx_iload_n C dX4_exchange_16 (by rfl) (by rfl) ?_
      refine gx_iload_n C dX4_exchange_17 (by rfl) (by rfl) ?_
      refine gx_icmp_ne (tgt := 28) C dX4_exchange_18 (by decide) (fun h7 => ?_) (fun h7 => ?_)
      ·
        have h7 := (not_congr (nI_eq (a := k) (b := j) (by omega) (by omega))).mp h7
        refine gx_aload_n C dX4_exchange_28 (by rfl) (by rfl) ?_
        refine gx_iload_n C dX4_exchange_29 (by rfl) (by rfl) ?_
        refine gx_callVI (As := [.int (nI k)]) (rest := []) C (c_X4_isOut E σ K hM hO k (by omega)) z_X4_isOut ck4 (by rfl) (by rfl) ml_X4_119 (by rfl) (Nat.le_of_ble_eq_true rfl) ⟨Nat.le_of_ble_eq_true rfl, Nat.le_of_ble_eq_true rfl⟩ dX4_exchange_30 (fun r8 σ8 w8 => ?_)
        obtain ⟨u1, u2⟩ := w8; rw [u1, u2]; clear u1 u2
        refine gx_if_ne (tgt := 44) C dX4_exchange_33 (by decide) (fun h9 => ?_) (fun h9 => ?_)
        ·
          have h9 := b2_nz.mp h9
          refine gx_aload_n C dX4_exchange_44 (by rfl) (by rfl) ?_
          refine gx_ldc C kc_X4_67 dX4_exchange_45 ?_
          refine gx_callVI (As := [.int (-1000005)]) (rest := []) C (c_X4_finds E σ (-1000005) 4 (by decide) (by decide)) z_X4_finds ck4 (by rfl) (by rfl) ml_X4_39 (by rfl) (Nat.le_of_ble_eq_true rfl) ⟨Nat.le_of_ble_eq_true rfl, Nat.le_of_ble_eq_true rfl⟩ dX4_exchange_47 (fun r10 σ10 w10 => ?_)
          obtain ⟨u1, u2⟩ := w10; rw [u1, u2]; clear u1 u2
          exact gx_iret C hr hlk rfl (fim_fd hR (by decide) (by first | (simp only [opExchange, ck, cj, bey, sta] <;> grind) | (simp only [opExchange, ck, bey, sta] <;> grind) | (simp only [opExchange, bey, sta] <;> grind))) dX4_exchange_50
        ·
          have h9 := b2_z.mp h9
          refine gx_aload_n C dX4_exchange_36 (by rfl) (by rfl) ?_
          refine gx_iload_n C dX4_exchange_37 (by rfl) (by rfl) ?_
          refine gx_callVI (As := [.int (nI j)]) (rest := []) C (c_X4_isOut E σ K hM hO j (by omega)) z_X4_isOut ck4 (by rfl) (by rfl) ml_X4_119 (by rfl) (Nat.le_of_ble_eq_true rfl) ⟨Nat.le_of_ble_eq_true rfl, Nat.le_of_ble_eq_true rfl⟩ dX4_exchange_38 (fun r11 σ11 w11 => ?_)
          obtain ⟨u1, u2⟩ := w11; rw [u1, u2]; clear u1 u2
          refine gx_if_eq (tgt := 51) C dX4_exchange_41 (by decide) (fun h14 => ?_) (fun h14 => ?_)
          ·
            have h14 := b2_z.mp h14
            refine gx_aload_n C dX4_exchange_51 (by rfl) (by rfl) ?_
            refine gx_iload_n C dX4_exchange_52 (by rfl) (by rfl) ?_
            refine gx_iconst (v := 1) C dX4_exchange_53 (by decide) ?_
            refine gx_aload_n C dX4_exchange_54 (by rfl) (by rfl) ?_
            refine gx_bipush (v := 15) C dX4_exchange_55 (by decide) ?_
            refine gx_bipush (v := 7) C dX4_exchange_57 (by decide) ?_
            refine gx_iload_n C dX4_exchange_59 (by rfl) (by rfl) ?_
            refine gx_imul C dX4_exchange_60 ?_
            refine gx_st (st' := [.int (nI (7 * k)), .int 15, .ref (eA E 49), .int 1, .int (nI j), .ref (eA E 49)]) (by rw [show 7 * (nI k) = nI (7 * k) from pk_mul 7 k]) ?_
            refine gx_iadd C dX4_exchange_61 ?_
            refine gx_st (st' := [.int (nI (15 + 7 * k)), .ref (eA E 49), .int 1, .int (nI j), .ref (eA E 49)]) (by rw [show 15 + (nI (7 * k)) = nI (15 + 7 * k) from nI_add 15 (7 * k)]) ?_
            refine gx_iconst (v := 1) C dX4_exchange_62 (by decide) ?_
            refine gx_iadd C dX4_exchange_63 ?_
            refine gx_st (st' := [.int (nI (15 + 7 * k + 1)), .ref (eA E 49), .int 1, .int (nI j), .ref (eA E 49)]) (by rw [show (nI (15 + 7 * k)) + 1 = nI (15 + 7 * k + 1) from nI_add (15 + 7 * k) 1]) ?_
            refine gx_aload_n C dX4_exchange_64 (by rfl) (by rfl) ?_
            refine gx_iload_n C dX4_exchange_65 (by rfl) (by rfl) ?_
            refine gx_iconst (v := 1) C dX4_exchange_66 (by decide) ?_
            refine gx_callVI (As := [.int (nI j), .int 1]) (rest := [.int (nI (15 + 7 * k + 1)), .ref (eA E 49), .int 1, .int (nI j), .ref (eA E 49)]) C (c_X4_is E σ j (by omega) 1 (by omega)) z_X4_is ck4 (by rfl) (by rfl) ml_X4_51 (by rfl) (Nat.le_of_ble_eq_true rfl) ⟨Nat.le_of_ble_eq_true rfl, Nat.le_of_ble_eq_true rfl⟩ dX4_exchange_67 (fun r15 σ15 w15 => ?_)
            obtain ⟨u1, u2⟩ := w15; rw [u1, u2]; clear u1 u2
            refine gx_st (st' := [.int (K 2 j), .int (nI (15 + 7 * k + 1)), .ref (eA E 49), .int 1, .int (nI j), .ref (eA E 49)]) (by rw [mp_2 hM (p := j) (by omega)]) ?_
            refine gx_callVI (As := [.int (nI (15 + 7 * k + 1)), .int (K 2 j)]) (rest := [.int 1, .int (nI j), .ref (eA E 49)]) C (c_X4_becomes E σ (15 + 7 * k + 1) (by omega) (K 2 j)) z_X4_becomes ck4 (by rfl) (by rfl) ml_X4_68 (by rfl) (Nat.le_of_ble_eq_true rfl) ⟨Nat.le_of_ble_eq_true rfl, Nat.le_of_ble_eq_true rfl⟩ dX4_exchange_70 (fun r17 σ17 w17 => ?_)
            obtain ⟨u1, u2⟩ := w17; rw [u1, u2]; clear u1 u2
            refine gx_st (st' := [.int (K (2) k), .int 1, .int (nI j), .ref (eA E 49)]) (by rw [mp_2 hM (p := k) (by omega)]) ?_
            have hM16 : vM (up2 σ 50 (15 + 7 * k + 1) (K 2 j)) 50 = up2 K (2) k (K 2 j) := by rw [vM_mk (by omega) (by omega), hM]
            refine gx_callVV (As := [.int (nI j), .int 1, .int (K (2) k)]) (rest := []) C (c_X4_makes E (up2 σ 50 (15 + 7 * k + 1) (K 2 j)) j (by omega) 1 (by omega) (K (2) k)) z_X4_makes ck4 (by rfl) (by rfl) ml_X4_87 (by rfl) (Nat.le_of_ble_eq_true rfl) ⟨Nat.le_of_ble_eq_true rfl, Nat.le_of_ble_eq_true rfl⟩ dX4_exchange_73 (fun σ19 w19 => ?_)
            rw [w19]; clear w19
            have hM18 : vM (up2 (up2 σ 50 (15 + 7 * k + 1) (K 2 j)) 50 (15 + 7 * j + 1) (K (2) k)) 50 = up2 (up2 K 2 k (K 2 j)) 2 j (K (2) k) := by rw [vM_mk (by omega) (by omega), hM16]
            refine gx_iconst (v := 1) C dX4_exchange_76 (by decide) ?_
            exact gx_iret C hr hlk rfl (fim_now hR hM18 ((hO.rank (p := k) (v := (K 2 j)) (by omega) (hpp j (by omega)).2.1).rank (p := j) (v := (K (2) k)) (by omega) (hpp k (by omega)).2.1) (((F3.rf).up (by decide)).up (by decide)) (by first | (simp only [opExchange, ck, cj, bey, sta] <;> grind) | (simp only [opExchange, ck, bey, sta] <;> grind) | (simp only [opExchange, bey, sta] <;> grind))) dX4_exchange_77
          ·
            have h14 := b2_nz.mp h14
            refine gx_aload_n C dX4_exchange_44 (by rfl) (by rfl) ?_
            refine gx_ldc C kc_X4_67 dX4_exchange_45 ?_
            refine gx_callVI (As := [.int (-1000005)]) (rest := []) C (c_X4_finds E σ (-1000005) 4 (by decide) (by decide)) z_X4_finds ck4 (by rfl) (by rfl) ml_X4_39 (by rfl) (Nat.le_of_ble_eq_true rfl) ⟨Nat.le_of_ble_eq_true rfl, Nat.le_of_ble_eq_true rfl⟩ dX4_exchange_47 (fun r20 σ20 w20 => ?_)
            obtain ⟨u1, u2⟩ := w20; rw [u1, u2]; clear u1 u2
            exact gx_iret C hr hlk rfl (fim_fd hR (by decide) (by first | (simp only [opExchange, ck, cj, bey, sta] <;> grind) | (simp only [opExchange, ck, bey, sta] <;> grind) | (simp only [opExchange, bey, sta] <;> grind))) dX4_exchange_50
      ·
        have h7 := (nI_eq (a := k) (b := j) (by omega) (by omega)).mp h7
        refine gx_aload_n C dX4_exchange_21 (by rfl) (by rfl) ?_
        refine gx_ldc C kc_X4_37 dX4_exchange_22 ?_
        refine gx_callVI (As := [.int (-1000001)]) (rest := []) C (c_X4_finds E σ (-1000001) 0 (by decide) (by decide)) z_X4_finds ck4 (by rfl) (by rfl) ml_X4_39 (by rfl) (Nat.le_of_ble_eq_true rfl) ⟨Nat.le_of_ble_eq_true rfl, Nat.le_of_ble_eq_true rfl⟩ dX4_exchange_24 (fun r21 σ21 w21 => ?_)
        obtain ⟨u1, u2⟩ := w21; rw [u1, u2]; clear u1 u2
        exact gx_iret C hr hlk rfl (fim_fd hR (by decide) (by first | (simp only [opExchange, ck, cj, bey, sta] <;> grind) | (simp only [opExchange, ck, bey, sta] <;> grind) | (simp only [opExchange, bey, sta] <;> grind))) dX4_exchange_27
set_option maxHeartbeats 4000000 in
set_option maxRecDepth 100000 in
theorem c_X4_wants (E : En) (σ : Mm) (K L : Mm) (g : Int32) (F : Nat → Int32) (tl : Int32) (Bt W Z : Nat → Int32) (N : Mm) (hR : MR σ (K, L, g, F, tl, Bt, W, Z, N)) (q t : Int32) : CtI E yX4_wants cX4_wants 3 (some .int) 3 70 [.ref (eA E 49), .int q, .int t] σ (fun rr σ2 => rr = (opWants (K, L, g, F, tl, Bt, W, Z, N) q t).1 ∧ MR σ2 (opWants (K, L, g, F, tl, Bt, W, Z, N) q t).2 ∧ FM σ σ2) := by
  obtain ⟨⟨hM, hO⟩, ⟨hg1, hg2, hg3⟩, hFd, ⟨⟨htl, htl2⟩, hBt⟩, hSh⟩ := id hR
  obtain ⟨⟨hn, h12⟩, hpp, hlw, hsp, hz0⟩ := id hO
  refine CtI.of (by decide +kernel) (Nat.le_of_ble_eq_true rfl) (fun p e0 s m below meth c C hr hlk => ?_)
  refine gx_lv (lv' := [(0, .ref (eA E 49)), (1, .int q), (2, .int t)]) rfl ?_
  refine gx_aload_n C dX4_wants_0 (by rfl) (by rfl) ?_
  refine gx_iload_n C dX4_wants_1 (by rfl) (by rfl) ?_
  refine gx_callVI (As := [.int q]) (rest := []) C (c_X4_isPerson E σ K hM hO q) z_X4_isPerson ck4 (by rfl) (by rfl) ml_X4_101 (by rfl) (Nat.le_of_ble_eq_true rfl) ⟨Nat.le_of_ble_eq_true rfl, Nat.le_of_ble_eq_true rfl⟩ dX4_wants_2 (fun r1 σ1 w1 => ?_)
  obtain ⟨u1, u2⟩ := w1; rw [u1, u2]; clear u1 u2
  refine gx_if_eq (tgt := 21) C dX4_wants_5 (by decide) (fun h2 => ?_) (fun h2 => ?_)
  ·
    have h2 := b2_z.mp h2
    refine gx_aload_n C dX4_wants_21 (by rfl) (by rfl) ?_
    refine gx_ldc C kc_X4_37 dX4_wants_22 ?_
    refine gx_callVI (As := [.int (-1000001)]) (rest := []) C (c_X4_finds E σ (-1000001) 0 (by decide) (by decide)) z_X4_finds ck4 (by rfl) (by rfl) ml_X4_39 (by rfl) (Nat.le_of_ble_eq_true rfl) ⟨Nat.le_of_ble_eq_true rfl, Nat.le_of_ble_eq_true rfl⟩ dX4_wants_24 (fun r3 σ3 w3 => ?_)
    obtain ⟨u1, u2⟩ := w3; rw [u1, u2]; clear u1 u2
    exact gx_iret C hr hlk rfl (fim_fd hR (by decide) (by simp only [opWants, bey, ful, knd, non, sta, mis, siz] <;> grind)) dX4_wants_27
  ·
    have h2 := b2_nz.mp h2
    obtain ⟨k, hk, rfl⟩ := has_nat hO h2
    have ck : (nI k).toNatClampNeg = k := nI_clamp (by omega)
    refine gx_aload_n C dX4_wants_8 (by rfl) (by rfl) ?_
    refine gx_iload_n C dX4_wants_9 (by rfl) (by rfl) ?_
    refine gx_callVI (As := [.int t]) (rest := []) C (c_X4_isPerson E σ K hM hO t) z_X4_isPerson ck4 (by rfl) (by rfl) ml_X4_101 (by rfl) (Nat.le_of_ble_eq_true rfl) ⟨Nat.le_of_ble_eq_true rfl, Nat.le_of_ble_eq_true rfl⟩ dX4_wants_10 (fun r4 σ4 w4 => ?_)
    obtain ⟨u1, u2⟩ := w4; rw [u1, u2]; clear u1 u2
    refine gx_if_eq (tgt := 21) C dX4_wants_13 (by decide) (fun h5 => ?_) (fun h5 => ?_)
    ·
      have h5 := b2_z.mp h5
      refine gx_aload_n C dX4_wants_21 (by rfl) (by rfl) ?_
      refine gx_ldc C kc_X4_37 dX4_wants_22 ?_
      refine gx_callVI (As := [.int (-1000001)]) (rest := []) C (c_X4_finds E σ (-1000001) 0 (by decide) (by decide)) z_X4_finds ck4 (by rfl) (by rfl) ml_X4_39 (by rfl) (Nat.le_of_ble_eq_true rfl) ⟨Nat.le_of_ble_eq_true rfl, Nat.le_of_ble_eq_true rfl⟩ dX4_wants_24 (fun r6 σ6 w6 => ?_)
      obtain ⟨u1, u2⟩ := w6; rw [u1, u2]; clear u1 u2
      exact gx_iret C hr hlk rfl (fim_fd hR (by decide) (by simp only [opWants, bey, ful, knd, non, sta, mis, siz] <;> grind)) dX4_wants_27
    ·
      have h5 := b2_nz.mp h5
      obtain ⟨j, hj, rfl⟩ := has_nat hO h5
      have cj : (nI j).toNatClampNeg = j := nI_clamp (by omega)
      refine gx_iload_n C dX4_wants_16 (by rfl) (by rfl) ?_
      refine gx_iload_n C dX4_wants_17 (by rfl) (by rfl) ?_
      refine gx_icmp_ne (tgt := 28) C dX4_wants_18 (by decide) (fun h7 => ?_) (fun h7 => ?_)
      ·
        have h7 := (not_congr (nI_eq (a := k) (b := j) (by omega) (by omega))).mp h7
        refine gx_aload_n C dX4_wants_28 (by rfl) (by rfl) ?_
        refine gx_iload_n C dX4_wants_29 (by rfl) (by rfl) ?_
        refine gx_iload_n C dX4_wants_30 (by rfl) (by rfl) ?_
        refine gx_callVI (As := [.int (nI k), .int (nI j)]) (rest := []) C (c_X4_wantsIt E σ K hM hO k (by omega) j (by omega)) z_X4_wantsIt ck4 (by rfl) (by rfl) ml_X4_132 (by rfl) (Nat.le_of_ble_eq_true rfl) ⟨Nat.le_of_ble_eq_true rfl, Nat.le_of_ble_eq_true rfl⟩ dX4_wants_31 (fun r8 σ8 w8 => ?_)
        obtain ⟨u1, u2⟩ := w8; rw [u1, u2]; clear u1 u2
        refine gx_if_eq (tgt := 41) C dX4_wants_34 (by decide) (fun h9 => ?_) (fun h9 => ?_)
        ·
          have h9 := b2_z.mp h9
          refine gx_iconst (v := 0) C dX4_wants_41 (by decide) ?_
          exact gx_iret C hr hlk rfl (fim_rd hR (by simp only [opWants, bey]; rw [if_pos (by grind)]; simp only [ck, cj]; exact congrArg (fun z => (z, _)) (b2_f (by assumption)).symm)) dX4_wants_42
        ·
          have h9 := b2_nz.mp h9
          refine gx_iconst (v := 1) C dX4_wants_37 (by decide) ?_
          refine gx_goto (tgt := 42) C dX4_wants_38 (by decide) ?_
          exact gx_iret C hr hlk rfl (fim_rd hR (by simp only [opWants, bey]; rw [if_pos (by grind)]; simp only [ck, cj]; exact congrArg (fun z => (z, _)) (b2_t (by assumption)).symm)) dX4_wants_42
      ·
        have h7 := (nI_eq (a := k) (b := j) (by omega) (by omega)).mp h7
        refine gx_aload_n C dX4_wants_21 (by rfl) (by rfl) ?_
        refine gx_ldc C kc_X4_37 dX4_wants_22 ?_
        refine gx_callVI (As := [.int (-1000001)]) (rest := []) C (c_X4_finds E σ (-1000001) 0 (by decide) (by decide)) z_X4_finds ck4 (by rfl) (by rfl) ml_X4_39 (by rfl) (Nat.le_of_ble_eq_true rfl) ⟨Nat.le_of_ble_eq_true rfl, Nat.le_of_ble_eq_true rfl⟩ dX4_wants_24 (fun r10 σ10 w10 => ?_)
        obtain ⟨u1, u2⟩ := w10; rw [u1, u2]; clear u1 u2
        exact gx_iret C hr hlk rfl (fim_fd hR (by decide) (by simp only [opWants, bey, ful, knd, non, sta, mis, siz] <;> grind)) dX4_wants_27
set_option maxHeartbeats 4000000 in
set_option maxRecDepth 100000 in
theorem c_X4_against (E : En) (σ : Mm) (K L : Mm) (g : Int32) (F : Nat → Int32) (tl : Int32) (Bt W Z : Nat → Int32) (N : Mm) (hR : MR σ (K, L, g, F, tl, Bt, W, Z, N)) (q : Int32) : CtI E yX4_against cX4_against 2 (some .int) 4 94 [.ref (eA E 49), .int q] σ (fun rr σ2 => rr = (opAgainst (K, L, g, F, tl, Bt, W, Z, N) q).1 ∧ MR σ2 (opAgainst (K, L, g, F, tl, Bt, W, Z, N) q).2 ∧ FM σ σ2) := by
  obtain ⟨⟨hM, hO⟩, ⟨hg1, hg2, hg3⟩, hFd, ⟨⟨htl, htl2⟩, hBt⟩, hSh⟩ := id hR
  obtain ⟨⟨hn, h12⟩, hpp, hlw, hsp, hz0⟩ := id hO
  refine CtI.of (by decide +kernel) (Nat.le_of_ble_eq_true rfl) (fun p e0 s m below meth c C hr hlk => ?_)
  refine gx_lv (lv' := [(0, .ref (eA E 49)), (1, .int q)]) rfl ?_
  refine gx_aload_n C dX4_against_0 (by rfl) (by rfl) ?_
  refine gx_iload_n C dX4_against_1 (by rfl) (by rfl) ?_
  refine gx_callVI (As := [.int q]) (rest := []) C (c_X4_isPerson E σ K hM hO q) z_X4_isPerson ck4 (by rfl) (by rfl) ml_X4_101 (by rfl) (Nat.le_of_ble_eq_true rfl) ⟨Nat.le_of_ble_eq_true rfl, Nat.le_of_ble_eq_true rfl⟩ dX4_against_2 (fun r1 σ1 w1 => ?_)
  obtain ⟨u1, u2⟩ := w1; rw [u1, u2]; clear u1 u2
  refine gx_if_ne (tgt := 15) C dX4_against_5 (by decide) (fun h2 => ?_) (fun h2 => ?_)
  ·
    have h2 := b2_nz.mp h2
    obtain ⟨k, hk, rfl⟩ := has_nat hO h2
    have ck : (nI k).toNatClampNeg = k := nI_clamp (by omega)
    refine gx_aload_n C dX4_against_15 (by rfl) (by rfl) ?_
    refine gx_iload_n C dX4_against_16 (by rfl) (by rfl) ?_
    refine gx_callVI (As := [.int (nI k)]) (rest := []) C (c_X4_isOut E σ K hM hO k (by omega)) z_X4_isOut ck4 (by rfl) (by rfl) ml_X4_119 (by rfl) (Nat.le_of_ble_eq_true rfl) ⟨Nat.le_of_ble_eq_true rfl, Nat.le_of_ble_eq_true rfl⟩ dX4_against_17 (fun r3 σ3 w3 => ?_)
    obtain ⟨u1, u2⟩ := w3; rw [u1, u2]; clear u1 u2
    refine gx_if_eq (tgt := 32) C dX4_against_20 (by decide) (fun h4 => ?_) (fun h4 => ?_)
    ·
      have h4 := b2_z.mp h4
      refine gx_aload_n C dX4_against_32 (by rfl) (by rfl) ?_
      refine gx_iload_n C dX4_against_33 (by rfl) (by rfl) ?_
      refine gx_callVI (As := [.int (nI k)]) (rest := []) C (c_X4_againstIt E σ K hM hO k (by omega) (by assumption)) z_X4_againstIt ck4 (by rfl) (by rfl) ml_X4_138 (by rfl) (Nat.le_of_ble_eq_true rfl) ⟨Nat.le_of_ble_eq_true rfl, Nat.le_of_ble_eq_true rfl⟩ dX4_against_34 (fun r5 σ5 w5 => ?_)
      obtain ⟨u1, u2⟩ := w5; rw [u1, u2]; clear u1 u2
      exact gx_iret C hr hlk rfl (fim_rd hR (by simp only [opAgainst, bey, ful, knd, non, sta, mis, siz] <;> grind)) dX4_against_37
    ·
      have h4 := b2_nz.mp h4
      refine gx_aload_n C dX4_against_23 (by rfl) (by rfl) ?_
      refine gx_ldc C kc_X4_67 dX4_against_24 ?_
      refine gx_callVI (As := [.int (-1000005)]) (rest := []) C (c_X4_finds E σ (-1000005) 4 (by decide) (by decide)) z_X4_finds ck4 (by rfl) (by rfl) ml_X4_39 (by rfl) (Nat.le_of_ble_eq_true rfl) ⟨Nat.le_of_ble_eq_true rfl, Nat.le_of_ble_eq_true rfl⟩ dX4_against_26 (fun r6 σ6 w6 => ?_)
      obtain ⟨u1, u2⟩ := w6; rw [u1, u2]; clear u1 u2
      refine gx_goto (tgt := 37) C dX4_against_29 (by decide) ?_
      exact gx_iret C hr hlk rfl (fim_fd hR (by decide) (by simp only [opAgainst, bey, ful, knd, non, sta, mis, siz] <;> grind)) dX4_against_37
  ·
    have h2 := b2_z.mp h2
    refine gx_aload_n C dX4_against_8 (by rfl) (by rfl) ?_
    refine gx_ldc C kc_X4_37 dX4_against_9 ?_
    refine gx_callVI (As := [.int (-1000001)]) (rest := []) C (c_X4_finds E σ (-1000001) 0 (by decide) (by decide)) z_X4_finds ck4 (by rfl) (by rfl) ml_X4_39 (by rfl) (Nat.le_of_ble_eq_true rfl) ⟨Nat.le_of_ble_eq_true rfl, Nat.le_of_ble_eq_true rfl⟩ dX4_against_11 (fun r7 σ7 w7 => ?_)
    obtain ⟨u1, u2⟩ := w7; rw [u1, u2]; clear u1 u2
    exact gx_iret C hr hlk rfl (fim_fd hR (by decide) (by simp only [opAgainst, bey, ful, knd, non, sta, mis, siz] <;> grind)) dX4_against_14
set_option maxHeartbeats 4000000 in
set_option maxRecDepth 100000 in
theorem c_X4_tremble (E : En) (σ : Mm) (K L : Mm) (g : Int32) (F : Nat → Int32) (tl : Int32) (Bt W Z : Nat → Int32) (N : Mm) (hR : MR σ (K, L, g, F, tl, Bt, W, Z, N)) : CtI E yX4_tremble cX4_tremble 1 (some .int) 5 116 [.ref (eA E 49)] σ (fun rr σ2 => rr = (opTremble (K, L, g, F, tl, Bt, W, Z, N)).1 ∧ MR σ2 (opTremble (K, L, g, F, tl, Bt, W, Z, N)).2 ∧ FM σ σ2) := by
  obtain ⟨⟨hM, hO⟩, ⟨hg1, hg2, hg3⟩, hFd, ⟨⟨htl, htl2⟩, hBt⟩, hSh⟩ := id hR
  obtain ⟨⟨hn, h12⟩, hpp, hlw, hsp, hz0⟩ := id hO
  refine CtI.of (by decide +kernel) (Nat.le_of_ble_eq_true rfl) (fun p e0 s m below meth c C hr hlk => ?_)
  refine gx_lv (lv' := [(0, .ref (eA E 49))]) rfl ?_
  refine gx_aload_n C dX4_tremble_0 (by rfl) (by rfl) ?_
  refine gx_callVI (As := []) (rest := []) C (c_X4_trembling E σ K hM hO) z_X4_trembling ck4 (by rfl) (by rfl) ml_X4_144 (by rfl) (Nat.le_of_ble_eq_true rfl) ⟨Nat.le_of_ble_eq_true rfl, Nat.le_of_ble_eq_true rfl⟩ dX4_tremble_1 (fun r1 σ1 w1 => ?_)
  obtain ⟨u1, u2⟩ := w1; rw [u1, u2]; clear u1 u2
  exact gx_iret C hr hlk rfl (fim_rd hR (by simp only [opTremble, bey, ful, knd, non, sta, mis, siz] <;> grind)) dX4_tremble_4
