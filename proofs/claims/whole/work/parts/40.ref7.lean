set_option maxHeartbeats 4000000 in
set_option maxRecDepth 100000 in
theorem c_X4_lacks (E : En) (σ : Mm) (K L : Mm) (g : Int32) (F : Nat → Int32) (tl : Int32) (Bt W Z : Nat → Int32) (N : Mm) (hR : MR σ (K, L, g, F, tl, Bt, W, Z, N)) (q : Int32) : CtI E yX4_lacks cX4_lacks 5 (some .int) 4 94 [.ref (eA E 49), .int q] σ (fun rr σ2 => rr = (opLacks (K, L, g, F, tl, Bt, W, Z, N) q).1 ∧ MR σ2 (opLacks (K, L, g, F, tl, Bt, W, Z, N) q).2 ∧ FM σ σ2) := by
  obtain ⟨⟨hM, hO⟩, ⟨hg1, hg2, hg3⟩, hFd, ⟨⟨htl, htl2⟩, hBt⟩, hSh⟩ := id hR
  obtain ⟨⟨hn, h12⟩, hpp, hlw, hsp, hz0⟩ := id hO
  refine CtI.of (by decide +kernel) (Nat.le_of_ble_eq_true rfl) (fun p e0 s m below meth c C hr hlk => ?_)
  refine gx_lv (lv' := [(0, .ref (eA E 49)), (1, .int q)]) rfl ?_
  refine gx_aload_n C dX4_lacks_0 (by rfl) (by rfl) ?_
  refine gx_iload_n C dX4_lacks_1 (by rfl) (by rfl) ?_
  refine gx_callVI (As := [.int q]) (rest := []) C (c_X4_isPerson E σ K hM hO q) z_X4_isPerson ck4 (by rfl) (by rfl) ml_X4_101 (by rfl) (Nat.le_of_ble_eq_true rfl) ⟨Nat.le_of_ble_eq_true rfl, Nat.le_of_ble_eq_true rfl⟩ dX4_lacks_2 (fun r1 σ1 w1 => ?_)
  obtain ⟨u1, u2⟩ := w1; rw [u1, u2]; clear u1 u2
  refine gx_if_ne (tgt := 15) C dX4_lacks_5 (by decide) (fun h2 => ?_) (fun h2 => ?_)
  ·
    have h2 := b2_nz.mp h2
    obtain ⟨k, hk, rfl⟩ := has_nat hO h2
    have ck : (nI k).toNatClampNeg = k := nI_clamp (by omega)
    refine gx_aload_n C dX4_lacks_15 (by rfl) (by rfl) ?_
    refine gx_iload_n C dX4_lacks_16 (by rfl) (by rfl) ?_
    refine gx_callVI (As := [.int (nI k)]) (rest := []) C (c_X4_isOut E σ K hM hO k (by omega)) z_X4_isOut ck4 (by rfl) (by rfl) ml_X4_119 (by rfl) (Nat.le_of_ble_eq_true rfl) ⟨Nat.le_of_ble_eq_true rfl, Nat.le_of_ble_eq_true rfl⟩ dX4_lacks_17 (fun r3 σ3 w3 => ?_)
    obtain ⟨u1, u2⟩ := w3; rw [u1, u2]; clear u1 u2
    refine gx_if_eq (tgt := 30) C dX4_lacks_20 (by decide) (fun h4 => ?_) (fun h4 => ?_)
    ·
      have h4 := b2_z.mp h4
      refine gx_aload_n C dX4_lacks_30 (by rfl) (by rfl) ?_
      refine gx_iload_n C dX4_lacks_31 (by rfl) (by rfl) ?_
      refine gx_callVI (As := [.int (nI k)]) (rest := []) C (c_X4_below E σ K hM hO k (by omega) (by assumption)) z_X4_below ck4 (by rfl) (by rfl) ml_X4_135 (by rfl) (Nat.le_of_ble_eq_true rfl) ⟨Nat.le_of_ble_eq_true rfl, Nat.le_of_ble_eq_true rfl⟩ dX4_lacks_32 (fun r5 σ5 w5 => ?_)
      obtain ⟨u1, u2⟩ := w5; rw [u1, u2]; clear u1 u2
      refine gx_callSI (As := [.int (bset (nn K) (blP K k))]) (rest := []) C (c_X4_many E σ (nn K) (by omega) (blP K k)) z_X4_many (by rfl) ml_X4_58 (by rfl) (Nat.le_of_ble_eq_true rfl) ⟨Nat.le_of_ble_eq_true rfl, Nat.le_of_ble_eq_true rfl⟩ dX4_lacks_35 (fun r6 σ6 w6 => ?_)
      obtain ⟨u1, u2⟩ := w6; rw [u1, u2]; clear u1 u2
      refine gx_istore_n (lv2 := [(2, .int (nI (cnt (blP K k) (nn K)))), (0, .ref (eA E 49)), (1, .int (nI k))]) C dX4_lacks_38 (by rfl) (by decide) rfl ?_
      refine gx_aload_n C dX4_lacks_39 (by rfl) (by rfl) ?_
      refine gx_iload_n C dX4_lacks_40 (by rfl) (by rfl) ?_
      refine gx_callVI (As := [.int (nI k)]) (rest := []) C (c_X4_againstIt E σ K hM hO k (by omega) (by assumption)) z_X4_againstIt ck4 (by rfl) (by rfl) ml_X4_138 (by rfl) (Nat.le_of_ble_eq_true rfl) ⟨Nat.le_of_ble_eq_true rfl, Nat.le_of_ble_eq_true rfl⟩ dX4_lacks_41 (fun r7 σ7 w7 => ?_)
      obtain ⟨u1, u2⟩ := w7; rw [u1, u2]; clear u1 u2
      refine gx_callSI (As := [.int (bset (nn K) (agP K k))]) (rest := []) C (c_X4_many E σ (nn K) (by omega) (agP K k)) z_X4_many (by rfl) ml_X4_58 (by rfl) (Nat.le_of_ble_eq_true rfl) ⟨Nat.le_of_ble_eq_true rfl, Nat.le_of_ble_eq_true rfl⟩ dX4_lacks_44 (fun r8 σ8 w8 => ?_)
      obtain ⟨u1, u2⟩ := w8; rw [u1, u2]; clear u1 u2
      refine gx_istore_n (lv2 := [(3, .int (nI (cnt (agP K k) (nn K)))), (2, .int (nI (cnt (blP K k) (nn K)))), (0, .ref (eA E 49)), (1, .int (nI k))]) C dX4_lacks_47 (by rfl) (by decide) rfl ?_
      refine gx_iconst (v := 0) C dX4_lacks_48 (by decide) ?_
      refine gx_istore (lv2 := [(4, .int 0), (3, .int (nI (cnt (agP K k) (nn K)))), (2, .int (nI (cnt (blP K k) (nn K)))), (0, .ref (eA E 49)), (1, .int (nI k))]) C dX4_lacks_49 (by decide) rfl ?_
      have loop51 : ∀ (f : Nat) (mv : Nat), mv ≤ cnt (blP K k) (nn K) + 1 → f + mv = 14 → lkF K (cnt (agP K k) (nn K)) (cnt (blP K k) (nn K)) f mv = lkF K (cnt (agP K k) (nn K)) (cnt (blP K k) (nn K)) 14 0 → Gx E p e0 (rmF 4 94) s m ([.ref (eA E 49), .int (nI k)] : List Value).toArray below meth c (MQ below (va_Qi (fun rr σ2 => rr = (opLacks (K, L, g, F, tl, Bt, W, Z, N) (nI k)).1 ∧ MR σ2 (opLacks (K, L, g, F, tl, Bt, W, Z, N) (nI k)).2 ∧ FM σ σ2) (WQ E) (AA E s.heap.size)) ([.ref (eA E 49), .int (nI k)] : List Value).toArray s 0 0 (AA E s.heap.size)) 5 51 [(0, .ref (eA E 49)), (1, .int (nI k)), (2, .int (nI (cnt (blP K k) (nn K)))), (3, .int (nI (cnt (agP K k) (nn K)))), (4, .int (nI mv))] [] σ := by
        intro f
        induction f with
        | zero => intro mv hm hf eT; have ha := cnt_le (blP K k) (nn K); exact absurd hm (by omega)
        | succ f ih51 =>
          intro mv hm hf eT
          have ha := cnt_le (blP K k) (nn K)
          have hw := cnt_le (agP K k) (nn K)
          refine gx_iload_n C dX4_lacks_51 (by rfl) (by rfl) ?_
          refine gx_iload C dX4_lacks_52 (by rfl) ?_
          refine gx_iadd C dX4_lacks_54 ?_
          refine gx_st (st' := [.int (nI (cnt (agP K k) (nn K) + mv))]) (by rw [show (nI (cnt (agP K k) (nn K))) + (nI mv) = nI (cnt (agP K k) (nn K) + mv) from nI_add (cnt (agP K k) (nn K)) mv]) ?_
          refine gx_iload_n C dX4_lacks_55 (by rfl) (by rfl) ?_
          refine gx_icmp_gt (tgt := 80) C dX4_lacks_56 (by decide) (fun h9 => ?_) (fun h9 => ?_)
          ·
            have h9 := (nI_ltI (a := (cnt (blP K k) (nn K))) (b := (cnt (agP K k) (nn K) + mv)) (by omega) (by omega)).mp h9
            refine gx_aload_n C dX4_lacks_80 (by rfl) (by rfl) ?_
            refine gx_ldc C kc_X4_38 dX4_lacks_81 ?_
            refine gx_callVI (As := [.int (-1000004)]) (rest := []) C (c_X4_finds E σ (-1000004) 3 (by decide) (by decide)) z_X4_finds ck4 (by rfl) (by rfl) ml_X4_39 (by rfl) (Nat.le_of_ble_eq_true rfl) ⟨Nat.le_of_ble_eq_true rfl, Nat.le_of_ble_eq_true rfl⟩ dX4_lacks_83 (fun r10 σ10 w10 => ?_)
            obtain ⟨u1, u2⟩ := w10; rw [u1, u2]; clear u1 u2
            exact gx_iret C hr hlk rfl (fim_fd hR (by decide) (by have q1 : lkF K (cnt (agP K k) (nn K)) (cnt (blP K k) (nn K)) 14 0 = -1 := (by rw [← eT, lkF, if_neg (by omega)]); simp only [opLacks, ck, q1, bey, sta, non] <;> grind)) dX4_lacks_86
          ·
            have h9 := (not_congr (nI_ltI (a := (cnt (blP K k) (nn K))) (b := (cnt (agP K k) (nn K) + mv)) (by omega) (by omega))).mp h9
            refine gx_aload_n C dX4_lacks_59 (by rfl) (by rfl) ?_
            refine gx_iload_n C dX4_lacks_60 (by rfl) (by rfl) ?_
            refine gx_iload C dX4_lacks_61 (by rfl) ?_
            refine gx_iadd C dX4_lacks_63 ?_
            refine gx_st (st' := [.int (nI (cnt (agP K k) (nn K) + mv)), .ref (eA E 49)]) (by rw [show (nI (cnt (agP K k) (nn K))) + (nI mv) = nI (cnt (agP K k) (nn K) + mv) from nI_add (cnt (agP K k) (nn K)) mv]) ?_
            refine gx_iload_n C dX4_lacks_64 (by rfl) (by rfl) ?_
            refine gx_callVI (As := [.int (nI (cnt (agP K k) (nn K) + mv)), .int (nI (cnt (blP K k) (nn K)))]) (rest := []) C (c_X4_isEnough E σ K hM hO (nI (cnt (agP K k) (nn K) + mv)) (nI (cnt (blP K k) (nn K)))) z_X4_isEnough ck4 (by rfl) (by rfl) ml_X4_141 (by rfl) (Nat.le_of_ble_eq_true rfl) ⟨Nat.le_of_ble_eq_true rfl, Nat.le_of_ble_eq_true rfl⟩ dX4_lacks_65 (fun r11 σ11 w11 => ?_)
            obtain ⟨u1, u2⟩ := w11; rw [u1, u2]; clear u1 u2
            refine gx_if_eq (tgt := 74) C dX4_lacks_68 (by decide) (fun h14 => ?_) (fun h14 => ?_)
            ·
              have h14 := b2_z.mp h14
              refine gx_iinc (v := nI (mv + 1)) (lv2 := [(4, .int (nI (mv + 1))), (0, .ref (eA E 49)), (1, .int (nI k)), (2, .int (nI (cnt (blP K k) (nn K)))), (3, .int (nI (cnt (agP K k) (nn K))))]) C dX4_lacks_74 (by rfl) (by exact nI_p1 _) (by decide) rfl ?_
              refine gx_goto (tgt := 51) C dX4_lacks_77 (by decide) ?_
              refine gx_sub [1, 2, 3, 4, 0] (lv' := [(0, .ref (eA E 49)), (1, .int (nI k)), (2, .int (nI (cnt (blP K k) (nn K)))), (3, .int (nI (cnt (agP K k) (nn K)))), (4, .int (nI (mv + 1)))]) rfl ?_
              exact ih51 (mv + 1) (by omega) (by omega) (by rw [← eT, lkF, if_pos (by omega), if_neg (by assumption)])
            ·
              have h14 := b2_nz.mp h14
              refine gx_iload C dX4_lacks_71 (by rfl) ?_
              exact gx_iret C hr hlk rfl (fim_rd hR (by have q1 : lkF K (cnt (agP K k) (nn K)) (cnt (blP K k) (nn K)) 14 0 = nI mv := (by rw [← eT, lkF, if_pos (by omega), if_pos (by assumption)]); have q2 : ¬ nI mv = -1 := nI_m1 (by omega); simp only [opLacks, ck, q1, bey, sta, non] <;> grind)) dX4_lacks_73
      refine gx_sub [3, 4, 2, 1, 0] (lv' := [(0, .ref (eA E 49)), (1, .int (nI k)), (2, .int (nI (cnt (blP K k) (nn K)))), (3, .int (nI (cnt (agP K k) (nn K)))), (4, .int 0)]) rfl ?_
      refine gx_lv (lv' := [(0, .ref (eA E 49)), (1, .int (nI k)), (2, .int (nI (cnt (blP K k) (nn K)))), (3, .int (nI (cnt (agP K k) (nn K)))), (4, .int (nI 0))]) (by rfl) ?_
      exact loop51 14 0 (by omega) (by omega) rfl
    ·
      have h4 := b2_nz.mp h4
      refine gx_aload_n C dX4_lacks_23 (by rfl) (by rfl) ?_
      refine gx_ldc C kc_X4_67 dX4_lacks_24 ?_
      refine gx_callVI (As := [.int (-1000005)]) (rest := []) C (c_X4_finds E σ (-1000005) 4 (by decide) (by decide)) z_X4_finds ck4 (by rfl) (by rfl) ml_X4_39 (by rfl) (Nat.le_of_ble_eq_true rfl) ⟨Nat.le_of_ble_eq_true rfl, Nat.le_of_ble_eq_true rfl⟩ dX4_lacks_26 (fun r15 σ15 w15 => ?_)
      obtain ⟨u1, u2⟩ := w15; rw [u1, u2]; clear u1 u2
      exact gx_iret C hr hlk rfl (fim_fd hR (by decide) (by simp only [opLacks, bey, ful, knd, non, sta, mis, siz] <;> grind)) dX4_lacks_29
  ·
    have h2 := b2_z.mp h2
    refine gx_aload_n C dX4_lacks_8 (by rfl) (by rfl) ?_
    refine gx_ldc C kc_X4_37 dX4_lacks_9 ?_
    refine gx_callVI (As := [.int (-1000001)]) (rest := []) C (c_X4_finds E σ (-1000001) 0 (by decide) (by decide)) z_X4_finds ck4 (by rfl) (by rfl) ml_X4_39 (by rfl) (Nat.le_of_ble_eq_true rfl) ⟨Nat.le_of_ble_eq_true rfl, Nat.le_of_ble_eq_true rfl⟩ dX4_lacks_11 (fun r16 σ16 w16 => ?_)
    obtain ⟨u1, u2⟩ := w16; rw [u1, u2]; clear u1 u2
    exact gx_iret C hr hlk rfl (fim_fd hR (by decide) (by simp only [opLacks, bey, ful, knd, non, sta, mis, siz] <;> grind)) dX4_lacks_14
theorem hr_neg {K : Mm} {S : Nat → Bool} (h12 : nn K ≤ 12) : hrS K S < 0 ↔ hrS K S = -1 := by
  constructor
  · intro h
    rcases hrS_or K S with q | ⟨b, h1, h2, h3⟩
    · exact q
    · rw [h2] at h
      exact absurd h (nI_pos (by omega))
  · intro h; rw [h]; decide
set_option maxHeartbeats 4000000 in
set_option maxRecDepth 100000 in
theorem c_X4_heir (E : En) (σ : Mm) (K L : Mm) (g : Int32) (F : Nat → Int32) (tl : Int32) (Bt W Z : Nat → Int32) (N : Mm) (hR : MR σ (K, L, g, F, tl, Bt, W, Z, N)) (r : Int32) : CtI E yX4_heir cX4_heir 2 (some .int) 3 69 [.ref (eA E 49), .int r] σ (fun rr σ2 => rr = (opHeir (K, L, g, F, tl, Bt, W, Z, N) r).1 ∧ MR σ2 (opHeir (K, L, g, F, tl, Bt, W, Z, N) r).2 ∧ FM σ σ2) := by
  obtain ⟨⟨hM, hO⟩, ⟨hg1, hg2, hg3⟩, hFd, ⟨⟨htl, htl2⟩, hBt⟩, hSh⟩ := id hR
  obtain ⟨⟨hn, h12⟩, hpp, hlw, hsp, hz0⟩ := id hO
  refine CtI.of (by decide +kernel) (Nat.le_of_ble_eq_true rfl) (fun p e0 s m below meth c C hr hlk => ?_)
  refine gx_lv (lv' := [(0, .ref (eA E 49)), (1, .int r)]) rfl ?_
  refine gx_iload_n C dX4_heir_0 (by rfl) (by rfl) ?_
  refine gx_i2l C dX4_heir_1 ?_
  refine gx_lconst (v := 0) C dX4_heir_2 (by decide) ?_
  refine gx_ldc2 C kl_X4_49 dX4_heir_3 ?_
  refine gx_callSI (As := [.long r.toInt64, .long 0, .long 6]) (rest := []) C (c_X4_in E σ r 0 6 r.toInt64 0 6 (by first | rfl | decide) (by first | rfl | decide) (by first | rfl | decide)) z_X4_in (by rfl) ml_X4_45 (by rfl) (Nat.le_of_ble_eq_true rfl) ⟨Nat.le_of_ble_eq_true rfl, Nat.le_of_ble_eq_true rfl⟩ dX4_heir_6 (fun r1 σ1 w1 => ?_)
  obtain ⟨u1, u2⟩ := w1; rw [u1, u2]; clear u1 u2
  refine gx_if_eq (tgt := 24) C dX4_heir_9 (by decide) (fun h2 => ?_) (fun h2 => ?_)
  ·
    have h2 := b2_z.mp h2
    refine gx_aload_n C dX4_heir_24 (by rfl) (by rfl) ?_
    refine gx_ldc C kc_X4_37 dX4_heir_25 ?_
    refine gx_callVI (As := [.int (-1000001)]) (rest := []) C (c_X4_finds E σ (-1000001) 0 (by decide) (by decide)) z_X4_finds ck4 (by rfl) (by rfl) ml_X4_39 (by rfl) (Nat.le_of_ble_eq_true rfl) ⟨Nat.le_of_ble_eq_true rfl, Nat.le_of_ble_eq_true rfl⟩ dX4_heir_27 (fun r3 σ3 w3 => ?_)
    obtain ⟨u1, u2⟩ := w3; rw [u1, u2]; clear u1 u2
    exact gx_iret C hr hlk rfl (fim_fd hR (by decide) (by simp only [opHeir, bey, ful, knd, non, sta, mis, siz] <;> grind)) dX4_heir_30
  ·
    have h2 := b2_nz.mp h2
    obtain ⟨k, hk, rfl⟩ := i_nat (M := 6) (n := 6) (by decide) h2
    have ck : (nI k).toNatClampNeg = k := nI_clamp (by omega)
    have ck1 : nI k + 1 = nI (k + 1) := nI_1 k
    refine gx_aload_n C dX4_heir_12 (by rfl) (by rfl) ?_
    refine gx_aload_n C dX4_heir_13 (by rfl) (by rfl) ?_
    refine gx_iload_n C dX4_heir_14 (by rfl) (by rfl) ?_
    refine gx_callVI (As := [.int (nI k)]) (rest := [.ref (eA E 49)]) C (c_X4_heirOf E σ K hM hO k (by omega)) z_X4_heirOf ck4 (by rfl) (by rfl) ml_X4_148 (by rfl) (Nat.le_of_ble_eq_true rfl) ⟨Nat.le_of_ble_eq_true rfl, Nat.le_of_ble_eq_true rfl⟩ dX4_heir_15 (fun r4 σ4 w4 => ?_)
    obtain ⟨u1, u2⟩ := w4; rw [u1, u2]; clear u1 u2
    refine gx_callVI (As := [.int (hrS K (inP K (nI (k + 1))))]) (rest := []) C (c_X4_orNone E σ (hrS K (inP K (nI (k + 1))))) z_X4_orNone ck4 (by rfl) (by rfl) ml_X4_151 (by rfl) (Nat.le_of_ble_eq_true rfl) ⟨Nat.le_of_ble_eq_true rfl, Nat.le_of_ble_eq_true rfl⟩ dX4_heir_18 (fun r5 σ5 w5 => ?_)
    by_cases hv : (hrS K (inP K (nI (k + 1)))) < 0
    ·
      obtain ⟨u1, u2⟩ := w5.1 hv; rw [u1, u2]; clear u1 u2
      refine gx_goto (tgt := 30) C dX4_heir_21 (by decide) ?_
      exact gx_iret C hr hlk rfl (fim_fd hR (by decide) (by have q1 := (hr_neg h12).mp hv; simp only [opHeir, ck1, q1, bey, non] <;> grind)) dX4_heir_30
    ·
      obtain ⟨u1, u2⟩ := w5.2 hv; rw [u1, u2]; clear u1 u2
      refine gx_goto (tgt := 30) C dX4_heir_21 (by decide) ?_
      exact gx_iret C hr hlk rfl (fim_rd hR (by have q1 := (not_congr (hr_neg h12)).mp hv; simp only [opHeir, ck1, bey, non] <;> grind)) dX4_heir_30
set_option maxHeartbeats 4000000 in
set_option maxRecDepth 100000 in
theorem c_X4_months (E : En) (σ : Mm) (K L : Mm) (g : Int32) (F : Nat → Int32) (tl : Int32) (Bt W Z : Nat → Int32) (N : Mm) (hR : MR σ (K, L, g, F, tl, Bt, W, Z, N)) (n : Int32) : CtI E yX4_months cX4_months 4 (some .int) 7 162 [.ref (eA E 49), .int n] σ (fun rr σ2 => rr = (opMonths (K, L, g, F, tl, Bt, W, Z, N) n).1 ∧ MR σ2 (opMonths (K, L, g, F, tl, Bt, W, Z, N) n).2 ∧ FM σ σ2) := by
  obtain ⟨⟨hM, hO⟩, ⟨hg1, hg2, hg3⟩, hFd, ⟨⟨htl, htl2⟩, hBt⟩, hSh⟩ := id hR
  obtain ⟨⟨hn, h12⟩, hpp, hlw, hsp, hz0⟩ := id hO
  refine CtI.of (by decide +kernel) (Nat.le_of_ble_eq_true rfl) (fun p e0 s m below meth c C hr hlk => ?_)
  refine gx_lv (lv' := [(0, .ref (eA E 49)), (1, .int n)]) rfl ?_
  refine gx_aload_n C dX4_months_0 (by rfl) (by rfl) ?_
  refine gx_iload_n C dX4_months_1 (by rfl) (by rfl) ?_
  refine gx_iconst (v := 1) C dX4_months_2 (by decide) ?_
  refine gx_bipush (v := 60) C dX4_months_3 (by decide) ?_
  refine gx_iconst (v := 1) C dX4_months_5 (by decide) ?_
  refine gx_callVI (As := [.int n, .int 1, .int 60, .int 1]) (rest := []) C (c_X4_wrong E σ K hM hO n 1 60 1) z_X4_wrong ck4 (by rfl) (by rfl) ml_X4_157 (by rfl) (Nat.le_of_ble_eq_true rfl) ⟨Nat.le_of_ble_eq_true rfl, Nat.le_of_ble_eq_true rfl⟩ dX4_months_6 (fun r1 σ1 w1 => ?_)
  obtain ⟨u1, w1⟩ := w1; rw [u1]; clear u1
  rcases w1 with ⟨c1, u2⟩ | ⟨c1, d1, u2⟩ | ⟨c1, d1, u2⟩
  ·
    rw [u2]; clear u2
    have c1 : ¬ (1 ≤ n ∧ n ≤ 60) := fun q9 => c1 ⟨by decide, q9⟩
    refine gx_istore_n (lv2 := [(2, .int (-1000001)), (0, .ref (eA E 49)), (1, .int n)]) C dX4_months_9 (by rfl) (by decide) rfl ?_
    refine gx_iload_n C dX4_months_10 (by rfl) (by rfl) ?_
    refine gx_if_ge (tgt := 20) C dX4_months_11 (by decide) (fun h2 => ?_) (fun h2 => ?_)
    ·
      exact absurd h2 (by decide)
    ·
      clear h2
      refine gx_aload_n C dX4_months_14 (by rfl) (by rfl) ?_
      refine gx_iload_n C dX4_months_15 (by rfl) (by rfl) ?_
      refine gx_callVI (As := [.int (-1000001)]) (rest := []) C (c_X4_finds E σ (-1000001) 0 (by decide) (by decide)) z_X4_finds ck4 (by rfl) (by rfl) ml_X4_39 (by rfl) (Nat.le_of_ble_eq_true rfl) ⟨Nat.le_of_ble_eq_true rfl, Nat.le_of_ble_eq_true rfl⟩ dX4_months_16 (fun r3 σ3 w3 => ?_)
      obtain ⟨u1, u2⟩ := w3; rw [u1, u2]; clear u1 u2
      exact gx_iret C hr hlk rfl (fim_fd hR (by decide) (by simp only [opMonths, bey, ful, knd, non, sta, mis, siz] <;> grind)) dX4_months_19
  ·
    rw [u2]; clear u2
    have c1 := c1.2
    refine gx_istore_n (lv2 := [(2, .int (-1000005)), (0, .ref (eA E 49)), (1, .int n)]) C dX4_months_9 (by rfl) (by decide) rfl ?_
    refine gx_iload_n C dX4_months_10 (by rfl) (by rfl) ?_
    refine gx_if_ge (tgt := 20) C dX4_months_11 (by decide) (fun h4 => ?_) (fun h4 => ?_)
    ·
      exact absurd h4 (by decide)
    ·
      clear h4
      refine gx_aload_n C dX4_months_14 (by rfl) (by rfl) ?_
      refine gx_iload_n C dX4_months_15 (by rfl) (by rfl) ?_
      refine gx_callVI (As := [.int (-1000005)]) (rest := []) C (c_X4_finds E σ (-1000005) 4 (by decide) (by decide)) z_X4_finds ck4 (by rfl) (by rfl) ml_X4_39 (by rfl) (Nat.le_of_ble_eq_true rfl) ⟨Nat.le_of_ble_eq_true rfl, Nat.le_of_ble_eq_true rfl⟩ dX4_months_16 (fun r5 σ5 w5 => ?_)
      obtain ⟨u1, u2⟩ := w5; rw [u1, u2]; clear u1 u2
      exact gx_iret C hr hlk rfl (fim_fd hR (by decide) (by simp only [opMonths, bey, ful, knd, non, sta, mis, siz] <;> grind)) dX4_months_19
  ·
    rw [u2]; clear u2
    have c1 := c1.2
    obtain ⟨k, hk, rfl⟩ := i_nat (M := 60) (n := 60) (by decide) ⟨Int32.le_trans (by decide) c1.1, c1.2⟩
    have ck : (nI k).toNatClampNeg = k := nI_clamp (by omega)
    refine gx_istore_n (lv2 := [(2, .int 0), (0, .ref (eA E 49)), (1, .int (nI k))]) C dX4_months_9 (by rfl) (by decide) rfl ?_
    refine gx_iload_n C dX4_months_10 (by rfl) (by rfl) ?_
    refine gx_if_ge (tgt := 20) C dX4_months_11 (by decide) (fun h6 => ?_) (fun h6 => ?_)
    ·
      clear h6
      refine gx_aload_n C dX4_months_20 (by rfl) (by rfl) ?_
      refine gx_getr (j := 50) (k := 0) C ck4 (by rfl) (by rfl) (by decide) fl_X4_9 dX4_months_21 ?_
      refine gx_iconst (v := 4) C dX4_months_24 (by decide) ?_
      refine gx_ialdN (k := 4) C (by rfl) (by rfl) (by decide) (by decide) dX4_months_25 ?_
      refine gx_st (st' := [.int (K 0 2)]) (by rw [mp_t hM]) ?_
      refine gx_istore_n (lv2 := [(3, .int (K 0 2)), (2, .int 0), (0, .ref (eA E 49)), (1, .int (nI k))]) C dX4_months_26 (by rfl) (by decide) rfl ?_
      refine gx_aload_n C dX4_months_27 (by rfl) (by rfl) ?_
      refine gx_iload_n C dX4_months_28 (by rfl) (by rfl) ?_
      refine gx_callVV (As := [.int (nI k)]) (rest := []) C (c_X4_monthsGo E σ K hM hO k (by omega)) z_X4_monthsGo ck4 (by rfl) (by rfl) ml_X4_161 (by rfl) (Nat.le_of_ble_eq_true rfl) ⟨Nat.le_of_ble_eq_true rfl, Nat.le_of_ble_eq_true rfl⟩ dX4_months_29 (fun σ7 w7 => ?_)
      obtain ⟨hM7, hF7⟩ := w7
      obtain ⟨X7, eX7⟩ : ∃ X, X = mos k K := ⟨_, rfl⟩
      rw [← eX7] at hM7
      have hO7 : Ok X7 := by rw [eX7]; exact (mos_keep hO k).1
      have hnn7 : nn X7 = nn K := by rw [eX7]; exact (mos_keep hO k).2
      have h127 := hO7.1.2
      refine gx_aload_n C dX4_months_32 (by rfl) (by rfl) ?_
      refine gx_getr (j := 50) (k := 0) C ck4 (by rfl) (by rfl) (by decide) fl_X4_9 dX4_months_33 ?_
      refine gx_iconst (v := 4) C dX4_months_36 (by decide) ?_
      refine gx_ialdN (k := 4) C (by rfl) (by rfl) (by decide) (by decide) dX4_months_37 ?_
      refine gx_st (st' := [.int (X7 0 2)]) (by rw [mp_t hM7]) ?_
      refine gx_iload_n C dX4_months_38 (by rfl) (by rfl) ?_
      refine gx_isub C dX4_months_39 ?_
      exact gx_iret C hr hlk rfl (fim_now hR hM7 hO7 ((F3.rf).f1 hF7 (by decide)) (by subst eX7; simp only [opMonths, ck, bey, sta]; rw [if_pos (by assumption), if_neg (by assumption)])) dX4_months_40
    ·
      exact absurd h6 (by decide)
theorem ah_iff {K : Mm} (hO : Ok K) {w : Int32} : (0 ≤ w ∧ w ≤ nI (3 + nn K)) ↔ (0 ≤ w ∧ (4 ≤ w → (0 ≤ w - 4 ∧ w - 4 < K 0 0))) := by
  have h12 := hO.1.2
  constructor
  · intro ⟨h1, h2⟩
    refine ⟨h1, fun h4 => ?_⟩
    obtain ⟨k, hk, rfl⟩ := nI_of (fun h9 => Int32.not_le.mpr h9 h1 : ¬ w < 0)
    have a := (nI_leI hk (by omega)).mp h2
    have b : 4 ≤ k := (nI_leI (a := 4) (by omega) hk).mp h4
    rw [show nI k = nI (4 + (k - 4)) by rw [show 4 + (k - 4) = k by omega], sub4]
    exact nI_has hO (by omega)
  · intro ⟨h1, h2⟩
    refine ⟨h1, ?_⟩
    obtain ⟨k, hk, rfl⟩ := nI_of (fun h9 => Int32.not_le.mpr h9 h1 : ¬ w < 0)
    by_cases h4 : 4 ≤ k
    · have h3 := (h2 (nI_le (a := 4) h4 (by omega))).2
      rw [show nI k = nI (4 + (k - 4)) by rw [show 4 + (k - 4) = k by omega], sub4, hO.1.1] at h3
      have c := (nI_ltI (by omega) (by omega)).mp h3
      exact nI_le (by omega) (by omega)
    · exact nI_le (by omega) (by omega)
set_option maxHeartbeats 4000000 in
set_option maxRecDepth 100000 in
theorem c_X4_ahead (E : En) (σ : Mm) (K L : Mm) (g : Int32) (F : Nat → Int32) (tl : Int32) (Bt W Z : Nat → Int32) (N : Mm) (hR : MR σ (K, L, g, F, tl, Bt, W, Z, N)) (n w : Int32) : CtI E yX4_ahead cX4_ahead 4 (some .int) 8 186 [.ref (eA E 49), .int n, .int w] σ (fun rr σ2 => rr = (opAhead (K, L, g, F, tl, Bt, W, Z, N) n w).1 ∧ MR σ2 (opAhead (K, L, g, F, tl, Bt, W, Z, N) n w).2 ∧ FM σ σ2) := by
  obtain ⟨⟨hM, hO⟩, ⟨hg1, hg2, hg3⟩, hFd, ⟨⟨htl, htl2⟩, hBt⟩, hSh⟩ := id hR
  obtain ⟨⟨hn, h12⟩, hpp, hlw, hsp, hz0⟩ := id hO
  refine CtI.of (by decide +kernel) (Nat.le_of_ble_eq_true rfl) (fun p e0 s m below meth c C hr hlk => ?_)
  refine gx_lv (lv' := [(0, .ref (eA E 49)), (1, .int n), (2, .int w)]) rfl ?_
  refine gx_aload_n C dX4_ahead_0 (by rfl) (by rfl) ?_
  refine gx_iload_n C dX4_ahead_1 (by rfl) (by rfl) ?_
  refine gx_iconst (v := 0) C dX4_ahead_2 (by decide) ?_
  refine gx_bipush (v := 120) C dX4_ahead_3 (by decide) ?_
  refine gx_iload_n C dX4_ahead_5 (by rfl) (by rfl) ?_
  refine gx_i2l C dX4_ahead_6 ?_
  refine gx_lconst (v := 0) C dX4_ahead_7 (by decide) ?_
  refine gx_iconst (v := 3) C dX4_ahead_8 (by decide) ?_
  refine gx_aload_n C dX4_ahead_9 (by rfl) (by rfl) ?_
  refine gx_getr (j := 50) (k := 0) C ck4 (by rfl) (by rfl) (by decide) fl_X4_9 dX4_ahead_10 ?_
  refine gx_bipush (v := 6) C dX4_ahead_13 (by decide) ?_
  refine gx_ialdN (k := 6) C (by rfl) (by rfl) (by decide) (by decide) dX4_ahead_15 ?_
  refine gx_st (st' := [.int (nI (nn K)), .int 3, .long 0, .long w.toInt64, .int 120, .int 0, .int n, .ref (eA E 49)]) (by rw [mp_n hM, hn]) ?_
  refine gx_iadd C dX4_ahead_16 ?_
  refine gx_st (st' := [.int (nI (3 + nn K)), .long 0, .long w.toInt64, .int 120, .int 0, .int n, .ref (eA E 49)]) (by rw [show 3 + (nI (nn K)) = nI (3 + nn K) from nI_add 3 (nn K)]) ?_
  refine gx_i2l C dX4_ahead_17 ?_
  refine gx_callSI (As := [.long w.toInt64, .long 0, .long ((nI (3 + nn K)).toInt64)]) (rest := [.int 120, .int 0, .int n, .ref (eA E 49)]) C (c_X4_in E σ w 0 (nI (3 + nn K)) w.toInt64 0 ((nI (3 + nn K)).toInt64) (by first | rfl | decide) (by first | rfl | decide) (by first | rfl | decide)) z_X4_in (by rfl) ml_X4_45 (by rfl) (Nat.le_of_ble_eq_true rfl) ⟨Nat.le_of_ble_eq_true rfl, Nat.le_of_ble_eq_true rfl⟩ dX4_ahead_18 (fun r1 σ1 w1 => ?_)
  obtain ⟨u1, u2⟩ := w1; rw [u1, u2]; clear u1 u2
  refine gx_callVI (As := [.int n, .int 0, .int 120, .int (b2 (0 ≤ w ∧ w ≤ (nI (3 + nn K))))]) (rest := []) C (c_X4_wrong E σ K hM hO n 0 120 (b2 (0 ≤ w ∧ w ≤ (nI (3 + nn K))))) z_X4_wrong ck4 (by rfl) (by rfl) ml_X4_157 (by rfl) (Nat.le_of_ble_eq_true rfl) ⟨Nat.le_of_ble_eq_true rfl, Nat.le_of_ble_eq_true rfl⟩ dX4_ahead_21 (fun r2 σ2 w2 => ?_)
  obtain ⟨u1, w2⟩ := w2; rw [u1]; clear u1
  rcases w2 with ⟨c2, u2⟩ | ⟨c2, d2, u2⟩ | ⟨c2, d2, u2⟩
  ·
    rw [u2]; clear u2
    have c2 : ¬ ((0 ≤ w ∧ w ≤ (nI (3 + nn K))) ∧ 0 ≤ n ∧ n ≤ 120) := fun q9 => c2 ⟨b2_nz.mpr q9.1, q9.2⟩
    refine gx_istore_n (lv2 := [(3, .int (-1000001)), (0, .ref (eA E 49)), (1, .int n), (2, .int w)]) C dX4_ahead_24 (by rfl) (by decide) rfl ?_
    refine gx_iload_n C dX4_ahead_25 (by rfl) (by rfl) ?_
    refine gx_if_ge (tgt := 37) C dX4_ahead_26 (by decide) (fun h3 => ?_) (fun h3 => ?_)
    ·
      exact absurd h3 (by decide)
    ·
      clear h3
      refine gx_aload_n C dX4_ahead_29 (by rfl) (by rfl) ?_
      refine gx_iload_n C dX4_ahead_30 (by rfl) (by rfl) ?_
      refine gx_callVI (As := [.int (-1000001)]) (rest := []) C (c_X4_finds E σ (-1000001) 0 (by decide) (by decide)) z_X4_finds ck4 (by rfl) (by rfl) ml_X4_39 (by rfl) (Nat.le_of_ble_eq_true rfl) ⟨Nat.le_of_ble_eq_true rfl, Nat.le_of_ble_eq_true rfl⟩ dX4_ahead_31 (fun r4 σ4 w4 => ?_)
      obtain ⟨u1, u2⟩ := w4; rw [u1, u2]; clear u1 u2
      refine gx_goto (tgt := 43) C dX4_ahead_34 (by decide) ?_
      exact gx_iret C hr hlk rfl (fim_fd hR (by decide) (by have q9 := ah_iff hO (w := w); simp only [opAhead, bey, sta] <;> grind)) dX4_ahead_43
  ·
    rw [u2]; clear u2
    have c2 : (0 ≤ w ∧ w ≤ (nI (3 + nn K))) ∧ 0 ≤ n ∧ n ≤ 120 := ⟨b2_nz.mp c2.1, c2.2⟩
    refine gx_istore_n (lv2 := [(3, .int (-1000005)), (0, .ref (eA E 49)), (1, .int n), (2, .int w)]) C dX4_ahead_24 (by rfl) (by decide) rfl ?_
    refine gx_iload_n C dX4_ahead_25 (by rfl) (by rfl) ?_
    refine gx_if_ge (tgt := 37) C dX4_ahead_26 (by decide) (fun h5 => ?_) (fun h5 => ?_)
    ·
      exact absurd h5 (by decide)
    ·
      clear h5
      refine gx_aload_n C dX4_ahead_29 (by rfl) (by rfl) ?_
      refine gx_iload_n C dX4_ahead_30 (by rfl) (by rfl) ?_
      refine gx_callVI (As := [.int (-1000005)]) (rest := []) C (c_X4_finds E σ (-1000005) 4 (by decide) (by decide)) z_X4_finds ck4 (by rfl) (by rfl) ml_X4_39 (by rfl) (Nat.le_of_ble_eq_true rfl) ⟨Nat.le_of_ble_eq_true rfl, Nat.le_of_ble_eq_true rfl⟩ dX4_ahead_31 (fun r6 σ6 w6 => ?_)
      obtain ⟨u1, u2⟩ := w6; rw [u1, u2]; clear u1 u2
      refine gx_goto (tgt := 43) C dX4_ahead_34 (by decide) ?_
      exact gx_iret C hr hlk rfl (fim_fd hR (by decide) (by have q9 := ah_iff hO (w := w); simp only [opAhead, bey, sta] <;> grind)) dX4_ahead_43
  ·
    rw [u2]; clear u2
    have c2 : (0 ≤ w ∧ w ≤ (nI (3 + nn K))) ∧ 0 ≤ n ∧ n ≤ 120 := ⟨b2_nz.mp c2.1, c2.2⟩
    have hah := (ah_iff hO).mp c2.1
    obtain ⟨k, hk, rfl⟩ := i_nat (M := 120) (n := 120) (by decide) c2.2
    have ck : (nI k).toNatClampNeg = k := nI_clamp (by omega)
    refine gx_istore_n (lv2 := [(3, .int 0), (0, .ref (eA E 49)), (1, .int (nI k)), (2, .int w)]) C dX4_ahead_24 (by rfl) (by decide) rfl ?_
    refine gx_iload_n C dX4_ahead_25 (by rfl) (by rfl) ?_
    refine gx_if_ge (tgt := 37) C dX4_ahead_26 (by decide) (fun h7 => ?_) (fun h7 => ?_)
    ·
      clear h7
      refine gx_aload_n C dX4_ahead_37 (by rfl) (by rfl) ?_
      refine gx_iload_n C dX4_ahead_38 (by rfl) (by rfl) ?_
      refine gx_iload_n C dX4_ahead_39 (by rfl) (by rfl) ?_
      refine gx_callVI (As := [.int (nI k), .int w]) (rest := []) C (c_X4_behind E σ K hM hO k (by omega) w hah.1 hah.2) z_X4_behind ck4 (by rfl) (by rfl) ml_X4_172 (by rfl) (Nat.le_of_ble_eq_true rfl) ⟨Nat.le_of_ble_eq_true rfl, Nat.le_of_ble_eq_true rfl⟩ dX4_ahead_40 (fun r8 σ8 w8 => ?_)
      obtain ⟨er8, hM8, hF8⟩ := w8
      refine gx_st (st' := [.int (aheadV K (mos k K) w)]) (by rw [er8]) ?_
      exact gx_iret C hr hlk rfl (fim_try hR hM8 ((F3.rf).f2 hF8) (by simp only [opAhead, ck, bey, sta]; rw [if_pos (by grind), if_neg (by assumption)])) dX4_ahead_43
    ·
      exact absurd h7 (by decide)
set_option maxHeartbeats 4000000 in
set_option maxRecDepth 100000 in
theorem c_X4_sits (E : En) (σ : Mm) (K L : Mm) (g : Int32) (F : Nat → Int32) (tl : Int32) (Bt W Z : Nat → Int32) (N : Mm) (hR : MR σ (K, L, g, F, tl, Bt, W, Z, N)) (q : Int32) : CtI E yX4_sits cX4_sits 4 (some .int) 6 140 [.ref (eA E 49), .int q] σ (fun rr σ2 => rr = (opSits (K, L, g, F, tl, Bt, W, Z, N) q).1 ∧ MR σ2 (opSits (K, L, g, F, tl, Bt, W, Z, N) q).2 ∧ FM σ σ2) := by
  obtain ⟨⟨hM, hO⟩, ⟨hg1, hg2, hg3⟩, hFd, ⟨⟨htl, htl2⟩, hBt⟩, hSh⟩ := id hR
  obtain ⟨⟨hn, h12⟩, hpp, hlw, hsp, hz0⟩ := id hO
  refine CtI.of (by decide +kernel) (Nat.le_of_ble_eq_true rfl) (fun p e0 s m below meth c C hr hlk => ?_)
  refine gx_lv (lv' := [(0, .ref (eA E 49)), (1, .int q)]) rfl ?_
  refine gx_aload_n C dX4_sits_0 (by rfl) (by rfl) ?_
  refine gx_iload_n C dX4_sits_1 (by rfl) (by rfl) ?_
  refine gx_callVI (As := [.int q]) (rest := []) C (c_X4_isPerson E σ K hM hO q) z_X4_isPerson ck4 (by rfl) (by rfl) ml_X4_101 (by rfl) (Nat.le_of_ble_eq_true rfl) ⟨Nat.le_of_ble_eq_true rfl, Nat.le_of_ble_eq_true rfl⟩ dX4_sits_2 (fun r1 σ1 w1 => ?_)
  obtain ⟨u1, u2⟩ := w1; rw [u1, u2]; clear u1 u2
  refine gx_if_ne (tgt := 15) C dX4_sits_5 (by decide) (fun h2 => ?_) (fun h2 => ?_)
  ·
    have h2 := b2_nz.mp h2
    obtain ⟨k, hk, rfl⟩ := has_nat hO h2
    have ck : (nI k).toNatClampNeg = k := nI_clamp (by omega)
    refine gx_aload_n C dX4_sits_15 (by rfl) (by rfl) ?_
    refine gx_iload_n C dX4_sits_16 (by rfl) (by rfl) ?_
    refine gx_callVI (As := [.int (nI k)]) (rest := []) C (c_X4_isOut E σ K hM hO k (by omega)) z_X4_isOut ck4 (by rfl) (by rfl) ml_X4_119 (by rfl) (Nat.le_of_ble_eq_true rfl) ⟨Nat.le_of_ble_eq_true rfl, Nat.le_of_ble_eq_true rfl⟩ dX4_sits_17 (fun r3 σ3 w3 => ?_)
    obtain ⟨u1, u2⟩ := w3; rw [u1, u2]; clear u1 u2
    refine gx_if_ne (tgt := 38) C dX4_sits_20 (by decide) (fun h4 => ?_) (fun h4 => ?_)
    ·
      have h4 := b2_nz.mp h4
      refine gx_aload_n C dX4_sits_38 (by rfl) (by rfl) ?_
      refine gx_ldc C kc_X4_67 dX4_sits_39 ?_
      refine gx_callVI (As := [.int (-1000005)]) (rest := []) C (c_X4_finds E σ (-1000005) 4 (by decide) (by decide)) z_X4_finds ck4 (by rfl) (by rfl) ml_X4_39 (by rfl) (Nat.le_of_ble_eq_true rfl) ⟨Nat.le_of_ble_eq_true rfl, Nat.le_of_ble_eq_true rfl⟩ dX4_sits_41 (fun r5 σ5 w5 => ?_)
      obtain ⟨u1, u2⟩ := w5; rw [u1, u2]; clear u1 u2
      exact gx_iret C hr hlk rfl (fim_fd hR (by decide) (by simp only [opSits, bey, ful, knd, non, sta, mis, siz] <;> grind)) dX4_sits_44
    ·
      have h4 := b2_z.mp h4
      have hk0 : ¬ mos 0 K 2 k = -1 := h4
      refine gx_aload_n C dX4_sits_23 (by rfl) (by rfl) ?_
      refine gx_getr (j := 50) (k := 0) C ck4 (by rfl) (by rfl) (by decide) fl_X4_9 dX4_sits_24 ?_
      refine gx_iconst (v := 0) C dX4_sits_27 (by decide) ?_
      refine gx_ialdN (k := 0) C (by rfl) (by rfl) (by decide) (by decide) dX4_sits_28 ?_
      refine gx_st (st' := [.int (K 0 1)]) (by rw [mp_m hM]) ?_
      refine gx_bipush (v := 120) C dX4_sits_29 (by decide) ?_
      refine gx_iadd C dX4_sits_31 ?_
      refine gx_sipush (v := 999) C dX4_sits_32 (by decide) ?_
      refine gx_icmp_le (tgt := 45) C dX4_sits_35 (by decide) (fun h6 => ?_) (fun h6 => ?_)
      ·
        refine gx_aload_n C dX4_sits_45 (by rfl) (by rfl) ?_
        refine gx_getr (j := 50) (k := 0) C ck4 (by rfl) (by rfl) (by decide) fl_X4_9 dX4_sits_46 ?_
        refine gx_aload_n C dX4_sits_49 (by rfl) (by rfl) ?_
        refine gx_getr (j := 52) (k := 2) C ck4 (by rfl) (by rfl) (by decide) fl_X4_16 dX4_sits_50 ?_
        refine gx_callSV (As := [.ref (eA E 50), .ref (eA E 52)]) (rest := []) C (c_X4_row E σ 50 52 (by rfl) (by rfl) (by decide)) z_X4_row (by rfl) ml_X4_165 (by rfl) (Nat.le_of_ble_eq_true rfl) ⟨Nat.le_of_ble_eq_true rfl, Nat.le_of_ble_eq_true rfl⟩ dX4_sits_53 (fun σ7 w7 => ?_)
        obtain ⟨hR7, hF7⟩ := w7
        have hM7 : vM σ7 50 = K := (vM_o (hF7 50 (by decide))).trans hM
        have hW7 : vM σ7 52 = K := hR7.trans hM
        refine gx_iconst (v := 0) C dX4_sits_56 (by decide) ?_
        refine gx_istore_n (lv2 := [(2, .int 0), (0, .ref (eA E 49)), (1, .int (nI k))]) C dX4_sits_57 (by rfl) (by decide) rfl ?_
        have loop58 : ∀ (kf i : Nat), i ≤ 120 → 120 < i + kf → ∀ τ : Mm, (vM τ 50 = mos i K) → (vM τ 52 = K) → (F3 σ τ) → (∀ b, b < i → ¬ mos b K 2 k = -1) → Gx E p e0 (rmF 6 140) s m ([.ref (eA E 49), .int (nI k)] : List Value).toArray below meth c (MQ below (va_Qi (fun rr σ2 => rr = (opSits (K, L, g, F, tl, Bt, W, Z, N) (nI k)).1 ∧ MR σ2 (opSits (K, L, g, F, tl, Bt, W, Z, N) (nI k)).2 ∧ FM σ σ2) (WQ E) (AA E s.heap.size)) ([.ref (eA E 49), .int (nI k)] : List Value).toArray s 0 0 (AA E s.heap.size)) 4 58 [(0, .ref (eA E 49)), (1, .int (nI k)), (2, .int (nI i))] [] τ := by
          intro kf
          induction kf with
          | zero => intro i q1 q2; exact absurd q2 (by omega)
          | succ kf ih58 =>
            intro i a58 b58 τ hMt hWt hFt hno
            refine gx_iload_n C dX4_sits_58 (by rfl) (by rfl) ?_
            refine gx_bipush (v := 120) C dX4_sits_59 (by decide) ?_
            refine gx_icmp_ge (tgt := 82) C dX4_sits_61 (by decide) (fun h8 => ?_) (fun h8 => ?_)
            ·
              have h8 := (nI_leI (a := 120) (b := i) (by omega) (by omega)).mp h8
              refine gx_aload_n C dX4_sits_82 (by rfl) (by rfl) ?_
              refine gx_iload_n C dX4_sits_83 (by rfl) (by rfl) ?_
              refine gx_callVI (As := [.int (nI k)]) (rest := []) C (c_X4_isOut E τ (mos i K) hMt ((mos_keep hO i).1) k (by omega)) z_X4_isOut ck4 (by rfl) (by rfl) ml_X4_119 (by rfl) (Nat.le_of_ble_eq_true rfl) ⟨Nat.le_of_ble_eq_true rfl, Nat.le_of_ble_eq_true rfl⟩ dX4_sits_84 (fun r9 σ9 w9 => ?_)
              obtain ⟨u1, u2⟩ := w9; rw [u1, u2]; clear u1 u2
              refine gx_istore_n (lv2 := [(3, .int (b2 ((mos i K) 2 k = -1))), (0, .ref (eA E 49)), (1, .int (nI k)), (2, .int (nI i))]) C dX4_sits_87 (by rfl) (by decide) rfl ?_
              refine gx_aload_n C dX4_sits_88 (by rfl) (by rfl) ?_
              refine gx_getr (j := 52) (k := 2) C ck4 (by rfl) (by rfl) (by decide) fl_X4_16 dX4_sits_89 ?_
              refine gx_aload_n C dX4_sits_92 (by rfl) (by rfl) ?_
              refine gx_getr (j := 50) (k := 0) C ck4 (by rfl) (by rfl) (by decide) fl_X4_9 dX4_sits_93 ?_
              refine gx_callSV (As := [.ref (eA E 52), .ref (eA E 50)]) (rest := []) C (c_X4_row E τ 52 50 (by rfl) (by rfl) (by decide)) z_X4_row (by rfl) ml_X4_165 (by rfl) (Nat.le_of_ble_eq_true rfl) ⟨Nat.le_of_ble_eq_true rfl, Nat.le_of_ble_eq_true rfl⟩ dX4_sits_96 (fun σ10 w10 => ?_)
              obtain ⟨hR10, hF10⟩ := w10
              have hN11 : vM σ10 52 = K := (vM_o (hF10 52 (by decide))).trans hWt
              have hM10 : vM σ10 50 = K := hR10.trans hWt
              refine gx_iload_n C dX4_sits_99 (by rfl) (by rfl) ?_
              refine gx_if_eq (tgt := 107) C dX4_sits_100 (by decide) (fun h14 => ?_) (fun h14 => ?_)
              ·
                have h14 := b2_z.mp h14
                refine gx_aload_n C dX4_sits_107 (by rfl) (by rfl) ?_
                refine gx_ldc C kc_X4_38 dX4_sits_108 ?_
                refine gx_callVI (As := [.int (-1000004)]) (rest := []) C (c_X4_finds E σ10 (-1000004) 3 (by decide) (by decide)) z_X4_finds ck4 (by rfl) (by rfl) ml_X4_39 (by rfl) (Nat.le_of_ble_eq_true rfl) ⟨Nat.le_of_ble_eq_true rfl, Nat.le_of_ble_eq_true rfl⟩ dX4_sits_110 (fun r15 σ15 w15 => ?_)
                obtain ⟨u1, u2⟩ := w15; rw [u1, u2]; clear u1 u2
                exact gx_iret C hr hlk rfl (fim_tfd hR hM10 ((hFt).f1 hF10 (by decide)) (by decide) (by first | contradiction | (have q1 : sitV K k = -1 := frst_no 120 1 (fun b x1 x2 => decide_eq_false ((Nat.lt_or_ge b i).elim (fun x3 => hno b x3) (fun x3 => by rw [show b = i by omega]; assumption))); simp only [opSits, ck, q1, non, bey, sta] <;> grind))) dX4_sits_113
              ·
                have h14 := b2_nz.mp h14
                refine gx_iload_n C dX4_sits_103 (by rfl) (by rfl) ?_
                refine gx_goto (tgt := 113) C dX4_sits_104 (by decide) ?_
                exact gx_iret C hr hlk rfl (fim_try hR hM10 ((hFt).f1 hF10 (by decide)) (by have q0 : ¬ i = 0 := (fun q => by subst q; contradiction); have q1 : sitV K k = nI i := frst_at (j := i) (decide_eq_true (by assumption)) 120 1 (by omega) (by omega) (fun b x1 x2 => decide_eq_false (hno b x2)); have q2 : ¬ nI i = -1 := nI_m1 (by omega); simp only [opSits, ck, q1, non, bey, sta] <;> grind)) dX4_sits_113
            ·
              have h8 := (not_congr (nI_leI (a := 120) (b := i) (by omega) (by omega))).mp h8
              refine gx_aload_n C dX4_sits_64 (by rfl) (by rfl) ?_
              refine gx_iload_n C dX4_sits_65 (by rfl) (by rfl) ?_
              refine gx_callVI (As := [.int (nI k)]) (rest := []) C (c_X4_isOut E τ (mos i K) hMt ((mos_keep hO i).1) k (by omega)) z_X4_isOut ck4 (by rfl) (by rfl) ml_X4_119 (by rfl) (Nat.le_of_ble_eq_true rfl) ⟨Nat.le_of_ble_eq_true rfl, Nat.le_of_ble_eq_true rfl⟩ dX4_sits_66 (fun r16 σ16 w16 => ?_)
              obtain ⟨u1, u2⟩ := w16; rw [u1, u2]; clear u1 u2
              refine gx_if_ne (tgt := 82) C dX4_sits_69 (by decide) (fun h17 => ?_) (fun h17 => ?_)
              ·
                have h17 := b2_nz.mp h17
                refine gx_aload_n C dX4_sits_82 (by rfl) (by rfl) ?_
                refine gx_iload_n C dX4_sits_83 (by rfl) (by rfl) ?_
                refine gx_callVI (As := [.int (nI k)]) (rest := []) C (c_X4_isOut E τ (mos i K) hMt ((mos_keep hO i).1) k (by omega)) z_X4_isOut ck4 (by rfl) (by rfl) ml_X4_119 (by rfl) (Nat.le_of_ble_eq_true rfl) ⟨Nat.le_of_ble_eq_true rfl, Nat.le_of_ble_eq_true rfl⟩ dX4_sits_84 (fun r18 σ18 w18 => ?_)
                obtain ⟨u1, u2⟩ := w18; rw [u1, u2]; clear u1 u2
                refine gx_istore_n (lv2 := [(3, .int (b2 ((mos i K) 2 k = -1))), (0, .ref (eA E 49)), (1, .int (nI k)), (2, .int (nI i))]) C dX4_sits_87 (by rfl) (by decide) rfl ?_
                refine gx_aload_n C dX4_sits_88 (by rfl) (by rfl) ?_
                refine gx_getr (j := 52) (k := 2) C ck4 (by rfl) (by rfl) (by decide) fl_X4_16 dX4_sits_89 ?_
                refine gx_aload_n C dX4_sits_92 (by rfl) (by rfl) ?_
                refine gx_getr (j := 50) (k := 0) C ck4 (by rfl) (by rfl) (by decide) fl_X4_9 dX4_sits_93 ?_
                refine gx_callSV (As := [.ref (eA E 52), .ref (eA E 50)]) (rest := []) C (c_X4_row E τ 52 50 (by rfl) (by rfl) (by decide)) z_X4_row (by rfl) ml_X4_165 (by rfl) (Nat.le_of_ble_eq_true rfl) ⟨Nat.le_of_ble_eq_true rfl, Nat.le_of_ble_eq_true rfl⟩ dX4_sits_96 (fun σ19 w19 => ?_)
                obtain ⟨hR19, hF19⟩ := w19
                have hN20 : vM σ19 52 = K := (vM_o (hF19 52 (by decide))).trans hWt
                have hM19 : vM σ19 50 = K := hR19.trans hWt
                refine gx_iload_n C dX4_sits_99 (by rfl) (by rfl) ?_
                refine gx_if_eq (tgt := 107) C dX4_sits_100 (by decide) (fun h21 => ?_) (fun h21 => ?_)
                ·
                  have h21 := b2_z.mp h21
                  refine gx_aload_n C dX4_sits_107 (by rfl) (by rfl) ?_
                  refine gx_ldc C kc_X4_38 dX4_sits_108 ?_
                  refine gx_callVI (As := [.int (-1000004)]) (rest := []) C (c_X4_finds E σ19 (-1000004) 3 (by decide) (by decide)) z_X4_finds ck4 (by rfl) (by rfl) ml_X4_39 (by rfl) (Nat.le_of_ble_eq_true rfl) ⟨Nat.le_of_ble_eq_true rfl, Nat.le_of_ble_eq_true rfl⟩ dX4_sits_110 (fun r22 σ22 w22 => ?_)
                  obtain ⟨u1, u2⟩ := w22; rw [u1, u2]; clear u1 u2
                  exact gx_iret C hr hlk rfl (fim_tfd hR hM19 ((hFt).f1 hF19 (by decide)) (by decide) (by first | contradiction | (have q1 : sitV K k = -1 := frst_no 120 1 (fun b x1 x2 => decide_eq_false ((Nat.lt_or_ge b i).elim (fun x3 => hno b x3) (fun x3 => by rw [show b = i by omega]; assumption))); simp only [opSits, ck, q1, non, bey, sta] <;> grind))) dX4_sits_113
                ·
                  have h21 := b2_nz.mp h21
                  refine gx_iload_n C dX4_sits_103 (by rfl) (by rfl) ?_
                  refine gx_goto (tgt := 113) C dX4_sits_104 (by decide) ?_
                  exact gx_iret C hr hlk rfl (fim_try hR hM19 ((hFt).f1 hF19 (by decide)) (by have q0 : ¬ i = 0 := (fun q => by subst q; contradiction); have q1 : sitV K k = nI i := frst_at (j := i) (decide_eq_true (by assumption)) 120 1 (by omega) (by omega) (fun b x1 x2 => decide_eq_false (hno b x2)); have q2 : ¬ nI i = -1 := nI_m1 (by omega); simp only [opSits, ck, q1, non, bey, sta] <;> grind)) dX4_sits_113
              ·
                have h17 := b2_z.mp h17
                refine gx_aload_n C dX4_sits_72 (by rfl) (by rfl) ?_
                refine gx_callVV (As := []) (rest := []) C (c_X4_month E τ (mos i K) hMt ((mos_keep hO i).1)) z_X4_month ck4 (by rfl) (by rfl) ml_X4_154 (by rfl) (Nat.le_of_ble_eq_true rfl) ⟨Nat.le_of_ble_eq_true rfl, Nat.le_of_ble_eq_true rfl⟩ dX4_sits_73 (fun σ23 w23 => ?_)
                obtain ⟨hM23, hF23⟩ := w23
                obtain ⟨X23, eX23⟩ : ∃ X, X = mo (mos i K) := ⟨_, rfl⟩
                rw [← eX23] at hM23
                have hO23 : Ok X23 := by rw [eX23]; exact (mo_keep ((mos_keep hO i).1)).1
                have hnn23 : nn X23 = nn (mos i K) := by rw [eX23]; exact (mo_keep ((mos_keep hO i).1)).2
                have h1223 := hO23.1.2
                have hN24 : vM σ23 52 = K := (vM_o (hF23 52 (by decide))).trans hWt
                refine gx_iinc (v := nI (i + 1)) (lv2 := [(2, .int (nI (i + 1))), (0, .ref (eA E 49)), (1, .int (nI k))]) C dX4_sits_76 (by rfl) (by exact nI_p1 _) (by decide) rfl ?_
                refine gx_goto (tgt := 58) C dX4_sits_79 (by decide) ?_
                refine gx_sub [1, 2, 0] (lv' := [(0, .ref (eA E 49)), (1, .int (nI k)), (2, .int (nI (i + 1)))]) rfl ?_
                exact ih58 (i + 1) (by omega) (by omega) σ23 (by rw [mos, ← eX23]; exact hM23) hN24 ((hFt).f1 hF23 (by decide)) (fun b x2 => (Nat.lt_or_ge b i).elim (fun x3 => hno b x3) (fun x3 => by rw [show b = i by omega]; assumption))
        refine gx_sub [1, 2, 0] (lv' := [(0, .ref (eA E 49)), (1, .int (nI k)), (2, .int 0)]) rfl ?_
        refine gx_lv (lv' := [(0, .ref (eA E 49)), (1, .int (nI k)), (2, .int (nI 0))]) (by rfl) ?_
        exact loop58 (120 + 1) 0 (by omega) (by omega) σ7 hM7 hW7 ((F3.rf).f1 hF7 (by decide)) (fun b h1 => absurd h1 (by omega))
      ·
        refine gx_aload_n C dX4_sits_38 (by rfl) (by rfl) ?_
        refine gx_ldc C kc_X4_67 dX4_sits_39 ?_
        refine gx_callVI (As := [.int (-1000005)]) (rest := []) C (c_X4_finds E σ (-1000005) 4 (by decide) (by decide)) z_X4_finds ck4 (by rfl) (by rfl) ml_X4_39 (by rfl) (Nat.le_of_ble_eq_true rfl) ⟨Nat.le_of_ble_eq_true rfl, Nat.le_of_ble_eq_true rfl⟩ dX4_sits_41 (fun r26 σ26 w26 => ?_)
        obtain ⟨u1, u2⟩ := w26; rw [u1, u2]; clear u1 u2
        exact gx_iret C hr hlk rfl (fim_fd hR (by decide) (by simp only [opSits, bey, ful, knd, non, sta, mis, siz] <;> grind)) dX4_sits_44
  ·
    have h2 := b2_z.mp h2
    refine gx_aload_n C dX4_sits_8 (by rfl) (by rfl) ?_
    refine gx_ldc C kc_X4_37 dX4_sits_9 ?_
    refine gx_callVI (As := [.int (-1000001)]) (rest := []) C (c_X4_finds E σ (-1000001) 0 (by decide) (by decide)) z_X4_finds ck4 (by rfl) (by rfl) ml_X4_39 (by rfl) (Nat.le_of_ble_eq_true rfl) ⟨Nat.le_of_ble_eq_true rfl, Nat.le_of_ble_eq_true rfl⟩ dX4_sits_11 (fun r27 σ27 w27 => ?_)
    obtain ⟨u1, u2⟩ := w27; rw [u1, u2]; clear u1 u2
    exact gx_iret C hr hlk rfl (fim_fd hR (by decide) (by simp only [opSits, bey, ful, knd, non, sta, mis, siz] <;> grind)) dX4_sits_14
def rvv (K : Mm) (p : Nat) : Nat → Int32
  | 0 => 8
  | i + 1 => risV K p i
theorem sd_8 {K : Mm} (hO : Ok K) {p : Nat} (hp : p < nn K) : sd K p ≤ 8 := by
  unfold sd
  split
  · decide
  · exact Int32.le_trans (hO.2.1 p hp).2.1.2 (by decide)
theorem ris_8 {K : Mm} (hO : Ok K) {p : Nat} (hp : p < nn K) : ∀ i, risV K p i ≤ 8 := by
  intro i
  induction i with
  | zero => exact sd_8 hO hp
  | succ i ih =>
    rw [risV]
    split
    · exact sd_8 (mos_keep hO _).1 (by rw [(mos_keep hO _).2]; exact hp)
    · exact ih
theorem rv_out {K : Mm} (hO : Ok K) {p i : Nat} (hp : p < nn K) (h : mos i K 2 p = -1) : rvv K p i = rvv K p (i + 1) := by
  cases i with
  | zero =>
    have h0 : K 2 p = -1 := h
    simp only [rvv, risV, sd, h0, if_true]
  | succ i =>
    simp only [rvv, risV]
    have h8 : sd (mos (i + 1) K) p = 8 := by unfold sd; rw [if_pos h]
    rw [h8, if_neg (Int32.not_lt.mpr (ris_8 hO hp i))]
theorem rv_lt {K : Mm} (hO : Ok K) {p i : Nat} (hp : p < nn K) (h : ¬ mos i K 2 p = -1) (hl : mos i K 2 p < rvv K p i) : mos i K 2 p = rvv K p (i + 1) := by
  cases i with
  | zero =>
    have h0 : ¬ K 2 p = -1 := h
    simp only [rvv, risV, sd, if_neg h0]
    rfl
  | succ i =>
    simp only [rvv, risV] at hl ⊢
    have h8 : sd (mos (i + 1) K) p = mos (i + 1) K 2 p := by unfold sd; rw [if_neg h]
    rw [h8, if_pos hl]
theorem rv_ge {K : Mm} (hO : Ok K) {p i : Nat} (hp : p < nn K) (h : ¬ mos i K 2 p = -1) (hl : ¬ mos i K 2 p < rvv K p i) : rvv K p i = rvv K p (i + 1) := by
  cases i with
  | zero =>
    exfalso
    exact hl (Int32.lt_of_le_of_lt (hO.2.1 p hp).2.1.2 (show (7 : Int32) < 8 by decide))
  | succ i =>
    simp only [rvv, risV] at hl ⊢
    have h8 : sd (mos (i + 1) K) p = mos (i + 1) K 2 p := by unfold sd; rw [if_neg h]
    rw [h8, if_neg hl]
set_option maxHeartbeats 4000000 in
set_option maxRecDepth 100000 in
theorem c_X4_rises (E : En) (σ : Mm) (K L : Mm) (g : Int32) (F : Nat → Int32) (tl : Int32) (Bt W Z : Nat → Int32) (N : Mm) (hR : MR σ (K, L, g, F, tl, Bt, W, Z, N)) (q n : Int32) : CtI E yX4_rises cX4_rises 6 (some .int) 6 140 [.ref (eA E 49), .int q, .int n] σ (fun rr σ2 => rr = (opRises (K, L, g, F, tl, Bt, W, Z, N) q n).1 ∧ MR σ2 (opRises (K, L, g, F, tl, Bt, W, Z, N) q n).2 ∧ FM σ σ2) := by
  obtain ⟨⟨hM, hO⟩, ⟨hg1, hg2, hg3⟩, hFd, ⟨⟨htl, htl2⟩, hBt⟩, hSh⟩ := id hR
  obtain ⟨⟨hn, h12⟩, hpp, hlw, hsp, hz0⟩ := id hO
  refine CtI.of (by decide +kernel) (Nat.le_of_ble_eq_true rfl) (fun p e0 s m below meth c C hr hlk => ?_)
  refine gx_lv (lv' := [(0, .ref (eA E 49)), (1, .int q), (2, .int n)]) rfl ?_
  refine gx_aload_n C dX4_rises_0 (by rfl) (by rfl) ?_
  refine gx_iload_n C dX4_rises_1 (by rfl) (by rfl) ?_
  refine gx_iconst (v := 0) C dX4_rises_2 (by decide) ?_
  refine gx_bipush (v := 120) C dX4_rises_3 (by decide) ?_
  refine gx_aload_n C dX4_rises_5 (by rfl) (by rfl) ?_
  refine gx_iload_n C dX4_rises_6 (by rfl) (by rfl) ?_
  refine gx_callVI (As := [.int q]) (rest := [.int 120, .int 0, .int n, .ref (eA E 49)]) C (c_X4_isPerson E σ K hM hO q) z_X4_isPerson ck4 (by rfl) (by rfl) ml_X4_101 (by rfl) (Nat.le_of_ble_eq_true rfl) ⟨Nat.le_of_ble_eq_true rfl, Nat.le_of_ble_eq_true rfl⟩ dX4_rises_7 (fun r1 σ1 w1 => ?_)
  obtain ⟨u1, u2⟩ := w1; rw [u1, u2]; clear u1 u2
  refine gx_callVI (As := [.int n, .int 0, .int 120, .int (b2 (0 ≤ q ∧ q < K 0 0))]) (rest := []) C (c_X4_wrong E σ K hM hO n 0 120 (b2 (0 ≤ q ∧ q < K 0 0))) z_X4_wrong ck4 (by rfl) (by rfl) ml_X4_157 (by rfl) (Nat.le_of_ble_eq_true rfl) ⟨Nat.le_of_ble_eq_true rfl, Nat.le_of_ble_eq_true rfl⟩ dX4_rises_10 (fun r2 σ2 w2 => ?_)
  obtain ⟨u1, w2⟩ := w2; rw [u1]; clear u1
  rcases w2 with ⟨c2, u2⟩ | ⟨c2, d2, u2⟩ | ⟨c2, d2, u2⟩
  ·
    rw [u2]; clear u2
    have c2 : ¬ ((0 ≤ q ∧ q < K 0 0) ∧ 0 ≤ n ∧ n ≤ 120) := fun q9 => c2 ⟨b2_nz.mpr q9.1, q9.2⟩
    refine gx_istore_n (lv2 := [(3, .int (-1000001)), (0, .ref (eA E 49)), (1, .int q), (2, .int n)]) C dX4_rises_13 (by rfl) (by decide) rfl ?_
    refine gx_iload_n C dX4_rises_14 (by rfl) (by rfl) ?_
    refine gx_if_ge (tgt := 24) C dX4_rises_15 (by decide) (fun h3 => ?_) (fun h3 => ?_)
    ·
      exact absurd h3 (by decide)
    ·
      clear h3
      refine gx_aload_n C dX4_rises_18 (by rfl) (by rfl) ?_
      refine gx_iload_n C dX4_rises_19 (by rfl) (by rfl) ?_
      refine gx_callVI (As := [.int (-1000001)]) (rest := []) C (c_X4_finds E σ (-1000001) 0 (by decide) (by decide)) z_X4_finds ck4 (by rfl) (by rfl) ml_X4_39 (by rfl) (Nat.le_of_ble_eq_true rfl) ⟨Nat.le_of_ble_eq_true rfl, Nat.le_of_ble_eq_true rfl⟩ dX4_rises_20 (fun r4 σ4 w4 => ?_)
      obtain ⟨u1, u2⟩ := w4; rw [u1, u2]; clear u1 u2
      exact gx_iret C hr hlk rfl (fim_fd hR (by decide) (by simp only [opRises, bey, ful, knd, non, sta, mis, siz] <;> grind)) dX4_rises_23
  ·
    rw [u2]; clear u2
    have c2 : (0 ≤ q ∧ q < K 0 0) ∧ 0 ≤ n ∧ n ≤ 120 := ⟨b2_nz.mp c2.1, c2.2⟩
    refine gx_istore_n (lv2 := [(3, .int (-1000005)), (0, .ref (eA E 49)), (1, .int q), (2, .int n)]) C dX4_rises_13 (by rfl) (by decide) rfl ?_
    refine gx_iload_n C dX4_rises_14 (by rfl) (by rfl) ?_
    refine gx_if_ge (tgt := 24) C dX4_rises_15 (by decide) (fun h5 => ?_) (fun h5 => ?_)
    ·
      exact absurd h5 (by decide)
    ·
      clear h5
      refine gx_aload_n C dX4_rises_18 (by rfl) (by rfl) ?_
      refine gx_iload_n C dX4_rises_19 (by rfl) (by rfl) ?_
      refine gx_callVI (As := [.int (-1000005)]) (rest := []) C (c_X4_finds E σ (-1000005) 4 (by decide) (by decide)) z_X4_finds ck4 (by rfl) (by rfl) ml_X4_39 (by rfl) (Nat.le_of_ble_eq_true rfl) ⟨Nat.le_of_ble_eq_true rfl, Nat.le_of_ble_eq_true rfl⟩ dX4_rises_20 (fun r6 σ6 w6 => ?_)
      obtain ⟨u1, u2⟩ := w6; rw [u1, u2]; clear u1 u2
      exact gx_iret C hr hlk rfl (fim_fd hR (by decide) (by simp only [opRises, bey, ful, knd, non, sta, mis, siz] <;> grind)) dX4_rises_23
  ·
    rw [u2]; clear u2
    have c2 : (0 ≤ q ∧ q < K 0 0) ∧ 0 ≤ n ∧ n ≤ 120 := ⟨b2_nz.mp c2.1, c2.2⟩
    obtain ⟨k, hk, rfl⟩ := has_nat hO c2.1
    have ck : (nI k).toNatClampNeg = k := nI_clamp (by omega)
    obtain ⟨t, ht, rfl⟩ := i_nat (M := 120) (n := 120) (by decide) c2.2
    have ct : (nI t).toNatClampNeg = t := nI_clamp (by omega)
    refine gx_istore_n (lv2 := [(3, .int 0), (0, .ref (eA E 49)), (1, .int (nI k)), (2, .int (nI t))]) C dX4_rises_13 (by rfl) (by decide) rfl ?_
    refine gx_iload_n C dX4_rises_14 (by rfl) (by rfl) ?_
    refine gx_if_ge (tgt := 24) C dX4_rises_15 (by decide) (fun h7 => ?_) (fun h7 => ?_)
    ·
      clear h7
      refine gx_aload_n C dX4_rises_24 (by rfl) (by rfl) ?_
      refine gx_getr (j := 50) (k := 0) C ck4 (by rfl) (by rfl) (by decide) fl_X4_9 dX4_rises_25 ?_
      refine gx_aload_n C dX4_rises_28 (by rfl) (by rfl) ?_
      refine gx_getr (j := 52) (k := 2) C ck4 (by rfl) (by rfl) (by decide) fl_X4_16 dX4_rises_29 ?_
      refine gx_callSV (As := [.ref (eA E 50), .ref (eA E 52)]) (rest := []) C (c_X4_row E σ 50 52 (by rfl) (by rfl) (by decide)) z_X4_row (by rfl) ml_X4_165 (by rfl) (Nat.le_of_ble_eq_true rfl) ⟨Nat.le_of_ble_eq_true rfl, Nat.le_of_ble_eq_true rfl⟩ dX4_rises_32 (fun σ8 w8 => ?_)
      obtain ⟨hR8, hF8⟩ := w8
      have hM8 : vM σ8 50 = K := (vM_o (hF8 50 (by decide))).trans hM
      have hW8 : vM σ8 52 = K := hR8.trans hM
      refine gx_bipush (v := 8) C dX4_rises_35 (by decide) ?_
      refine gx_istore (lv2 := [(4, .int 8), (3, .int 0), (0, .ref (eA E 49)), (1, .int (nI k)), (2, .int (nI t))]) C dX4_rises_37 (by decide) rfl ?_
      refine gx_iconst (v := 0) C dX4_rises_39 (by decide) ?_
      refine gx_istore (lv2 := [(5, .int 0), (4, .int 8), (3, .int 0), (0, .ref (eA E 49)), (1, .int (nI k)), (2, .int (nI t))]) C dX4_rises_40 (by decide) rfl ?_
      have loop42 : ∀ (kf i : Nat), i ≤ (t + 1) → (t + 1) < i + kf → ∀ τ : Mm, (i ≤ t → vM τ 50 = mos i K) → (vM τ 52 = K) → (F3 σ τ) → Gx E p e0 (rmF 6 140) s m ([.ref (eA E 49), .int (nI k), .int (nI t)] : List Value).toArray below meth c (MQ below (va_Qi (fun rr σ2 => rr = (opRises (K, L, g, F, tl, Bt, W, Z, N) (nI k) (nI t)).1 ∧ MR σ2 (opRises (K, L, g, F, tl, Bt, W, Z, N) (nI k) (nI t)).2 ∧ FM σ σ2) (WQ E) (AA E s.heap.size)) ([.ref (eA E 49), .int (nI k), .int (nI t)] : List Value).toArray s 0 0 (AA E s.heap.size)) 6 42 [(0, .ref (eA E 49)), (1, .int (nI k)), (2, .int (nI t)), (3, .int 0), (4, .int (rvv K k i)), (5, .int (nI i))] [] τ := by
        intro kf
        induction kf with
        | zero => intro i q1 q2; exact absurd q2 (by omega)
        | succ kf ih42 =>
          intro i a42 b42 τ hMt0 hWt hFt
          refine gx_iload C dX4_rises_42 (by rfl) ?_
          refine gx_iload_n C dX4_rises_44 (by rfl) (by rfl) ?_
          refine gx_icmp_gt (tgt := 91) C dX4_rises_45 (by decide) (fun h9 => ?_) (fun h9 => ?_)
          ·
            have h9 := (nI_ltI (a := t) (b := i) (by omega) (by omega)).mp h9
            refine gx_aload_n C dX4_rises_91 (by rfl) (by rfl) ?_
            refine gx_getr (j := 52) (k := 2) C ck4 (by rfl) (by rfl) (by decide) fl_X4_16 dX4_rises_92 ?_
            refine gx_aload_n C dX4_rises_95 (by rfl) (by rfl) ?_
            refine gx_getr (j := 50) (k := 0) C ck4 (by rfl) (by rfl) (by decide) fl_X4_9 dX4_rises_96 ?_
            refine gx_callSV (As := [.ref (eA E 52), .ref (eA E 50)]) (rest := []) C (c_X4_row E τ 52 50 (by rfl) (by rfl) (by decide)) z_X4_row (by rfl) ml_X4_165 (by rfl) (Nat.le_of_ble_eq_true rfl) ⟨Nat.le_of_ble_eq_true rfl, Nat.le_of_ble_eq_true rfl⟩ dX4_rises_99 (fun σ10 w10 => ?_)
            obtain ⟨hR10, hF10⟩ := w10
            have hN11 : vM σ10 52 = K := (vM_o (hF10 52 (by decide))).trans hWt
            have hM10 : vM σ10 50 = K := hR10.trans hWt
            refine gx_iload C dX4_rises_102 (by rfl) ?_
            refine gx_bipush (v := 8) C dX4_rises_104 (by decide) ?_
            refine gx_icmp_ne (tgt := 118) C dX4_rises_106 (by decide) (fun h14 => ?_) (fun h14 => ?_)
            ·
              refine gx_iload C dX4_rises_118 (by rfl) ?_
              exact gx_iret C hr hlk rfl (fim_try hR hM10 ((hFt).f1 hF10 (by decide)) (by have q1 : i = t + 1 := (by omega); subst q1; have q2 : risV K k t = rvv K k (t + 1) := rfl; simp only [opRises, ck, ct, q2, non, bey, sta]; rw [if_pos (by grind), if_neg (by assumption), if_neg (by assumption)])) dX4_rises_120
            ·
              refine gx_aload_n C dX4_rises_109 (by rfl) (by rfl) ?_
              refine gx_ldc C kc_X4_38 dX4_rises_110 ?_
              refine gx_callVI (As := [.int (-1000004)]) (rest := []) C (c_X4_finds E σ10 (-1000004) 3 (by decide) (by decide)) z_X4_finds ck4 (by rfl) (by rfl) ml_X4_39 (by rfl) (Nat.le_of_ble_eq_true rfl) ⟨Nat.le_of_ble_eq_true rfl, Nat.le_of_ble_eq_true rfl⟩ dX4_rises_112 (fun r15 σ15 w15 => ?_)
              obtain ⟨u1, u2⟩ := w15; rw [u1, u2]; clear u1 u2
              refine gx_goto (tgt := 120) C dX4_rises_115 (by decide) ?_
              exact gx_iret C hr hlk rfl (fim_tfd hR hM10 ((hFt).f1 hF10 (by decide)) (by decide) (by have q1 : i = t + 1 := (by omega); subst q1; have q2 : risV K k t = rvv K k (t + 1) := rfl; simp only [opRises, ck, ct, q2, non, bey, sta]; rw [if_pos (by grind), if_neg (by assumption), if_pos (by assumption)])) dX4_rises_120
          ·
            have h9 := (not_congr (nI_ltI (a := t) (b := i) (by omega) (by omega))).mp h9
            have hMt := hMt0 (by omega)
            refine gx_aload_n C dX4_rises_48 (by rfl) (by rfl) ?_
            refine gx_iload_n C dX4_rises_49 (by rfl) (by rfl) ?_
            refine gx_callVI (As := [.int (nI k)]) (rest := []) C (c_X4_isOut E τ (mos i K) hMt ((mos_keep hO i).1) k (by omega)) z_X4_isOut ck4 (by rfl) (by rfl) ml_X4_119 (by rfl) (Nat.le_of_ble_eq_true rfl) ⟨Nat.le_of_ble_eq_true rfl, Nat.le_of_ble_eq_true rfl⟩ dX4_rises_50 (fun r16 σ16 w16 => ?_)
            obtain ⟨u1, u2⟩ := w16; rw [u1, u2]; clear u1 u2
            refine gx_if_ne (tgt := 75) C dX4_rises_53 (by decide) (fun h17 => ?_) (fun h17 => ?_)
            ·
              have h17 := b2_nz.mp h17
              refine gx_iload C dX4_rises_75 (by rfl) ?_
              refine gx_iload_n C dX4_rises_77 (by rfl) (by rfl) ?_
              refine gx_icmp_ge (tgt := 85) C dX4_rises_78 (by decide) (fun h18 => ?_) (fun h18 => ?_)
              ·
                have h18 := (nI_leI (a := t) (b := i) (by omega) (by omega)).mp h18
                refine gx_iinc (v := nI (i + 1)) (lv2 := [(5, .int (nI (i + 1))), (0, .ref (eA E 49)), (1, .int (nI k)), (2, .int (nI t)), (3, .int 0), (4, .int (rvv K k i))]) C dX4_rises_85 (by rfl) (by exact nI_p1 _) (by decide) rfl ?_
                refine gx_goto (tgt := 42) C dX4_rises_88 (by decide) ?_
                refine gx_sub [1, 2, 3, 4, 5, 0] (lv' := [(0, .ref (eA E 49)), (1, .int (nI k)), (2, .int (nI t)), (3, .int 0), (4, .int (rvv K k i)), (5, .int (nI (i + 1)))]) rfl ?_
                refine gx_lv (lv' := [(0, .ref (eA E 49)), (1, .int (nI k)), (2, .int (nI t)), (3, .int 0), (4, .int (rvv K k (i + 1))), (5, .int (nI (i + 1)))]) (by first | rw [← rv_out hO hk (by assumption)] | rw [← rv_ge hO hk (by assumption) (by first | assumption | exact Int32.not_lt.mpr (by assumption))]) ?_
                exact ih42 (i + 1) (by omega) (by omega) τ (fun q => absurd q (by omega)) hWt hFt
              ·
                have h18 := (not_congr (nI_leI (a := t) (b := i) (by omega) (by omega))).mp h18
                refine gx_aload_n C dX4_rises_81 (by rfl) (by rfl) ?_
                refine gx_callVV (As := []) (rest := []) C (c_X4_month E τ (mos i K) hMt ((mos_keep hO i).1)) z_X4_month ck4 (by rfl) (by rfl) ml_X4_154 (by rfl) (Nat.le_of_ble_eq_true rfl) ⟨Nat.le_of_ble_eq_true rfl, Nat.le_of_ble_eq_true rfl⟩ dX4_rises_82 (fun σ19 w19 => ?_)
                obtain ⟨hM19, hF19⟩ := w19
                obtain ⟨X19, eX19⟩ : ∃ X, X = mo (mos i K) := ⟨_, rfl⟩
                rw [← eX19] at hM19
                have hO19 : Ok X19 := by rw [eX19]; exact (mo_keep ((mos_keep hO i).1)).1
                have hnn19 : nn X19 = nn (mos i K) := by rw [eX19]; exact (mo_keep ((mos_keep hO i).1)).2
                have h1219 := hO19.1.2
                have hN20 : vM σ19 52 = K := (vM_o (hF19 52 (by decide))).trans hWt
                refine gx_iinc (v := nI (i + 1)) (lv2 := [(5, .int (nI (i + 1))), (0, .ref (eA E 49)), (1, .int (nI k)), (2, .int (nI t)), (3, .int 0), (4, .int (rvv K k i))]) C dX4_rises_85 (by rfl) (by exact nI_p1 _) (by decide) rfl ?_
                refine gx_goto (tgt := 42) C dX4_rises_88 (by decide) ?_
                refine gx_sub [1, 2, 3, 4, 5, 0] (lv' := [(0, .ref (eA E 49)), (1, .int (nI k)), (2, .int (nI t)), (3, .int 0), (4, .int (rvv K k i)), (5, .int (nI (i + 1)))]) rfl ?_
                refine gx_lv (lv' := [(0, .ref (eA E 49)), (1, .int (nI k)), (2, .int (nI t)), (3, .int 0), (4, .int (rvv K k (i + 1))), (5, .int (nI (i + 1)))]) (by first | rw [← rv_out hO hk (by assumption)] | rw [← rv_ge hO hk (by assumption) (by first | assumption | exact Int32.not_lt.mpr (by assumption))]) ?_
                exact ih42 (i + 1) (by omega) (by omega) σ19 (fun _ => by rw [mos, ← eX19]; exact hM19) hN20 ((hFt).f1 hF19 (by decide))
            ·
              have h17 := b2_z.mp h17
              refine gx_aload_n C dX4_rises_56 (by rfl) (by rfl) ?_
              refine gx_iload_n C dX4_rises_57 (by rfl) (by rfl) ?_
              refine gx_iconst (v := 1) C dX4_rises_58 (by decide) ?_
              refine gx_callVI (As := [.int (nI k), .int 1]) (rest := []) C (c_X4_is E τ k (by omega) 1 (by omega)) z_X4_is ck4 (by rfl) (by rfl) ml_X4_51 (by rfl) (Nat.le_of_ble_eq_true rfl) ⟨Nat.le_of_ble_eq_true rfl, Nat.le_of_ble_eq_true rfl⟩ dX4_rises_59 (fun r21 σ21 w21 => ?_)
              obtain ⟨u1, u2⟩ := w21; rw [u1, u2]; clear u1 u2
              refine gx_st (st' := [.int ((mos i K) 2 k)]) (by rw [mp_2 hMt (p := k) (by omega)]) ?_
              refine gx_iload C dX4_rises_62 (by rfl) ?_
              refine gx_icmp_ge (tgt := 75) C dX4_rises_64 (by decide) (fun h22 => ?_) (fun h22 => ?_)
              ·
                refine gx_iload C dX4_rises_75 (by rfl) ?_
                refine gx_iload_n C dX4_rises_77 (by rfl) (by rfl) ?_
                refine gx_icmp_ge (tgt := 85) C dX4_rises_78 (by decide) (fun h23 => ?_) (fun h23 => ?_)
                ·
                  have h23 := (nI_leI (a := t) (b := i) (by omega) (by omega)).mp h23
                  refine gx_iinc (v := nI (i + 1)) (lv2 := [(5, .int (nI (i + 1))), (0, .ref (eA E 49)), (1, .int (nI k)), (2, .int (nI t)), (3, .int 0), (4, .int (rvv K k i))]) C dX4_rises_85 (by rfl) (by exact nI_p1 _) (by decide) rfl ?_
                  refine gx_goto (tgt := 42) C dX4_rises_88 (by decide) ?_
                  refine gx_sub [1, 2, 3, 4, 5, 0] (lv' := [(0, .ref (eA E 49)), (1, .int (nI k)), (2, .int (nI t)), (3, .int 0), (4, .int (rvv K k i)), (5, .int (nI (i + 1)))]) rfl ?_
                  refine gx_lv (lv' := [(0, .ref (eA E 49)), (1, .int (nI k)), (2, .int (nI t)), (3, .int 0), (4, .int (rvv K k (i + 1))), (5, .int (nI (i + 1)))]) (by first | rw [← rv_out hO hk (by assumption)] | rw [← rv_ge hO hk (by assumption) (by first | assumption | exact Int32.not_lt.mpr (by assumption))]) ?_
                  exact ih42 (i + 1) (by omega) (by omega) τ (fun q => absurd q (by omega)) hWt hFt
                ·
                  have h23 := (not_congr (nI_leI (a := t) (b := i) (by omega) (by omega))).mp h23
                  refine gx_aload_n C dX4_rises_81 (by rfl) (by rfl) ?_
                  refine gx_callVV (As := []) (rest := []) C (c_X4_month E τ (mos i K) hMt ((mos_keep hO i).1)) z_X4_month ck4 (by rfl) (by rfl) ml_X4_154 (by rfl) (Nat.le_of_ble_eq_true rfl) ⟨Nat.le_of_ble_eq_true rfl, Nat.le_of_ble_eq_true rfl⟩ dX4_rises_82 (fun σ24 w24 => ?_)
                  obtain ⟨hM24, hF24⟩ := w24
                  obtain ⟨X24, eX24⟩ : ∃ X, X = mo (mos i K) := ⟨_, rfl⟩
                  rw [← eX24] at hM24
                  have hO24 : Ok X24 := by rw [eX24]; exact (mo_keep ((mos_keep hO i).1)).1
                  have hnn24 : nn X24 = nn (mos i K) := by rw [eX24]; exact (mo_keep ((mos_keep hO i).1)).2
                  have h1224 := hO24.1.2
                  have hN26 : vM σ24 52 = K := (vM_o (hF24 52 (by decide))).trans hWt
                  refine gx_iinc (v := nI (i + 1)) (lv2 := [(5, .int (nI (i + 1))), (0, .ref (eA E 49)), (1, .int (nI k)), (2, .int (nI t)), (3, .int 0), (4, .int (rvv K k i))]) C dX4_rises_85 (by rfl) (by exact nI_p1 _) (by decide) rfl ?_
                  refine gx_goto (tgt := 42) C dX4_rises_88 (by decide) ?_
                  refine gx_sub [1, 2, 3, 4, 5, 0] (lv' := [(0, .ref (eA E 49)), (1, .int (nI k)), (2, .int (nI t)), (3, .int 0), (4, .int (rvv K k i)), (5, .int (nI (i + 1)))]) rfl ?_
                  refine gx_lv (lv' := [(0, .ref (eA E 49)), (1, .int (nI k)), (2, .int (nI t)), (3, .int 0), (4, .int (rvv K k (i + 1))), (5, .int (nI (i + 1)))]) (by first | rw [← rv_out hO hk (by assumption)] | rw [← rv_ge hO hk (by assumption) (by first | assumption | exact Int32.not_lt.mpr (by assumption))]) ?_
                  exact ih42 (i + 1) (by omega) (by omega) σ24 (fun _ => by rw [mos, ← eX24]; exact hM24) hN26 ((hFt).f1 hF24 (by decide))
              ·
                refine gx_aload_n C dX4_rises_67 (by rfl) (by rfl) ?_
                refine gx_iload_n C dX4_rises_68 (by rfl) (by rfl) ?_
                refine gx_iconst (v := 1) C dX4_rises_69 (by decide) ?_
                refine gx_callVI (As := [.int (nI k), .int 1]) (rest := []) C (c_X4_is E τ k (by omega) 1 (by omega)) z_X4_is ck4 (by rfl) (by rfl) ml_X4_51 (by rfl) (Nat.le_of_ble_eq_true rfl) ⟨Nat.le_of_ble_eq_true rfl, Nat.le_of_ble_eq_true rfl⟩ dX4_rises_70 (fun r27 σ27 w27 => ?_)
                obtain ⟨u1, u2⟩ := w27; rw [u1, u2]; clear u1 u2
                refine gx_st (st' := [.int ((mos i K) 2 k)]) (by rw [mp_2 hMt (p := k) (by omega)]) ?_
                refine gx_istore (lv2 := [(4, .int ((mos i K) 2 k)), (0, .ref (eA E 49)), (1, .int (nI k)), (2, .int (nI t)), (3, .int 0), (5, .int (nI i))]) C dX4_rises_73 (by decide) rfl ?_
                refine gx_iload C dX4_rises_75 (by rfl) ?_
                refine gx_iload_n C dX4_rises_77 (by rfl) (by rfl) ?_
                refine gx_icmp_ge (tgt := 85) C dX4_rises_78 (by decide) (fun h28 => ?_) (fun h28 => ?_)
                ·
                  have h28 := (nI_leI (a := t) (b := i) (by omega) (by omega)).mp h28
                  refine gx_iinc (v := nI (i + 1)) (lv2 := [(5, .int (nI (i + 1))), (4, .int ((mos i K) 2 k)), (0, .ref (eA E 49)), (1, .int (nI k)), (2, .int (nI t)), (3, .int 0)]) C dX4_rises_85 (by rfl) (by exact nI_p1 _) (by decide) rfl ?_
                  refine gx_goto (tgt := 42) C dX4_rises_88 (by decide) ?_
                  refine gx_sub [2, 3, 4, 5, 1, 0] (lv' := [(0, .ref (eA E 49)), (1, .int (nI k)), (2, .int (nI t)), (3, .int 0), (4, .int ((mos i K) 2 k)), (5, .int (nI (i + 1)))]) rfl ?_
                  refine gx_lv (lv' := [(0, .ref (eA E 49)), (1, .int (nI k)), (2, .int (nI t)), (3, .int 0), (4, .int (rvv K k (i + 1))), (5, .int (nI (i + 1)))]) (by rw [rv_lt hO hk (by assumption) (by first | assumption | exact Int32.not_le.mp (by assumption))]) ?_
                  exact ih42 (i + 1) (by omega) (by omega) τ (fun q => absurd q (by omega)) hWt hFt
                ·
                  have h28 := (not_congr (nI_leI (a := t) (b := i) (by omega) (by omega))).mp h28
                  refine gx_aload_n C dX4_rises_81 (by rfl) (by rfl) ?_
                  refine gx_callVV (As := []) (rest := []) C (c_X4_month E τ (mos i K) hMt ((mos_keep hO i).1)) z_X4_month ck4 (by rfl) (by rfl) ml_X4_154 (by rfl) (Nat.le_of_ble_eq_true rfl) ⟨Nat.le_of_ble_eq_true rfl, Nat.le_of_ble_eq_true rfl⟩ dX4_rises_82 (fun σ29 w29 => ?_)
                  obtain ⟨hM29, hF29⟩ := w29
                  obtain ⟨X29, eX29⟩ : ∃ X, X = mo (mos i K) := ⟨_, rfl⟩
                  rw [← eX29] at hM29
                  have hO29 : Ok X29 := by rw [eX29]; exact (mo_keep ((mos_keep hO i).1)).1
                  have hnn29 : nn X29 = nn (mos i K) := by rw [eX29]; exact (mo_keep ((mos_keep hO i).1)).2
                  have h1229 := hO29.1.2
                  have hN30 : vM σ29 52 = K := (vM_o (hF29 52 (by decide))).trans hWt
                  refine gx_iinc (v := nI (i + 1)) (lv2 := [(5, .int (nI (i + 1))), (4, .int ((mos i K) 2 k)), (0, .ref (eA E 49)), (1, .int (nI k)), (2, .int (nI t)), (3, .int 0)]) C dX4_rises_85 (by rfl) (by exact nI_p1 _) (by decide) rfl ?_
                  refine gx_goto (tgt := 42) C dX4_rises_88 (by decide) ?_
                  refine gx_sub [2, 3, 4, 5, 1, 0] (lv' := [(0, .ref (eA E 49)), (1, .int (nI k)), (2, .int (nI t)), (3, .int 0), (4, .int ((mos i K) 2 k)), (5, .int (nI (i + 1)))]) rfl ?_
                  refine gx_lv (lv' := [(0, .ref (eA E 49)), (1, .int (nI k)), (2, .int (nI t)), (3, .int 0), (4, .int (rvv K k (i + 1))), (5, .int (nI (i + 1)))]) (by rw [rv_lt hO hk (by assumption) (by first | assumption | exact Int32.not_le.mp (by assumption))]) ?_
                  exact ih42 (i + 1) (by omega) (by omega) σ29 (fun _ => by rw [mos, ← eX29]; exact hM29) hN30 ((hFt).f1 hF29 (by decide))
      refine gx_sub [3, 4, 5, 2, 1, 0] (lv' := [(0, .ref (eA E 49)), (1, .int (nI k)), (2, .int (nI t)), (3, .int 0), (4, .int 8), (5, .int 0)]) rfl ?_
      refine gx_lv (lv' := [(0, .ref (eA E 49)), (1, .int (nI k)), (2, .int (nI t)), (3, .int 0), (4, .int (rvv K k 0)), (5, .int (nI 0))]) (by rfl) ?_
      exact loop42 ((t + 1) + 1) 0 (by omega) (by omega) σ8 (fun _ => hM8) hW8 ((F3.rf).f1 hF8 (by decide))
    ·
      exact absurd h7 (by decide)
set_option maxHeartbeats 4000000 in
set_option maxRecDepth 100000 in
theorem c_X4_worth (E : En) (σ : Mm) (K L : Mm) (g : Int32) (F : Nat → Int32) (tl : Int32) (Bt W Z : Nat → Int32) (N : Mm) (hR : MR σ (K, L, g, F, tl, Bt, W, Z, N)) (q r n : Int32) : CtI E yX4_worth cX4_worth 8 (some .int) 8 185 [.ref (eA E 49), .int q, .int r, .int n] σ (fun rr σ2 => rr = (opWorth (K, L, g, F, tl, Bt, W, Z, N) q r n).1 ∧ MR σ2 (opWorth (K, L, g, F, tl, Bt, W, Z, N) q r n).2 ∧ FM σ σ2) := by
  obtain ⟨⟨hM, hO⟩, ⟨hg1, hg2, hg3⟩, hFd, ⟨⟨htl, htl2⟩, hBt⟩, hSh⟩ := id hR
  obtain ⟨⟨hn, h12⟩, hpp, hlw, hsp, hz0⟩ := id hO
  refine CtI.of (by decide +kernel) (Nat.le_of_ble_eq_true rfl) (fun p e0 s m below meth c C hr hlk => ?_)
  refine gx_lv (lv' := [(0, .ref (eA E 49)), (1, .int q), (2, .int r), (3, .int n)]) rfl ?_
  refine gx_aload_n C dX4_worth_0 (by rfl) (by rfl) ?_
  refine gx_iload_n C dX4_worth_1 (by rfl) (by rfl) ?_
  refine gx_iconst (v := 1) C dX4_worth_2 (by decide) ?_
  refine gx_bipush (v := 120) C dX4_worth_3 (by decide) ?_
  refine gx_aload_n C dX4_worth_5 (by rfl) (by rfl) ?_
  refine gx_iload_n C dX4_worth_6 (by rfl) (by rfl) ?_
  refine gx_callVI (As := [.int q]) (rest := [.int 120, .int 1, .int n, .ref (eA E 49)]) C (c_X4_isPerson E σ K hM hO q) z_X4_isPerson ck4 (by rfl) (by rfl) ml_X4_101 (by rfl) (Nat.le_of_ble_eq_true rfl) ⟨Nat.le_of_ble_eq_true rfl, Nat.le_of_ble_eq_true rfl⟩ dX4_worth_7 (fun r1 σ1 w1 => ?_)
  obtain ⟨u1, u2⟩ := w1; rw [u1, u2]; clear u1 u2
  refine gx_if_eq (tgt := 24) C dX4_worth_10 (by decide) (fun h2 => ?_) (fun h2 => ?_)
  ·
    have h2 := b2_z.mp h2
    refine gx_iconst (v := 0) C dX4_worth_24 (by decide) ?_
    refine gx_callVI (As := [.int n, .int 1, .int 120, .int 0]) (rest := []) C (c_X4_wrong E σ K hM hO n 1 120 0) z_X4_wrong ck4 (by rfl) (by rfl) ml_X4_157 (by rfl) (Nat.le_of_ble_eq_true rfl) ⟨Nat.le_of_ble_eq_true rfl, Nat.le_of_ble_eq_true rfl⟩ dX4_worth_25 (fun r3 σ3 w3 => ?_)
    obtain ⟨u1, w3⟩ := w3; rw [u1]; clear u1
    rcases w3 with ⟨c3, u2⟩ | ⟨c3, d3, u2⟩ | ⟨c3, d3, u2⟩
    ·
      rw [u2]; clear u2 c3
      refine gx_istore (lv2 := [(4, .int (-1000001)), (0, .ref (eA E 49)), (1, .int q), (2, .int r), (3, .int n)]) C dX4_worth_28 (by decide) rfl ?_
      refine gx_iload C dX4_worth_30 (by rfl) ?_
      refine gx_if_ge (tgt := 42) C dX4_worth_32 (by decide) (fun h4 => ?_) (fun h4 => ?_)
      ·
        exact absurd h4 (by decide)
      ·
        clear h4
        refine gx_aload_n C dX4_worth_35 (by rfl) (by rfl) ?_
        refine gx_iload C dX4_worth_36 (by rfl) ?_
        refine gx_callVI (As := [.int (-1000001)]) (rest := []) C (c_X4_finds E σ (-1000001) 0 (by decide) (by decide)) z_X4_finds ck4 (by rfl) (by rfl) ml_X4_39 (by rfl) (Nat.le_of_ble_eq_true rfl) ⟨Nat.le_of_ble_eq_true rfl, Nat.le_of_ble_eq_true rfl⟩ dX4_worth_38 (fun r5 σ5 w5 => ?_)
        obtain ⟨u1, u2⟩ := w5; rw [u1, u2]; clear u1 u2
        exact gx_iret C hr hlk rfl (fim_fd hR (by decide) (by simp only [opWorth, bey, ful, knd, non, sta, mis, siz] <;> grind)) dX4_worth_41
    · exact absurd rfl c3.1
    · exact absurd rfl c3.1
  ·
    have h2 := b2_nz.mp h2
    obtain ⟨k, hk, rfl⟩ := has_nat hO h2
    have ck : (nI k).toNatClampNeg = k := nI_clamp (by omega)
    refine gx_iload_n C dX4_worth_13 (by rfl) (by rfl) ?_
    refine gx_callSI (As := [.int r]) (rest := [.int 120, .int 1, .int n, .ref (eA E 49)]) C (c_X4_isRank E σ r) z_X4_isRank (by rfl) ml_X4_61 (by rfl) (Nat.le_of_ble_eq_true rfl) ⟨Nat.le_of_ble_eq_true rfl, Nat.le_of_ble_eq_true rfl⟩ dX4_worth_14 (fun r6 σ6 w6 => ?_)
    obtain ⟨u1, u2⟩ := w6; rw [u1, u2]; clear u1 u2
    refine gx_if_eq (tgt := 24) C dX4_worth_17 (by decide) (fun h7 => ?_) (fun h7 => ?_)
    ·
      have h7 := b2_z.mp h7
      refine gx_iconst (v := 0) C dX4_worth_24 (by decide) ?_
      refine gx_callVI (As := [.int n, .int 1, .int 120, .int 0]) (rest := []) C (c_X4_wrong E σ K hM hO n 1 120 0) z_X4_wrong ck4 (by rfl) (by rfl) ml_X4_157 (by rfl) (Nat.le_of_ble_eq_true rfl) ⟨Nat.le_of_ble_eq_true rfl, Nat.le_of_ble_eq_true rfl⟩ dX4_worth_25 (fun r8 σ8 w8 => ?_)
      obtain ⟨u1, w8⟩ := w8; rw [u1]; clear u1
      rcases w8 with ⟨c8, u2⟩ | ⟨c8, d8, u2⟩ | ⟨c8, d8, u2⟩
      ·
        rw [u2]; clear u2 c8
        refine gx_istore (lv2 := [(4, .int (-1000001)), (0, .ref (eA E 49)), (1, .int (nI k)), (2, .int r), (3, .int n)]) C dX4_worth_28 (by decide) rfl ?_
        refine gx_iload C dX4_worth_30 (by rfl) ?_
        refine gx_if_ge (tgt := 42) C dX4_worth_32 (by decide) (fun h9 => ?_) (fun h9 => ?_)
        ·
          exact absurd h9 (by decide)
        ·
          clear h9
          refine gx_aload_n C dX4_worth_35 (by rfl) (by rfl) ?_
          refine gx_iload C dX4_worth_36 (by rfl) ?_
          refine gx_callVI (As := [.int (-1000001)]) (rest := []) C (c_X4_finds E σ (-1000001) 0 (by decide) (by decide)) z_X4_finds ck4 (by rfl) (by rfl) ml_X4_39 (by rfl) (Nat.le_of_ble_eq_true rfl) ⟨Nat.le_of_ble_eq_true rfl, Nat.le_of_ble_eq_true rfl⟩ dX4_worth_38 (fun r10 σ10 w10 => ?_)
          obtain ⟨u1, u2⟩ := w10; rw [u1, u2]; clear u1 u2
          exact gx_iret C hr hlk rfl (fim_fd hR (by decide) (by simp only [opWorth, bey, ful, knd, non, sta, mis, siz] <;> grind)) dX4_worth_41
      · exact absurd rfl c8.1
      · exact absurd rfl c8.1
    ·
      have h7 := b2_nz.mp h7
      obtain ⟨j, hj, rfl⟩ := r_nat h7
      have cj : (nI j).toNatClampNeg = j := nI_clamp (by omega)
      refine gx_iconst (v := 1) C dX4_worth_20 (by decide) ?_
      refine gx_goto (tgt := 25) C dX4_worth_21 (by decide) ?_
      refine gx_callVI (As := [.int n, .int 1, .int 120, .int 1]) (rest := []) C (c_X4_wrong E σ K hM hO n 1 120 1) z_X4_wrong ck4 (by rfl) (by rfl) ml_X4_157 (by rfl) (Nat.le_of_ble_eq_true rfl) ⟨Nat.le_of_ble_eq_true rfl, Nat.le_of_ble_eq_true rfl⟩ dX4_worth_25 (fun r11 σ11 w11 => ?_)
      obtain ⟨u1, w11⟩ := w11; rw [u1]; clear u1
      rcases w11 with ⟨c11, u2⟩ | ⟨c11, d11, u2⟩ | ⟨c11, d11, u2⟩
      ·
        rw [u2]; clear u2
        have c11 : ¬ (1 ≤ n ∧ n ≤ 120) := fun q9 => c11 ⟨by decide, q9⟩
        refine gx_istore (lv2 := [(4, .int (-1000001)), (0, .ref (eA E 49)), (1, .int (nI k)), (2, .int (nI j)), (3, .int n)]) C dX4_worth_28 (by decide) rfl ?_
        refine gx_iload C dX4_worth_30 (by rfl) ?_
        refine gx_if_ge (tgt := 42) C dX4_worth_32 (by decide) (fun h14 => ?_) (fun h14 => ?_)
        ·
          exact absurd h14 (by decide)
        ·
          clear h14
          refine gx_aload_n C dX4_worth_35 (by rfl) (by rfl) ?_
          refine gx_iload C dX4_worth_36 (by rfl) ?_
          refine gx_callVI (As := [.int (-1000001)]) (rest := []) C (c_X4_finds E σ (-1000001) 0 (by decide) (by decide)) z_X4_finds ck4 (by rfl) (by rfl) ml_X4_39 (by rfl) (Nat.le_of_ble_eq_true rfl) ⟨Nat.le_of_ble_eq_true rfl, Nat.le_of_ble_eq_true rfl⟩ dX4_worth_38 (fun r15 σ15 w15 => ?_)
          obtain ⟨u1, u2⟩ := w15; rw [u1, u2]; clear u1 u2
          exact gx_iret C hr hlk rfl (fim_fd hR (by decide) (by simp only [opWorth, bey, ful, knd, non, sta, mis, siz] <;> grind)) dX4_worth_41
      ·
        rw [u2]; clear u2
        have c11 := c11.2
        refine gx_istore (lv2 := [(4, .int (-1000005)), (0, .ref (eA E 49)), (1, .int (nI k)), (2, .int (nI j)), (3, .int n)]) C dX4_worth_28 (by decide) rfl ?_
        refine gx_iload C dX4_worth_30 (by rfl) ?_
        refine gx_if_ge (tgt := 42) C dX4_worth_32 (by decide) (fun h16 => ?_) (fun h16 => ?_)
        ·
          exact absurd h16 (by decide)
        ·
          clear h16
          refine gx_aload_n C dX4_worth_35 (by rfl) (by rfl) ?_
          refine gx_iload C dX4_worth_36 (by rfl) ?_
          refine gx_callVI (As := [.int (-1000005)]) (rest := []) C (c_X4_finds E σ (-1000005) 4 (by decide) (by decide)) z_X4_finds ck4 (by rfl) (by rfl) ml_X4_39 (by rfl) (Nat.le_of_ble_eq_true rfl) ⟨Nat.le_of_ble_eq_true rfl, Nat.le_of_ble_eq_true rfl⟩ dX4_worth_38 (fun r17 σ17 w17 => ?_)
          obtain ⟨u1, u2⟩ := w17; rw [u1, u2]; clear u1 u2
          exact gx_iret C hr hlk rfl (fim_fd hR (by decide) (by simp only [opWorth, bey, ful, knd, non, sta, mis, siz] <;> grind)) dX4_worth_41
      ·
        rw [u2]; clear u2
        have c11 := c11.2
        obtain ⟨t, ht, rfl⟩ := i_nat (M := 120) (n := 120) (by decide) ⟨Int32.le_trans (by decide) c11.1, c11.2⟩
        have ct : (nI t).toNatClampNeg = t := nI_clamp (by omega)
        refine gx_istore (lv2 := [(4, .int 0), (0, .ref (eA E 49)), (1, .int (nI k)), (2, .int (nI j)), (3, .int (nI t))]) C dX4_worth_28 (by decide) rfl ?_
        refine gx_iload C dX4_worth_30 (by rfl) ?_
        refine gx_if_ge (tgt := 42) C dX4_worth_32 (by decide) (fun h18 => ?_) (fun h18 => ?_)
        ·
          clear h18
          refine gx_aload_n C dX4_worth_42 (by rfl) (by rfl) ?_
          refine gx_iload_n C dX4_worth_43 (by rfl) (by rfl) ?_
          refine gx_iconst (v := 1) C dX4_worth_44 (by decide) ?_
          refine gx_callVI (As := [.int (nI k), .int 1]) (rest := []) C (c_X4_is E σ k (by omega) 1 (by omega)) z_X4_is ck4 (by rfl) (by rfl) ml_X4_51 (by rfl) (Nat.le_of_ble_eq_true rfl) ⟨Nat.le_of_ble_eq_true rfl, Nat.le_of_ble_eq_true rfl⟩ dX4_worth_45 (fun r19 σ19 w19 => ?_)
          obtain ⟨u1, u2⟩ := w19; rw [u1, u2]; clear u1 u2
          refine gx_st (st' := [.int (K 2 k)]) (by rw [mp_2 hM (p := k) (by omega)]) ?_
          refine gx_istore (lv2 := [(5, .int (K 2 k)), (4, .int 0), (0, .ref (eA E 49)), (1, .int (nI k)), (2, .int (nI j)), (3, .int (nI t))]) C dX4_worth_48 (by decide) rfl ?_
          refine gx_aload_n C dX4_worth_50 (by rfl) (by rfl) ?_
          refine gx_iload_n C dX4_worth_51 (by rfl) (by rfl) ?_
          refine gx_iconst (v := 1) C dX4_worth_52 (by decide) ?_
          refine gx_iload_n C dX4_worth_53 (by rfl) (by rfl) ?_
          refine gx_callVV (As := [.int (nI k), .int 1, .int (nI j)]) (rest := []) C (c_X4_makes E σ k (by omega) 1 (by omega) (nI j)) z_X4_makes ck4 (by rfl) (by rfl) ml_X4_87 (by rfl) (Nat.le_of_ble_eq_true rfl) ⟨Nat.le_of_ble_eq_true rfl, Nat.le_of_ble_eq_true rfl⟩ dX4_worth_54 (fun σ21 w21 => ?_)
          rw [w21]; clear w21
          have hM20 : vM (up2 σ 50 (15 + 7 * k + 1) (nI j)) 50 = up2 K 2 k (nI j) := by rw [vM_mk (by omega) (by omega), hM]
          refine gx_aload_n C dX4_worth_57 (by rfl) (by rfl) ?_
          refine gx_iload_n C dX4_worth_58 (by rfl) (by rfl) ?_
          refine gx_iload_n C dX4_worth_59 (by rfl) (by rfl) ?_
          refine gx_callVI (As := [.int (nI k), .int (nI t)]) (rest := []) C (c_X4_goldBehind E (up2 σ 50 (15 + 7 * k + 1) (nI j)) (up2 K 2 k (nI j)) hM20 (hO.rank (p := k) (v := (nI j)) (by omega) (rk_rg (by omega))) k (by omega) t (by omega)) z_X4_goldBehind ck4 (by rfl) (by rfl) ml_X4_175 (by rfl) (Nat.le_of_ble_eq_true rfl) ⟨Nat.le_of_ble_eq_true rfl, Nat.le_of_ble_eq_true rfl⟩ dX4_worth_60 (fun r22 σ22 w22 => ?_)
          obtain ⟨er22, hM22, hF22⟩ := w22
          refine gx_st (st' := [.int (mos t (up2 K 2 k (nI j)) 5 k)]) (by rw [er22]) ?_
          refine gx_istore (lv2 := [(6, .int (mos t (up2 K 2 k (nI j)) 5 k)), (5, .int (K 2 k)), (4, .int 0), (0, .ref (eA E 49)), (1, .int (nI k)), (2, .int (nI j)), (3, .int (nI t))]) C dX4_worth_63 (by decide) rfl ?_
          refine gx_aload_n C dX4_worth_65 (by rfl) (by rfl) ?_
          refine gx_iload_n C dX4_worth_66 (by rfl) (by rfl) ?_
          refine gx_iconst (v := 1) C dX4_worth_67 (by decide) ?_
          refine gx_iconst (v := (-1)) C dX4_worth_68 (by decide) ?_
          refine gx_callVV (As := [.int (nI k), .int 1, .int (-1)]) (rest := []) C (c_X4_makes E σ22 k (by omega) 1 (by omega) (-1)) z_X4_makes ck4 (by rfl) (by rfl) ml_X4_87 (by rfl) (Nat.le_of_ble_eq_true rfl) ⟨Nat.le_of_ble_eq_true rfl, Nat.le_of_ble_eq_true rfl⟩ dX4_worth_69 (fun σ24 w24 => ?_)
          rw [w24]; clear w24
          have hM23 : vM (up2 σ22 50 (15 + 7 * k + 1) (-1)) 50 = up2 (up2 K 2 k (nI j)) 2 k (-1) := by rw [vM_mk (by omega) (by omega), hM22]
          refine gx_aload_n C dX4_worth_72 (by rfl) (by rfl) ?_
          refine gx_iload_n C dX4_worth_73 (by rfl) (by rfl) ?_
          refine gx_iload_n C dX4_worth_74 (by rfl) (by rfl) ?_
          refine gx_callVI (As := [.int (nI k), .int (nI t)]) (rest := []) C (c_X4_goldBehind E (up2 σ22 50 (15 + 7 * k + 1) (-1)) (up2 (up2 K 2 k (nI j)) 2 k (-1)) hM23 ((hO.rank (p := k) (v := (nI j)) (by omega) (rk_rg (by omega))).rank (p := k) (v := (-1)) (by omega) ⟨by decide, by decide⟩) k (by omega) t (by omega)) z_X4_goldBehind ck4 (by rfl) (by rfl) ml_X4_175 (by rfl) (Nat.le_of_ble_eq_true rfl) ⟨Nat.le_of_ble_eq_true rfl, Nat.le_of_ble_eq_true rfl⟩ dX4_worth_75 (fun r26 σ26 w26 => ?_)
          obtain ⟨er26, hM26, hF26⟩ := w26
          refine gx_st (st' := [.int (mos t (up2 (up2 K 2 k (nI j)) 2 k (-1)) 5 k)]) (by rw [er26]) ?_
          refine gx_istore (lv2 := [(7, .int (mos t (up2 (up2 K 2 k (nI j)) 2 k (-1)) 5 k)), (6, .int (mos t (up2 K 2 k (nI j)) 5 k)), (5, .int (K 2 k)), (4, .int 0), (0, .ref (eA E 49)), (1, .int (nI k)), (2, .int (nI j)), (3, .int (nI t))]) C dX4_worth_78 (by decide) rfl ?_
          refine gx_aload_n C dX4_worth_80 (by rfl) (by rfl) ?_
          refine gx_iload_n C dX4_worth_81 (by rfl) (by rfl) ?_
          refine gx_iconst (v := 1) C dX4_worth_82 (by decide) ?_
          refine gx_iload C dX4_worth_83 (by rfl) ?_
          refine gx_callVV (As := [.int (nI k), .int 1, .int (K 2 k)]) (rest := []) C (c_X4_makes E σ26 k (by omega) 1 (by omega) (K 2 k)) z_X4_makes ck4 (by rfl) (by rfl) ml_X4_87 (by rfl) (Nat.le_of_ble_eq_true rfl) ⟨Nat.le_of_ble_eq_true rfl, Nat.le_of_ble_eq_true rfl⟩ dX4_worth_85 (fun σ28 w28 => ?_)
          rw [w28]; clear w28
          have hM27 : vM (up2 σ26 50 (15 + 7 * k + 1) (K 2 k)) 50 = up2 (up2 (up2 K 2 k (nI j)) 2 k (-1)) 2 k (K 2 k) := by rw [vM_mk (by omega) (by omega), hM26]
          refine gx_iload C dX4_worth_88 (by rfl) ?_
          refine gx_iload C dX4_worth_90 (by rfl) ?_
          refine gx_isub C dX4_worth_92 ?_
          exact gx_iret C hr hlk rfl (fim_try hR (by rw [hM27, up2_2, up2_2, up2_same]) ((((((F3.rf).up (by decide)).f2 hF22).up (by decide)).f2 hF26).up (by decide)) (by have q2 := (mos_out (K := up2 (up2 K 2 k (nI j)) 2 k (-1)) (p := k) ((hO.rank (by omega) (rk_rg (by omega))).rank (by omega) ⟨by decide, by decide⟩) (by rw [nn_up (Or.inl (by decide)), nn_up (Or.inl (by decide))]; exact hk) (by rw [up2_up, if_pos ⟨rfl, rfl⟩]) t).2; rw [up2_up, if_neg (by omega), up2_up, if_neg (by omega)] at q2; rw [q2]; simp only [opWorth, ck, ct, bey, sta]; rw [if_pos (by grind), if_neg (by assumption)])) dX4_worth_93
        ·
          exact absurd h18 (by decide)
