set_option maxHeartbeats 4000000 in
set_option maxRecDepth 100000 in
theorem c_X4_least (E : En) (σ : Mm) (K L : Mm) (g : Int32) (F : Nat → Int32) (tl : Int32) (Bt W Z : Nat → Int32) (N : Mm) (hR : MR σ (K, L, g, F, tl, Bt, W, Z, N)) (q n : Int32) : CtI E yX4_least cX4_least 6 (some .int) 8 186 [.ref (eA E 49), .int q, .int n] σ (fun rr σ2 => rr = (opLeast (K, L, g, F, tl, Bt, W, Z, N) q n).1 ∧ MR σ2 (opLeast (K, L, g, F, tl, Bt, W, Z, N) q n).2 ∧ FM σ σ2) := by
  obtain ⟨⟨hM, hO⟩, ⟨hg1, hg2, hg3⟩, hFd, ⟨⟨htl, htl2⟩, hBt⟩, hSh⟩ := id hR
  obtain ⟨⟨hn, h12⟩, hpp, hlw, hsp, hz0⟩ := id hO
  refine CtI.of (by decide +kernel) (Nat.le_of_ble_eq_true rfl) (fun p e0 s m below meth c C hr hlk => ?_)
  refine gx_lv (lv' := [(0, .ref (eA E 49)), (1, .int q), (2, .int n)]) rfl ?_
  refine gx_aload_n C dX4_least_0 (by rfl) (by rfl) ?_
  refine gx_iload_n C dX4_least_1 (by rfl) (by rfl) ?_
  refine gx_callVI (As := [.int q]) (rest := []) C (c_X4_isPerson E σ K hM hO q) z_X4_isPerson ck4 (by rfl) (by rfl) ml_X4_101 (by rfl) (Nat.le_of_ble_eq_true rfl) ⟨Nat.le_of_ble_eq_true rfl, Nat.le_of_ble_eq_true rfl⟩ dX4_least_2 (fun r1 σ1 w1 => ?_)
  obtain ⟨u1, u2⟩ := w1; rw [u1, u2]; clear u1 u2
  refine gx_if_eq (tgt := 20) C dX4_least_5 (by decide) (fun h2 => ?_) (fun h2 => ?_)
  ·
    have h2 := b2_z.mp h2
    refine gx_aload_n C dX4_least_20 (by rfl) (by rfl) ?_
    refine gx_ldc C kc_X4_37 dX4_least_21 ?_
    refine gx_callVI (As := [.int (-1000001)]) (rest := []) C (c_X4_finds E σ (-1000001) 0 (by decide) (by decide)) z_X4_finds ck4 (by rfl) (by rfl) ml_X4_39 (by rfl) (Nat.le_of_ble_eq_true rfl) ⟨Nat.le_of_ble_eq_true rfl, Nat.le_of_ble_eq_true rfl⟩ dX4_least_23 (fun r3 σ3 w3 => ?_)
    obtain ⟨u1, u2⟩ := w3; rw [u1, u2]; clear u1 u2
    exact gx_iret C hr hlk rfl (fim_fd hR (by decide) (by first | (simp only [opLeast, ck, ct, cg1, bey, sta, non] <;> grind) | (simp only [opLeast, ck, ct, bey, sta, non] <;> grind) | (simp only [opLeast, bey, sta, non] <;> grind))) dX4_least_26
  ·
    have h2 := b2_nz.mp h2
    obtain ⟨k, hk, rfl⟩ := has_nat hO h2
    have ck : (nI k).toNatClampNeg = k := nI_clamp (by omega)
    refine gx_iload_n C dX4_least_8 (by rfl) (by rfl) ?_
    refine gx_i2l C dX4_least_9 ?_
    refine gx_lconst (v := 1) C dX4_least_10 (by decide) ?_
    refine gx_ldc2 C kl_X4_178 dX4_least_11 ?_
    refine gx_callSI (As := [.long n.toInt64, .long 1, .long 24]) (rest := []) C (c_X4_in E σ n 1 24 n.toInt64 1 24 (by first | rfl | decide) (by first | rfl | decide) (by first | rfl | decide)) z_X4_in (by rfl) ml_X4_45 (by rfl) (Nat.le_of_ble_eq_true rfl) ⟨Nat.le_of_ble_eq_true rfl, Nat.le_of_ble_eq_true rfl⟩ dX4_least_14 (fun r4 σ4 w4 => ?_)
    obtain ⟨u1, u2⟩ := w4; rw [u1, u2]; clear u1 u2
    refine gx_if_ne (tgt := 27) C dX4_least_17 (by decide) (fun h5 => ?_) (fun h5 => ?_)
    ·
      have h5 := b2_nz.mp h5
      obtain ⟨t, ht, rfl⟩ := i_nat (M := 24) (n := 24) (by decide) ⟨Int32.le_trans (by decide) h5.1, h5.2⟩
      have ct : (nI t).toNatClampNeg = t := nI_clamp (by omega)
      refine gx_aload_n C dX4_least_27 (by rfl) (by rfl) ?_
      refine gx_iload_n C dX4_least_28 (by rfl) (by rfl) ?_
      refine gx_iconst (v := 5) C dX4_least_29 (by decide) ?_
      refine gx_callVI (As := [.int (nI k), .int 5]) (rest := []) C (c_X4_is E σ k (by omega) 5 (by omega)) z_X4_is ck4 (by rfl) (by rfl) ml_X4_51 (by rfl) (Nat.le_of_ble_eq_true rfl) ⟨Nat.le_of_ble_eq_true rfl, Nat.le_of_ble_eq_true rfl⟩ dX4_least_30 (fun r6 σ6 w6 => ?_)
      obtain ⟨u1, u2⟩ := w6; rw [u1, u2]; clear u1 u2
      refine gx_st (st' := [.int (K 6 k)]) (by rw [mp_6 hM (p := k) (by omega)]) ?_
      refine gx_istore_n (lv2 := [(3, .int (K 6 k)), (0, .ref (eA E 49)), (1, .int (nI k)), (2, .int (nI t))]) C dX4_least_33 (by rfl) (by decide) rfl ?_
      refine gx_iload_n C dX4_least_34 (by rfl) (by rfl) ?_
      refine gx_if_lt (tgt := 60) C dX4_least_35 (by decide) (fun h7 => ?_) (fun h7 => ?_)
      ·
        refine gx_aload_n C dX4_least_60 (by rfl) (by rfl) ?_
        refine gx_ldc C kc_X4_67 dX4_least_61 ?_
        refine gx_callVI (As := [.int (-1000005)]) (rest := []) C (c_X4_finds E σ (-1000005) 4 (by decide) (by decide)) z_X4_finds ck4 (by rfl) (by rfl) ml_X4_39 (by rfl) (Nat.le_of_ble_eq_true rfl) ⟨Nat.le_of_ble_eq_true rfl, Nat.le_of_ble_eq_true rfl⟩ dX4_least_63 (fun r8 σ8 w8 => ?_)
        obtain ⟨u1, u2⟩ := w8; rw [u1, u2]; clear u1 u2
        exact gx_iret C hr hlk rfl (fim_fd hR (by decide) (by first | (simp only [opLeast, ck, ct, cg1, bey, sta, non] <;> grind) | (simp only [opLeast, ck, ct, bey, sta, non] <;> grind) | (simp only [opLeast, bey, sta, non] <;> grind))) dX4_least_66
      ·
        have hg0 : 0 ≤ K 6 k ∧ K 6 k < K 0 0 := ⟨Int32.not_lt.mp h7, (hpp k hk).2.2.2.2.2⟩
        obtain ⟨g1, hg1, eg1⟩ := has_nat hO hg0
        have cg1 : cl (K 6 k) = g1 := by rw [eg1]; exact nI_clamp (by omega)
        refine gx_lv (lv' := [(3, .int (nI g1)), (0, .ref (eA E 49)), (1, .int (nI k)), (2, .int (nI t))]) (by rw [eg1]) ?_
        refine gx_aload_n C dX4_least_38 (by rfl) (by rfl) ?_
        refine gx_iload_n C dX4_least_39 (by rfl) (by rfl) ?_
        refine gx_callVI (As := [.int (nI g1)]) (rest := []) C (c_X4_isOut E σ K hM hO g1 (by omega)) z_X4_isOut ck4 (by rfl) (by rfl) ml_X4_119 (by rfl) (Nat.le_of_ble_eq_true rfl) ⟨Nat.le_of_ble_eq_true rfl, Nat.le_of_ble_eq_true rfl⟩ dX4_least_40 (fun r9 σ9 w9 => ?_)
        obtain ⟨u1, u2⟩ := w9; rw [u1, u2]; clear u1 u2
        refine gx_if_ne (tgt := 60) C dX4_least_43 (by decide) (fun h10 => ?_) (fun h10 => ?_)
        ·
          have h10 := b2_nz.mp h10
          refine gx_aload_n C dX4_least_60 (by rfl) (by rfl) ?_
          refine gx_ldc C kc_X4_67 dX4_least_61 ?_
          refine gx_callVI (As := [.int (-1000005)]) (rest := []) C (c_X4_finds E σ (-1000005) 4 (by decide) (by decide)) z_X4_finds ck4 (by rfl) (by rfl) ml_X4_39 (by rfl) (Nat.le_of_ble_eq_true rfl) ⟨Nat.le_of_ble_eq_true rfl, Nat.le_of_ble_eq_true rfl⟩ dX4_least_63 (fun r11 σ11 w11 => ?_)
          obtain ⟨u1, u2⟩ := w11; rw [u1, u2]; clear u1 u2
          exact gx_iret C hr hlk rfl (fim_fd hR (by decide) (by first | (simp only [opLeast, ck, ct, cg1, bey, sta, non] <;> grind) | (simp only [opLeast, ck, ct, bey, sta, non] <;> grind) | (simp only [opLeast, bey, sta, non] <;> grind))) dX4_least_66
        ·
          have h10 := b2_z.mp h10
          refine gx_aload_n C dX4_least_46 (by rfl) (by rfl) ?_
          refine gx_getr (j := 50) (k := 0) C ck4 (by rfl) (by rfl) (by decide) fl_X4_9 dX4_least_47 ?_
          refine gx_iconst (v := 0) C dX4_least_50 (by decide) ?_
          refine gx_ialdN (k := 0) C (by rfl) (by rfl) (by decide) (by decide) dX4_least_51 ?_
          refine gx_st (st' := [.int (K 0 1)]) (by rw [mp_m hM]) ?_
          refine gx_iload_n C dX4_least_52 (by rfl) (by rfl) ?_
          refine gx_iadd C dX4_least_53 ?_
          refine gx_sipush (v := 999) C dX4_least_54 (by decide) ?_
          refine gx_icmp_le (tgt := 67) C dX4_least_57 (by decide) (fun h14 => ?_) (fun h14 => ?_)
          ·
            refine gx_aload_n C dX4_least_67 (by rfl) (by rfl) ?_
            refine gx_getr (j := 50) (k := 0) C ck4 (by rfl) (by rfl) (by decide) fl_X4_9 dX4_least_68 ?_
            refine gx_aload_n C dX4_least_71 (by rfl) (by rfl) ?_
            refine gx_getr (j := 53) (k := 3) C ck4 (by rfl) (by rfl) (by decide) fl_X4_19 dX4_least_72 ?_
            refine gx_callSV (As := [.ref (eA E 50), .ref (eA E 53)]) (rest := []) C (c_X4_row E σ 50 53 (by rfl) (by rfl) (by decide)) z_X4_row (by rfl) ml_X4_165 (by rfl) (Nat.le_of_ble_eq_true rfl) ⟨Nat.le_of_ble_eq_true rfl, Nat.le_of_ble_eq_true rfl⟩ dX4_least_75 (fun σ15 w15 => ?_)
            obtain ⟨hR15, hF15⟩ := w15
            have hM15 : vM σ15 50 = K := (vM_o (hF15 50 (by decide))).trans hM
            have hW15 : vM σ15 53 = K := hR15.trans hM
            refine gx_iconst (v := (-1)) C dX4_least_78 (by decide) ?_
            refine gx_istore (lv2 := [(4, .int (-1)), (3, .int (nI g1)), (0, .ref (eA E 49)), (1, .int (nI k)), (2, .int (nI t))]) C dX4_least_79 (by decide) rfl ?_
            refine gx_iconst (v := 0) C dX4_least_81 (by decide) ?_
            refine gx_istore (lv2 := [(5, .int 0), (4, .int (-1)), (3, .int (nI g1)), (0, .ref (eA E 49)), (1, .int (nI k)), (2, .int (nI t))]) C dX4_least_82 (by decide) rfl ?_
            have loop84 : ∀ (f : Nat) (i : Nat) (ls : Int32) (τ : Mm), i ≤ 1000 → 1000 < i + f → vM τ 50 = K → vM τ 53 = K → F3 σ τ → ((ls = -1 ∧ lsF K k g1 t (1000 - i) i = lsF K k g1 t 1000 0) ∨ (∃ u, u < 1000 ∧ ls = nI u ∧ lsF K k g1 t 1000 0 = nI u)) → Gx E p e0 (rmF 8 186) s m ([.ref (eA E 49), .int (nI k), .int (nI t)] : List Value).toArray below meth c (MQ below (va_Qi (fun rr σ2 => rr = (opLeast (K, L, g, F, tl, Bt, W, Z, N) (nI k) (nI t)).1 ∧ MR σ2 (opLeast (K, L, g, F, tl, Bt, W, Z, N) (nI k) (nI t)).2 ∧ FM σ σ2) (WQ E) (AA E s.heap.size)) ([.ref (eA E 49), .int (nI k), .int (nI t)] : List Value).toArray s 0 0 (AA E s.heap.size)) 6 84 [(0, .ref (eA E 49)), (1, .int (nI k)), (2, .int (nI t)), (3, .int (nI g1)), (4, .int ls), (5, .int (nI i))] [] τ := by
              intro f
              induction f with
              | zero => intro i ls τ hi hf hMt hNt hFt hls; exact absurd hf (by omega)
              | succ f ih84 =>
                intro i ls τ hi hf hMt hNt hFt hls
                refine gx_iload C dX4_least_84 (by rfl) ?_
                refine gx_sipush (v := 999) C dX4_least_86 (by decide) ?_
                refine gx_icmp_gt (tgt := 151) C dX4_least_89 (by decide) (fun h16 => ?_) (fun h16 => ?_)
                ·
                  have h16 := (nI_ltI (a := 999) (b := i) (by omega) (by omega)).mp h16
                  refine gx_aload_n C dX4_least_151 (by rfl) (by rfl) ?_
                  refine gx_iload C dX4_least_152 (by rfl) ?_
                  refine gx_callVI (As := [.int ls]) (rest := []) C (c_X4_orNone E τ ls) z_X4_orNone ck4 (by rfl) (by rfl) ml_X4_151 (by rfl) (Nat.le_of_ble_eq_true rfl) ⟨Nat.le_of_ble_eq_true rfl, Nat.le_of_ble_eq_true rfl⟩ dX4_least_154 (fun r17 σ17 w17 => ?_)
                  by_cases hv : ls < 0
                  ·
                    obtain ⟨u1, u2⟩ := w17.1 hv; rw [u1, u2]; clear u1 u2
                    exact gx_iret C hr hlk rfl (fim_tfd hR hMt hFt (by decide) (by have hls1 := hls.resolve_right (fun ⟨u, y1, y2, y3⟩ => nI_pos (show u < 2 ^ 31 by omega) (y2 ▸ hv)); have q1 : lsF K k g1 t 1000 0 = -1 := (by first | (exfalso; exact Int32.not_lt.mpr (by assumption) hv) | (rw [← hls1.2, show 1000 - i = 0 by omega, lsF]; done) | rw [← hls1.2, show 1000 - i = (1000 - (i + 1)) + 1 by omega, lsF, if_neg (fun q9 => absurd (by have q8 := q9.2; rwa [cg1] at q8) (by assumption))]); simp only [opLeast, ck, ct, cg1, q1, bey, sta, non]; rw [if_pos (by grind), if_neg (by grind)]; simp)) dX4_least_157
                  ·
                    obtain ⟨u1, u2⟩ := w17.2 hv; rw [u1, u2]; clear u1 u2
                    exact gx_iret C hr hlk rfl (fim_try hR hMt hFt (by obtain ⟨u, y1, y2, y3⟩ := hls.resolve_left (fun q9 => hv (by rw [q9.1]; decide)); have q1 := y3; have q2 : ¬ nI u = -1 := nI_m1 (by omega); simp only [opLeast, ck, ct, cg1, q1, bey, sta, non]; rw [if_pos (by grind), if_neg (by grind), if_neg q2, y2])) dX4_least_157
                ·
                  have h16 := (not_congr (nI_ltI (a := 999) (b := i) (by omega) (by omega))).mp h16
                  refine gx_iload C dX4_least_92 (by rfl) ?_
                  refine gx_if_ge (tgt := 151) C dX4_least_94 (by decide) (fun h18 => ?_) (fun h18 => ?_)
                  ·
                    refine gx_aload_n C dX4_least_151 (by rfl) (by rfl) ?_
                    refine gx_iload C dX4_least_152 (by rfl) ?_
                    refine gx_callVI (As := [.int ls]) (rest := []) C (c_X4_orNone E τ ls) z_X4_orNone ck4 (by rfl) (by rfl) ml_X4_151 (by rfl) (Nat.le_of_ble_eq_true rfl) ⟨Nat.le_of_ble_eq_true rfl, Nat.le_of_ble_eq_true rfl⟩ dX4_least_154 (fun r19 σ19 w19 => ?_)
                    by_cases hv : ls < 0
                    ·
                      obtain ⟨u1, u2⟩ := w19.1 hv; rw [u1, u2]; clear u1 u2
                      exact gx_iret C hr hlk rfl (fim_tfd hR hMt hFt (by decide) (by have hls1 := hls.resolve_right (fun ⟨u, y1, y2, y3⟩ => nI_pos (show u < 2 ^ 31 by omega) (y2 ▸ hv)); have q1 : lsF K k g1 t 1000 0 = -1 := (by first | (exfalso; exact Int32.not_lt.mpr (by assumption) hv) | (rw [← hls1.2, show 1000 - i = 0 by omega, lsF]; done) | rw [← hls1.2, show 1000 - i = (1000 - (i + 1)) + 1 by omega, lsF, if_neg (fun q9 => absurd (by have q8 := q9.2; rwa [cg1] at q8) (by assumption))]); simp only [opLeast, ck, ct, cg1, q1, bey, sta, non]; rw [if_pos (by grind), if_neg (by grind)]; simp)) dX4_least_157
                    ·
                      obtain ⟨u1, u2⟩ := w19.2 hv; rw [u1, u2]; clear u1 u2
                      exact gx_iret C hr hlk rfl (fim_try hR hMt hFt (by obtain ⟨u, y1, y2, y3⟩ := hls.resolve_left (fun q9 => hv (by rw [q9.1]; decide)); have q1 := y3; have q2 : ¬ nI u = -1 := nI_m1 (by omega); simp only [opLeast, ck, ct, cg1, q1, bey, sta, non]; rw [if_pos (by grind), if_neg (by grind), if_neg q2, y2])) dX4_least_157
                  ·
                    have hls1 := hls.resolve_right (fun ⟨u, y1, y2, y3⟩ => h18 (y2 ▸ nI_pos' (by omega)))
                    refine gx_aload_n C dX4_least_97 (by rfl) (by rfl) ?_
                    refine gx_iload_n C dX4_least_98 (by rfl) (by rfl) ?_
                    refine gx_iload C dX4_least_99 (by rfl) ?_
                    refine gx_callVI (As := [.int (nI k), .int (nI i)]) (rest := []) C (c_X4_canGive E τ K hMt hO k (by omega) g1 (by omega) eg1 (nI i)) z_X4_canGive ck4 (by rfl) (by rfl) ml_X4_122 (by rfl) (Nat.le_of_ble_eq_true rfl) ⟨Nat.le_of_ble_eq_true rfl, Nat.le_of_ble_eq_true rfl⟩ dX4_least_101 (fun r20 σ20 w20 => ?_)
                    obtain ⟨u1, u2⟩ := w20; rw [u1, u2]; clear u1 u2
                    refine gx_if_eq (tgt := 151) C dX4_least_104 (by decide) (fun h21 => ?_) (fun h21 => ?_)
                    ·
                      have h21 := b2_z.mp h21
                      refine gx_aload_n C dX4_least_151 (by rfl) (by rfl) ?_
                      refine gx_iload C dX4_least_152 (by rfl) ?_
                      refine gx_callVI (As := [.int ls]) (rest := []) C (c_X4_orNone E τ ls) z_X4_orNone ck4 (by rfl) (by rfl) ml_X4_151 (by rfl) (Nat.le_of_ble_eq_true rfl) ⟨Nat.le_of_ble_eq_true rfl, Nat.le_of_ble_eq_true rfl⟩ dX4_least_154 (fun r22 σ22 w22 => ?_)
                      by_cases hv : ls < 0
                      ·
                        obtain ⟨u1, u2⟩ := w22.1 hv; rw [u1, u2]; clear u1 u2
                        exact gx_iret C hr hlk rfl (fim_tfd hR hMt hFt (by decide) (by have hls1 := hls.resolve_right (fun ⟨u, y1, y2, y3⟩ => nI_pos (show u < 2 ^ 31 by omega) (y2 ▸ hv)); have q1 : lsF K k g1 t 1000 0 = -1 := (by first | (exfalso; exact Int32.not_lt.mpr (by assumption) hv) | (rw [← hls1.2, show 1000 - i = 0 by omega, lsF]; done) | rw [← hls1.2, show 1000 - i = (1000 - (i + 1)) + 1 by omega, lsF, if_neg (fun q9 => absurd (by have q8 := q9.2; rwa [cg1] at q8) (by assumption))]); simp only [opLeast, ck, ct, cg1, q1, bey, sta, non]; rw [if_pos (by grind), if_neg (by grind)]; simp)) dX4_least_157
                      ·
                        obtain ⟨u1, u2⟩ := w22.2 hv; rw [u1, u2]; clear u1 u2
                        exact gx_iret C hr hlk rfl (fim_try hR hMt hFt (by obtain ⟨u, y1, y2, y3⟩ := hls.resolve_left (fun q9 => hv (by rw [q9.1]; decide)); have q1 := y3; have q2 : ¬ nI u = -1 := nI_m1 (by omega); simp only [opLeast, ck, ct, cg1, q1, bey, sta, non]; rw [if_pos (by grind), if_neg (by grind), if_neg q2, y2])) dX4_least_157
                    ·
                      have h21 := b2_nz.mp h21
                      refine gx_aload_n C dX4_least_107 (by rfl) (by rfl) ?_
                      refine gx_iload_n C dX4_least_108 (by rfl) (by rfl) ?_
                      refine gx_iload C dX4_least_109 (by rfl) ?_
                      refine gx_callVV (As := [.int (nI k), .int (nI i)]) (rest := []) C (c_X4_gives E τ K hMt hO k (by omega) g1 (by omega) eg1 (nI i)) z_X4_gives ck4 (by rfl) (by rfl) ml_X4_125 (by rfl) (Nat.le_of_ble_eq_true rfl) ⟨Nat.le_of_ble_eq_true rfl, Nat.le_of_ble_eq_true rfl⟩ dX4_least_111 (fun σ23 w23 => ?_)
                      obtain ⟨hM23, hF23⟩ := w23
                      have hN24 : vM σ23 53 = K := (vM_o (hF23 53 (by decide))).trans hNt
                      have hnt23 : nn (tkK K k g1 (nI i)) = nn K := by unfold tkK; exact (nn_up (Or.inl (by decide))).trans ((nn_up (Or.inl (by decide))).trans (nn_up (Or.inl (by decide))))
                      refine gx_aload_n C dX4_least_114 (by rfl) (by rfl) ?_
                      refine gx_iload_n C dX4_least_115 (by rfl) (by rfl) ?_
                      refine gx_iconst (v := 4) C dX4_least_116 (by decide) ?_
                      refine gx_iload_n C dX4_least_117 (by rfl) (by rfl) ?_
                      refine gx_iadd C dX4_least_118 ?_
                      refine gx_st (st' := [.int (nI (4 + g1)), .int (nI t), .ref (eA E 49)]) (by rw [show 4 + (nI g1) = nI (4 + g1) from nI_add 4 g1]) ?_
                      refine gx_callVI (As := [.int (nI t), .int (nI (4 + g1))]) (rest := []) C (k_X4_behind_q E σ23 (tkK K k g1 (nI i)) hM23 (Ok_tk hO (by omega) hg1 (nI_rg (n := 9999) (by omega) (by omega)) (by grind) (by grind)) t (by omega) g1 (by omega)) z_X4_behind ck4 (by rfl) (by rfl) ml_X4_172 (by rfl) (Nat.le_of_ble_eq_true rfl) ⟨Nat.le_of_ble_eq_true rfl, Nat.le_of_ble_eq_true rfl⟩ dX4_least_119 (fun r26 σ26 w26 => ?_)
                      obtain ⟨er26, hM26, hF26⟩ := w26
                      have hN27 : vM σ26 53 = K := (vM_o (hF26 53 (by decide) (by decide))).trans hN24
                      refine gx_st (st' := [.int (mos t (tkK K k g1 (nI i)) 2 g1)]) (by rw [er26]) ?_
                      refine gx_iconst (v := (-1)) C dX4_least_122 (by decide) ?_
                      refine gx_icmp_ne (tgt := 130) C dX4_least_123 (by decide) (fun h28 => ?_) (fun h28 => ?_)
                      ·
                        refine gx_iload C dX4_least_130 (by rfl) ?_
                        refine gx_istore (lv2 := [(4, .int (nI i)), (0, .ref (eA E 49)), (1, .int (nI k)), (2, .int (nI t)), (3, .int (nI g1)), (5, .int (nI i))]) C dX4_least_132 (by decide) rfl ?_
                        refine gx_aload_n C dX4_least_134 (by rfl) (by rfl) ?_
                        refine gx_getr (j := 53) (k := 3) C ck4 (by rfl) (by rfl) (by decide) fl_X4_19 dX4_least_135 ?_
                        refine gx_aload_n C dX4_least_138 (by rfl) (by rfl) ?_
                        refine gx_getr (j := 50) (k := 0) C ck4 (by rfl) (by rfl) (by decide) fl_X4_9 dX4_least_139 ?_
                        refine gx_callSV (As := [.ref (eA E 53), .ref (eA E 50)]) (rest := []) C (c_X4_row E σ26 53 50 (by rfl) (by rfl) (by decide)) z_X4_row (by rfl) ml_X4_165 (by rfl) (Nat.le_of_ble_eq_true rfl) ⟨Nat.le_of_ble_eq_true rfl, Nat.le_of_ble_eq_true rfl⟩ dX4_least_142 (fun σ29 w29 => ?_)
                        obtain ⟨hR29, hF29⟩ := w29
                        have hN30 : vM σ29 53 = K := (vM_o (hF29 53 (by decide))).trans hN27
                        have hM29 : vM σ29 50 = K := hR29.trans hN27
                        refine gx_iinc (v := nI (i + 1)) (lv2 := [(5, .int (nI (i + 1))), (4, .int (nI i)), (0, .ref (eA E 49)), (1, .int (nI k)), (2, .int (nI t)), (3, .int (nI g1))]) C dX4_least_145 (by rfl) (by exact nI_p1 _) (by decide) rfl ?_
                        refine gx_goto (tgt := 84) C dX4_least_148 (by decide) ?_
                        refine gx_sub [2, 3, 4, 5, 1, 0] (lv' := [(0, .ref (eA E 49)), (1, .int (nI k)), (2, .int (nI t)), (3, .int (nI g1)), (4, .int (nI i)), (5, .int (nI (i + 1)))]) rfl ?_
                        exact ih84 (i + 1) (nI i) σ29 (by omega) (by omega) hM29 hN30 ((((hFt).f1 hF23 (by decide)).f2 hF26).f1 hF29 (by decide)) (Or.inr ⟨i, by omega, rfl, by rw [← hls1.2, show 1000 - i = (1000 - (i + 1)) + 1 by omega, lsF, if_pos ⟨hg0, by rw [cg1]; assumption⟩, if_pos (by assumption)]⟩)
                      ·
                        refine gx_iconst (v := (-1)) C dX4_least_126 (by decide) ?_
                        refine gx_goto (tgt := 132) C dX4_least_127 (by decide) ?_
                        refine gx_istore (lv2 := [(4, .int (-1)), (0, .ref (eA E 49)), (1, .int (nI k)), (2, .int (nI t)), (3, .int (nI g1)), (5, .int (nI i))]) C dX4_least_132 (by decide) rfl ?_
                        refine gx_aload_n C dX4_least_134 (by rfl) (by rfl) ?_
                        refine gx_getr (j := 53) (k := 3) C ck4 (by rfl) (by rfl) (by decide) fl_X4_19 dX4_least_135 ?_
                        refine gx_aload_n C dX4_least_138 (by rfl) (by rfl) ?_
                        refine gx_getr (j := 50) (k := 0) C ck4 (by rfl) (by rfl) (by decide) fl_X4_9 dX4_least_139 ?_
                        refine gx_callSV (As := [.ref (eA E 53), .ref (eA E 50)]) (rest := []) C (c_X4_row E σ26 53 50 (by rfl) (by rfl) (by decide)) z_X4_row (by rfl) ml_X4_165 (by rfl) (Nat.le_of_ble_eq_true rfl) ⟨Nat.le_of_ble_eq_true rfl, Nat.le_of_ble_eq_true rfl⟩ dX4_least_142 (fun σ31 w31 => ?_)
                        obtain ⟨hR31, hF31⟩ := w31
                        have hN32 : vM σ31 53 = K := (vM_o (hF31 53 (by decide))).trans hN27
                        have hM31 : vM σ31 50 = K := hR31.trans hN27
                        refine gx_iinc (v := nI (i + 1)) (lv2 := [(5, .int (nI (i + 1))), (4, .int (-1)), (0, .ref (eA E 49)), (1, .int (nI k)), (2, .int (nI t)), (3, .int (nI g1))]) C dX4_least_145 (by rfl) (by exact nI_p1 _) (by decide) rfl ?_
                        refine gx_goto (tgt := 84) C dX4_least_148 (by decide) ?_
                        refine gx_sub [2, 3, 4, 5, 1, 0] (lv' := [(0, .ref (eA E 49)), (1, .int (nI k)), (2, .int (nI t)), (3, .int (nI g1)), (4, .int (-1)), (5, .int (nI (i + 1)))]) rfl ?_
                        exact ih84 (i + 1) (-1) σ31 (by omega) (by omega) hM31 hN32 ((((hFt).f1 hF23 (by decide)).f2 hF26).f1 hF31 (by decide)) (Or.inl ⟨rfl, by rw [← hls1.2, show 1000 - i = (1000 - (i + 1)) + 1 by omega, lsF, if_pos ⟨hg0, by rw [cg1]; assumption⟩, if_neg (fun q9 => q9 (by assumption))]⟩)
            refine gx_sub [3, 4, 5, 2, 1, 0] (lv' := [(0, .ref (eA E 49)), (1, .int (nI k)), (2, .int (nI t)), (3, .int (nI g1)), (4, .int (-1)), (5, .int 0)]) rfl ?_
            refine gx_lv (lv' := [(0, .ref (eA E 49)), (1, .int (nI k)), (2, .int (nI t)), (3, .int (nI g1)), (4, .int (-1)), (5, .int (nI 0))]) (by rfl) ?_
            exact loop84 1001 0 (-1) σ15 (by omega) (by omega) hM15 hW15 ((F3.rf).f1 hF15 (by decide)) (Or.inl ⟨rfl, rfl⟩)
          ·
            refine gx_aload_n C dX4_least_60 (by rfl) (by rfl) ?_
            refine gx_ldc C kc_X4_67 dX4_least_61 ?_
            refine gx_callVI (As := [.int (-1000005)]) (rest := []) C (c_X4_finds E σ (-1000005) 4 (by decide) (by decide)) z_X4_finds ck4 (by rfl) (by rfl) ml_X4_39 (by rfl) (Nat.le_of_ble_eq_true rfl) ⟨Nat.le_of_ble_eq_true rfl, Nat.le_of_ble_eq_true rfl⟩ dX4_least_63 (fun r33 σ33 w33 => ?_)
            obtain ⟨u1, u2⟩ := w33; rw [u1, u2]; clear u1 u2
            exact gx_iret C hr hlk rfl (fim_fd hR (by decide) (by first | (simp only [opLeast, ck, ct, cg1, bey, sta, non] <;> grind) | (simp only [opLeast, ck, ct, bey, sta, non] <;> grind) | (simp only [opLeast, bey, sta, non] <;> grind))) dX4_least_66
    ·
      have h5 := b2_z.mp h5
      refine gx_aload_n C dX4_least_20 (by rfl) (by rfl) ?_
      refine gx_ldc C kc_X4_37 dX4_least_21 ?_
      refine gx_callVI (As := [.int (-1000001)]) (rest := []) C (c_X4_finds E σ (-1000001) 0 (by decide) (by decide)) z_X4_finds ck4 (by rfl) (by rfl) ml_X4_39 (by rfl) (Nat.le_of_ble_eq_true rfl) ⟨Nat.le_of_ble_eq_true rfl, Nat.le_of_ble_eq_true rfl⟩ dX4_least_23 (fun r34 σ34 w34 => ?_)
      obtain ⟨u1, u2⟩ := w34; rw [u1, u2]; clear u1 u2
      exact gx_iret C hr hlk rfl (fim_fd hR (by decide) (by first | (simp only [opLeast, ck, ct, cg1, bey, sta, non] <;> grind) | (simp only [opLeast, ck, ct, bey, sta, non] <;> grind) | (simp only [opLeast, bey, sta, non] <;> grind))) dX4_least_26
set_option maxHeartbeats 4000000 in
set_option maxRecDepth 100000 in
theorem c_X4_rumours (E : En) (σ : Mm) (K L : Mm) (g : Int32) (F : Nat → Int32) (tl : Int32) (Bt W Z : Nat → Int32) (N : Mm) (hR : MR σ (K, L, g, F, tl, Bt, W, Z, N)) (n : Int32) : CtI E yX4_rumours cX4_rumours 5 (some .int) 2 45 [.ref (eA E 49), .int n] σ (fun rr σ2 => rr = (opRumours (K, L, g, F, tl, Bt, W, Z, N) n).1 ∧ MR σ2 (opRumours (K, L, g, F, tl, Bt, W, Z, N) n).2 ∧ FM σ σ2) := by
  obtain ⟨⟨hM, hO⟩, ⟨hg1, hg2, hg3⟩, hFd, ⟨⟨htl, htl2⟩, hBt⟩, hSh⟩ := id hR
  obtain ⟨⟨hn, h12⟩, hpp, hlw, hsp, hz0⟩ := id hO
  refine CtI.of (by decide +kernel) (Nat.le_of_ble_eq_true rfl) (fun p e0 s m below meth c C hr hlk => ?_)
  refine gx_lv (lv' := [(0, .ref (eA E 49)), (1, .int n)]) rfl ?_
  refine gx_iload_n C dX4_rumours_0 (by rfl) (by rfl) ?_
  refine gx_i2l C dX4_rumours_1 ?_
  refine gx_lconst (v := 1) C dX4_rumours_2 (by decide) ?_
  refine gx_ldc2 C kl_X4_180 dX4_rumours_3 ?_
  refine gx_callSI (As := [.long n.toInt64, .long 1, .long 12]) (rest := []) C (c_X4_in E σ n 1 12 n.toInt64 1 12 (by first | rfl | decide) (by first | rfl | decide) (by first | rfl | decide)) z_X4_in (by rfl) ml_X4_45 (by rfl) (Nat.le_of_ble_eq_true rfl) ⟨Nat.le_of_ble_eq_true rfl, Nat.le_of_ble_eq_true rfl⟩ dX4_rumours_6 (fun r1 σ1 w1 => ?_)
  obtain ⟨u1, u2⟩ := w1; rw [u1, u2]; clear u1 u2
  refine gx_if_ne (tgt := 19) C dX4_rumours_9 (by decide) (fun h2 => ?_) (fun h2 => ?_)
  ·
    have h2 := b2_nz.mp h2
    obtain ⟨t, ht, rfl⟩ := i_nat (M := 12) (n := 12) (by decide) ⟨Int32.le_trans (by decide) h2.1, h2.2⟩
    have ct : (nI t).toNatClampNeg = t := nI_clamp (by omega)
    refine gx_aload_n C dX4_rumours_19 (by rfl) (by rfl) ?_
    refine gx_getr (j := 50) (k := 0) C ck4 (by rfl) (by rfl) (by decide) fl_X4_9 dX4_rumours_20 ?_
    refine gx_bipush (v := 6) C dX4_rumours_23 (by decide) ?_
    refine gx_ialdN (k := 6) C (by rfl) (by rfl) (by decide) (by decide) dX4_rumours_25 ?_
    refine gx_st (st' := [.int (nI (nn K))]) (by rw [mp_n hM, hn]) ?_
    refine gx_if_ne (tgt := 36) C dX4_rumours_26 (by decide) (fun h3 => ?_) (fun h3 => ?_)
    ·
      have h0 : 0 < nn K := Nat.pos_of_ne_zero (fun q => h3 (by rw [q]; rfl))
      have hk0 : ¬ K 0 0 = 0 := by rw [hn]; exact h3
      refine gx_iconst (v := 0) C dX4_rumours_36 (by decide) ?_
      refine gx_istore_n (lv2 := [(2, .int 0), (0, .ref (eA E 49)), (1, .int (nI t))]) C dX4_rumours_37 (by rfl) (by decide) rfl ?_
      have loop38 : ∀ (kf i : Nat), i ≤ t → t < i + kf → ∀ τ : Mm, (vM τ 50 = ruF i K) → (F3 σ τ) → Gx E p e0 (rmF 2 45) s m ([.ref (eA E 49), .int (nI t)] : List Value).toArray below meth c (MQ below (va_Qi (fun rr σ2 => rr = (opRumours (K, L, g, F, tl, Bt, W, Z, N) (nI t)).1 ∧ MR σ2 (opRumours (K, L, g, F, tl, Bt, W, Z, N) (nI t)).2 ∧ FM σ σ2) (WQ E) (AA E s.heap.size)) ([.ref (eA E 49), .int (nI t)] : List Value).toArray s 0 0 (AA E s.heap.size)) 5 38 [(0, .ref (eA E 49)), (1, .int (nI t)), (2, .int (nI i))] [] τ := by
        intro kf
        induction kf with
        | zero => intro i q1 q2; exact absurd q2 (by omega)
        | succ kf ih38 =>
          intro i a38 b38 τ hMt hFt
          obtain ⟨X, eX⟩ : ∃ X, X = ruF i K := ⟨_, rfl⟩
          rw [← eX] at hMt
          have hOX : Ok X := by rw [eX]; exact (ru_keep hO h0 i).1
          have hnX : nn X = nn K := by rw [eX]; exact (ru_keep hO h0 i).2
          have hX0 : 0 < nn X := by omega
          have h12X := hOX.1.2
          refine gx_iload_n C dX4_rumours_38 (by rfl) (by rfl) ?_
          refine gx_iload_n C dX4_rumours_39 (by rfl) (by rfl) ?_
          refine gx_icmp_ge (tgt := 94) C dX4_rumours_40 (by decide) (fun h4 => ?_) (fun h4 => ?_)
          ·
            have h4 := (nI_leI (a := t) (b := i) (by omega) (by omega)).mp h4
            refine gx_aload_n C dX4_rumours_94 (by rfl) (by rfl) ?_
            refine gx_callVI (As := []) (rest := []) C (c_X4_grudging E τ X hMt hOX) z_X4_grudging ck4 (by rfl) (by rfl) ml_X4_195 (by rfl) (Nat.le_of_ble_eq_true rfl) ⟨Nat.le_of_ble_eq_true rfl, Nat.le_of_ble_eq_true rfl⟩ dX4_rumours_95 (fun r5 σ5 w5 => ?_)
            obtain ⟨u1, u2⟩ := w5; rw [u1, u2]; clear u1 u2
            exact gx_iret C hr hlk rfl (fim_now hR hMt hOX hFt (by have q1 : i = t := (by omega); subst q1; subst eX; simp only [opRumours, ct, bey, sta]; rw [if_pos (by grind), if_neg (by assumption), hnX])) dX4_rumours_98
          ·
            have h4 := (not_congr (nI_leI (a := t) (b := i) (by omega) (by omega))).mp h4
            refine gx_aload_n C dX4_rumours_43 (by rfl) (by rfl) ?_
            refine gx_callVI (As := []) (rest := []) C (c_X4_draw E τ X hMt hOX) z_X4_draw ck4 (by rfl) (by rfl) ml_X4_192 (by rfl) (Nat.le_of_ble_eq_true rfl) ⟨Nat.le_of_ble_eq_true rfl, Nat.le_of_ble_eq_true rfl⟩ dX4_rumours_44 (fun r6 σ6 w6 => ?_)
            obtain ⟨er6, hM6, hF6⟩ := w6
            have hM6 : vM σ6 50 = up2 X 0 3 (drZ (X 0 3)) := hM6
            have er6 : r6 = ush (drZ (X 0 3)) 8 := er6
            have dl6 := dr_lt2 hX0 (drZ (X 0 3))
            refine gx_st (st' := [.int (ush (drZ (X 0 3)) 8)]) (by rw [er6]) ?_
            refine gx_aload_n C dX4_rumours_47 (by rfl) (by rfl) ?_
            refine gx_getr (j := 50) (k := 0) C ck4 (by rfl) (by rfl) (by decide) fl_X4_9 dX4_rumours_48 ?_
            refine gx_bipush (v := 6) C dX4_rumours_51 (by decide) ?_
            refine gx_ialdN (k := 6) C (by rfl) (by rfl) (by decide) (by decide) dX4_rumours_53 ?_
            refine gx_st (st' := [.int (nI (nn X)), .int (ush (drZ (X 0 3)) 8)]) (by rw [mp_n hM6, (show (up2 X 0 3 (drZ (X 0 3))) 0 0 = nI (nn X) from hOX.1.1)]) ?_
            refine gx_irem C (nI_ne0 hX0 (by omega)) dX4_rumours_54 ?_
            refine gx_st (st' := [.int (nI (drN (drZ (X 0 3)) (nn X)))]) (by rw [dr_eq (drZ (X 0 3)) hX0 (by omega)]) ?_
            refine gx_istore_n (lv2 := [(3, .int (nI (drN (drZ (X 0 3)) (nn X)))), (0, .ref (eA E 49)), (1, .int (nI t)), (2, .int (nI i))]) C dX4_rumours_55 (by rfl) (by decide) rfl ?_
            refine gx_aload_n C dX4_rumours_56 (by rfl) (by rfl) ?_
            refine gx_callVI (As := []) (rest := []) C (c_X4_draw E σ6 (up2 X 0 3 (drZ (X 0 3))) hM6 (hOX.fld0 (by decide) (by decide))) z_X4_draw ck4 (by rfl) (by rfl) ml_X4_192 (by rfl) (Nat.le_of_ble_eq_true rfl) ⟨Nat.le_of_ble_eq_true rfl, Nat.le_of_ble_eq_true rfl⟩ dX4_rumours_57 (fun r7 σ7 w7 => ?_)
            obtain ⟨er7, hM7, hF7⟩ := w7
            have hM7 : vM σ7 50 = up2 (up2 X 0 3 (drZ (X 0 3))) 0 3 (drZ (drZ (X 0 3))) := hM7
            have er7 : r7 = ush (drZ (drZ (X 0 3))) 8 := er7
            have dl7 := dr_lt2 hX0 (drZ (drZ (X 0 3)))
            refine gx_st (st' := [.int (ush (drZ (drZ (X 0 3))) 8)]) (by rw [er7]) ?_
            refine gx_aload_n C dX4_rumours_60 (by rfl) (by rfl) ?_
            refine gx_getr (j := 50) (k := 0) C ck4 (by rfl) (by rfl) (by decide) fl_X4_9 dX4_rumours_61 ?_
            refine gx_bipush (v := 6) C dX4_rumours_64 (by decide) ?_
            refine gx_ialdN (k := 6) C (by rfl) (by rfl) (by decide) (by decide) dX4_rumours_66 ?_
            refine gx_st (st' := [.int (nI (nn X)), .int (ush (drZ (drZ (X 0 3))) 8)]) (by rw [mp_n hM7, (show (up2 (up2 X 0 3 (drZ (X 0 3))) 0 3 (drZ (drZ (X 0 3)))) 0 0 = nI (nn X) from hOX.1.1)]) ?_
            refine gx_irem C (nI_ne0 hX0 (by omega)) dX4_rumours_67 ?_
            refine gx_st (st' := [.int (nI (drN (drZ (drZ (X 0 3))) (nn X)))]) (by rw [dr_eq (drZ (drZ (X 0 3))) hX0 (by omega)]) ?_
            refine gx_istore (lv2 := [(4, .int (nI (drN (drZ (drZ (X 0 3))) (nn X)))), (3, .int (nI (drN (drZ (X 0 3)) (nn X)))), (0, .ref (eA E 49)), (1, .int (nI t)), (2, .int (nI i))]) C dX4_rumours_68 (by decide) rfl ?_
            refine gx_aload_n C dX4_rumours_70 (by rfl) (by rfl) ?_
            refine gx_iload_n C dX4_rumours_71 (by rfl) (by rfl) ?_
            refine gx_iload_n C dX4_rumours_72 (by rfl) (by rfl) ?_
            refine gx_iload C dX4_rumours_73 (by rfl) ?_
            refine gx_icmp_ne (tgt := 82) C dX4_rumours_75 (by decide) (fun h8 => ?_) (fun h8 => ?_)
            ·
              have h8 := (not_congr (nI_eq (a := (drN (drZ (X 0 3)) (nn X))) (b := (drN (drZ (drZ (X 0 3))) (nn X))) (by omega) (by omega))).mp h8
              refine gx_iload C dX4_rumours_82 (by rfl) ?_
              have hru := ru_rg hOX (p := drN (drZ (X 0 3)) (nn X)) (q := drN (drZ (drZ (X 0 3))) (nn X)) (dr_lt2 hX0 _)
              rw [ruQ, if_neg (fun q9 => absurd q9.symm (by assumption))] at hru
              refine gx_callVI (As := [.int (nI (drN (drZ (X 0 3)) (nn X))), .int (nI (drN (drZ (drZ (X 0 3))) (nn X)))]) (rest := []) C (c_X4_bears E σ7 (up2 (up2 X 0 3 (drZ (X 0 3))) 0 3 (drZ (drZ (X 0 3)))) hM7 ((hOX.fld0 (by decide) (by decide)).fld0 (by decide) (by decide)) (drN (drZ (X 0 3)) (nn X)) (by omega) (nI (drN (drZ (drZ (X 0 3))) (nn X)))) z_X4_bears ck4 (by rfl) (by rfl) ml_X4_116 (by rfl) (Nat.le_of_ble_eq_true rfl) ⟨Nat.le_of_ble_eq_true rfl, Nat.le_of_ble_eq_true rfl⟩ dX4_rumours_84 (fun r9 σ9 w9 => ?_)
              obtain ⟨er9, hM9, hF9⟩ := w9
              rw [bear_c] at hM9
              refine gx_st (st' := [.int ((up2 (up2 X 0 3 (drZ (X 0 3))) 0 3 (drZ (drZ (X 0 3)))) 6 (drN (drZ (X 0 3)) (nn X)))]) (by rw [er9]) ?_
              refine gx_pop C (by rfl) dX4_rumours_87 ?_
              refine gx_iinc (v := nI (i + 1)) (lv2 := [(2, .int (nI (i + 1))), (4, .int (nI (drN (drZ (drZ (X 0 3))) (nn X)))), (3, .int (nI (drN (drZ (X 0 3)) (nn X)))), (0, .ref (eA E 49)), (1, .int (nI t))]) C dX4_rumours_88 (by rfl) (by exact nI_p1 _) (by decide) rfl ?_
              refine gx_goto (tgt := 38) C dX4_rumours_91 (by decide) ?_
              refine gx_sub [3, 4, 0] (lv' := [(0, .ref (eA E 49)), (1, .int (nI t)), (2, .int (nI (i + 1)))]) rfl ?_
              exact ih38 (i + 1) (by omega) (by omega) σ9 (by rw [ruF, ← eX, ruS, ruQ, if_neg (fun q9 => absurd q9.symm (by assumption))]; exact hM9) ((((hFt).f1 hF6 (by decide)).f1 hF7 (by decide)).f1 hF9 (by decide))
            ·
              have h8 := (nI_eq (a := (drN (drZ (X 0 3)) (nn X))) (b := (drN (drZ (drZ (X 0 3))) (nn X))) (by omega) (by omega)).mp h8
              refine gx_iconst (v := (-1)) C dX4_rumours_78 (by decide) ?_
              refine gx_goto (tgt := 84) C dX4_rumours_79 (by decide) ?_
              have hru := ru_rg hOX (p := drN (drZ (X 0 3)) (nn X)) (q := drN (drZ (drZ (X 0 3))) (nn X)) (dr_lt2 hX0 _)
              rw [ruQ, if_pos (Eq.symm (by assumption))] at hru
              refine gx_callVI (As := [.int (nI (drN (drZ (X 0 3)) (nn X))), .int (-1)]) (rest := []) C (c_X4_bears E σ7 (up2 (up2 X 0 3 (drZ (X 0 3))) 0 3 (drZ (drZ (X 0 3)))) hM7 ((hOX.fld0 (by decide) (by decide)).fld0 (by decide) (by decide)) (drN (drZ (X 0 3)) (nn X)) (by omega) (-1)) z_X4_bears ck4 (by rfl) (by rfl) ml_X4_116 (by rfl) (Nat.le_of_ble_eq_true rfl) ⟨Nat.le_of_ble_eq_true rfl, Nat.le_of_ble_eq_true rfl⟩ dX4_rumours_84 (fun r10 σ10 w10 => ?_)
              obtain ⟨er10, hM10, hF10⟩ := w10
              rw [bear_c] at hM10
              refine gx_st (st' := [.int ((up2 (up2 X 0 3 (drZ (X 0 3))) 0 3 (drZ (drZ (X 0 3)))) 6 (drN (drZ (X 0 3)) (nn X)))]) (by rw [er10]) ?_
              refine gx_pop C (by rfl) dX4_rumours_87 ?_
              refine gx_iinc (v := nI (i + 1)) (lv2 := [(2, .int (nI (i + 1))), (4, .int (nI (drN (drZ (drZ (X 0 3))) (nn X)))), (3, .int (nI (drN (drZ (X 0 3)) (nn X)))), (0, .ref (eA E 49)), (1, .int (nI t))]) C dX4_rumours_88 (by rfl) (by exact nI_p1 _) (by decide) rfl ?_
              refine gx_goto (tgt := 38) C dX4_rumours_91 (by decide) ?_
              refine gx_sub [3, 4, 0] (lv' := [(0, .ref (eA E 49)), (1, .int (nI t)), (2, .int (nI (i + 1)))]) rfl ?_
              exact ih38 (i + 1) (by omega) (by omega) σ10 (by rw [ruF, ← eX, ruS, ruQ, if_pos (Eq.symm (by assumption))]; exact hM10) ((((hFt).f1 hF6 (by decide)).f1 hF7 (by decide)).f1 hF10 (by decide))
      refine gx_sub [1, 2, 0] (lv' := [(0, .ref (eA E 49)), (1, .int (nI t)), (2, .int 0)]) rfl ?_
      refine gx_lv (lv' := [(0, .ref (eA E 49)), (1, .int (nI t)), (2, .int (nI 0))]) (by rfl) ?_
      exact loop38 (t + 1) 0 (by omega) (by omega) σ hM F3.rf
    ·
      have hk0 : K 0 0 = 0 := by rw [hn]; exact h3
      refine gx_aload_n C dX4_rumours_29 (by rfl) (by rfl) ?_
      refine gx_ldc C kc_X4_67 dX4_rumours_30 ?_
      refine gx_callVI (As := [.int (-1000005)]) (rest := []) C (c_X4_finds E σ (-1000005) 4 (by decide) (by decide)) z_X4_finds ck4 (by rfl) (by rfl) ml_X4_39 (by rfl) (Nat.le_of_ble_eq_true rfl) ⟨Nat.le_of_ble_eq_true rfl, Nat.le_of_ble_eq_true rfl⟩ dX4_rumours_32 (fun r11 σ11 w11 => ?_)
      obtain ⟨u1, u2⟩ := w11; rw [u1, u2]; clear u1 u2
      exact gx_iret C hr hlk rfl (fim_fd hR (by decide) (by simp only [opRumours, bey, ful, knd, non, sta, mis, siz] <;> grind)) dX4_rumours_35
  ·
    have h2 := b2_z.mp h2
    refine gx_aload_n C dX4_rumours_12 (by rfl) (by rfl) ?_
    refine gx_ldc C kc_X4_37 dX4_rumours_13 ?_
    refine gx_callVI (As := [.int (-1000001)]) (rest := []) C (c_X4_finds E σ (-1000001) 0 (by decide) (by decide)) z_X4_finds ck4 (by rfl) (by rfl) ml_X4_39 (by rfl) (Nat.le_of_ble_eq_true rfl) ⟨Nat.le_of_ble_eq_true rfl, Nat.le_of_ble_eq_true rfl⟩ dX4_rumours_15 (fun r14 σ14 w14 => ?_)
    obtain ⟨u1, u2⟩ := w14; rw [u1, u2]; clear u1 u2
    exact gx_iret C hr hlk rfl (fim_fd hR (by decide) (by simp only [opRumours, bey, ful, knd, non, sta, mis, siz] <;> grind)) dX4_rumours_18
theorem b_255 : ∀ q, q < 32 → bt 255 q = decide (q < 8) := by decide +kernel
theorem sh_ush (x : Int32) {i : Nat} (h : i < 4) : (x >>> (nI (8 * i) &&& 31)) &&& 255 = ush x (8 * nI i) &&& 255 := by
  have e : 8 * nI i = nI (8 * i) := pk_mul 8 i
  unfold ush
  rw [e]
  apply b_ext
  intro q hq
  rw [b_and, b_and, b_sshr (8 * i) (by omega) x hq, b_ushr (8 * i) (by omega), b_255 q hq]
  by_cases h8 : q < 8
  · rw [if_pos (by omega)]
  · simp [h8]
theorem fim_tp {σ σ' K L : Mm} {g : Int32} {F : Nat → Int32} {tl tl' : Int32} {Bt Bt' W Z : Nat → Int32} {N : Mm} {v : Int32} {x : Int32 × As} (h : MR σ (K, L, g, F, tl, Bt, W, Z, N)) (he : ∀ i, ¬ i = 49 → ¬ i = 55 → σ' i = σ i) (h0 : σ' 49 4 = σ 49 4) (h1 : σ' 49 7 = tl') (h2 : ∃ t, t ≤ 120 ∧ tl' = nI t) (h3 : ∀ i, i < 120 → σ' 55 i = Bt' i) (hx : x = (v, (K, L, g, F, tl', Bt', W, Z, N))) : v = x.1 ∧ MR σ' x.2 ∧ FM σ σ' := by
  subst hx
  exact ⟨rfl, h.tape he h0 h1 h2 h3, fun i hi => he i (by omega) (by omega)⟩
set_option maxHeartbeats 4000000 in
set_option maxRecDepth 100000 in
theorem c_X4_feed (E : En) (σ : Mm) (K L : Mm) (g : Int32) (F : Nat → Int32) (tl : Int32) (Bt W Z : Nat → Int32) (N : Mm) (hR : MR σ (K, L, g, F, tl, Bt, W, Z, N)) (x n : Int32) : CtI E yX4_feed cX4_feed 4 (some .int) 1 25 [.ref (eA E 49), .int x, .int n] σ (fun rr σ2 => rr = (opFeed (K, L, g, F, tl, Bt, W, Z, N) x n).1 ∧ MR σ2 (opFeed (K, L, g, F, tl, Bt, W, Z, N) x n).2 ∧ FM σ σ2) := by
  obtain ⟨⟨hM, hO⟩, ⟨hg1, hg2, hg3⟩, hFd, ⟨⟨htl, htl2⟩, hBt⟩, hSh⟩ := id hR
  obtain ⟨⟨hn, h12⟩, hpp, hlw, hsp, hz0⟩ := id hO
  obtain ⟨t0, ht1, ht0⟩ := htl2
  refine CtI.of (by decide +kernel) (Nat.le_of_ble_eq_true rfl) (fun p e0 s m below meth c C hr hlk => ?_)
  refine gx_lv (lv' := [(0, .ref (eA E 49)), (1, .int x), (2, .int n)]) rfl ?_
  refine gx_iload_n C dX4_feed_0 (by rfl) (by rfl) ?_
  refine gx_i2l C dX4_feed_1 ?_
  refine gx_lconst (v := 1) C dX4_feed_2 (by decide) ?_
  refine gx_ldc2 C kl_X4_65 dX4_feed_3 ?_
  refine gx_callSI (As := [.long n.toInt64, .long 1, .long 4]) (rest := []) C (c_X4_in E σ n 1 4 n.toInt64 1 4 (by first | rfl | decide) (by first | rfl | decide) (by first | rfl | decide)) z_X4_in (by rfl) ml_X4_45 (by rfl) (Nat.le_of_ble_eq_true rfl) ⟨Nat.le_of_ble_eq_true rfl, Nat.le_of_ble_eq_true rfl⟩ dX4_feed_6 (fun r1 σ1 w1 => ?_)
  obtain ⟨u1, u2⟩ := w1; rw [u1, u2]; clear u1 u2
  refine gx_if_ne (tgt := 19) C dX4_feed_9 (by decide) (fun h2 => ?_) (fun h2 => ?_)
  ·
    have h2 := b2_nz.mp h2
    obtain ⟨t, ht, rfl⟩ := i_nat (M := 4) (n := 4) (by decide) ⟨Int32.le_trans (by decide) h2.1, h2.2⟩
    have ct : (nI t).toNatClampNeg = t := nI_clamp (by omega)
    refine gx_aload_n C dX4_feed_19 (by rfl) (by rfl) ?_
    refine gx_geti (k := 7) C ck4 (by rfl) (by rfl) (by decide) fl_X4_198 dX4_feed_20 ?_
    refine gx_st (st' := [.int (nI t0)]) (by rw [htl, ht0]) ?_
    refine gx_iload_n C dX4_feed_23 (by rfl) (by rfl) ?_
    refine gx_iadd C dX4_feed_24 ?_
    refine gx_st (st' := [.int (nI (t0 + t))]) (by rw [show (nI t0) + (nI t) = nI (t0 + t) from nI_add t0 t]) ?_
    refine gx_bipush (v := 120) C dX4_feed_25 (by decide) ?_
    refine gx_icmp_le (tgt := 37) C dX4_feed_27 (by decide) (fun h3 => ?_) (fun h3 => ?_)
    ·
      have h3 := (nI_leI (a := (t0 + t)) (b := 120) (by omega) (by omega)).mp h3
      refine gx_iload_n C dX4_feed_37 (by rfl) (by rfl) ?_
      refine gx_iconst (v := 1) C dX4_feed_38 (by decide) ?_
      refine gx_isub C dX4_feed_39 ?_
      refine gx_istore_n (lv2 := [(3, .int ((nI t) - 1)), (0, .ref (eA E 49)), (1, .int x), (2, .int (nI t))]) C dX4_feed_40 (by rfl) (by decide) rfl ?_
      have loop41 : ∀ (kf j : Nat), j ≤ t → t < j + kf → ∀ τ : Mm, (τ 49 7 = nI (t0 + j)) → (∃ Bc, (∀ q, q < 120 → τ 55 q = Bc q) ∧ fdB x (t - j) (t0 + j) Bc = fdB x t t0 Bt) → (∀ q, ¬ q = 49 → ¬ q = 55 → τ q = σ q) → (τ 49 4 = σ 49 4) → Gx E p e0 (rmF 1 25) s m ([.ref (eA E 49), .int x, .int (nI t)] : List Value).toArray below meth c (MQ below (va_Qi (fun rr σ2 => rr = (opFeed (K, L, g, F, tl, Bt, W, Z, N) x (nI t)).1 ∧ MR σ2 (opFeed (K, L, g, F, tl, Bt, W, Z, N) x (nI t)).2 ∧ FM σ σ2) (WQ E) (AA E s.heap.size)) ([.ref (eA E 49), .int x, .int (nI t)] : List Value).toArray s 0 0 (AA E s.heap.size)) 4 41 [(0, .ref (eA E 49)), (1, .int x), (2, .int (nI t)), (3, .int (nI (t - j) - 1))] [] τ := by
        intro kf
        induction kf with
        | zero => intro j q1 q2; exact absurd q2 (by omega)
        | succ kf ih41 =>
          intro j a41 b41 τ hl1 hl2 hl3 hl4
          refine gx_iload_n C dX4_feed_41 (by rfl) (by rfl) ?_
          refine gx_if_lt (tgt := 80) C dX4_feed_42 (by decide) (fun h4 => ?_) (fun h4 => ?_)
          ·
            have hjt : j = t := fd_end (by omega) (by omega) h4
            refine gx_aload_n C dX4_feed_80 (by rfl) (by rfl) ?_
            refine gx_geti (k := 7) C ck4 (by rfl) (by rfl) (by decide) fl_X4_198 dX4_feed_81 ?_
            refine gx_st (st' := [.int (nI (t0 + j))]) (by rw [hl1]) ?_
            exact gx_iret C hr hlk rfl (by obtain ⟨Bc, y1, y2⟩ := hl2; subst hjt; rw [Nat.sub_self, fdB] at y2; subst y2; exact fim_tp hR hl3 hl4 hl1 ⟨_, by omega, rfl⟩ y1 (by simp only [opFeed, ct, ht0, show nI t0 + nI j = nI (t0 + j) from nI_add t0 j, nI_clamp (show t0 < 2 ^ 31 by omega)]; rw [if_pos (by grind), if_neg (fun q => Int32.not_le.mpr q (by assumption))])) dX4_feed_84
          ·
            have hjt : j < t := fd_go (by omega) (by omega) h4
            refine gx_lv (lv' := [(0, .ref (eA E 49)), (1, .int x), (2, .int (nI t)), (3, .int (nI (t - (j + 1))))]) (by rw [show nI (t - j) - 1 = nI (t - (j + 1)) from by rw [show t - j = (t - (j + 1)) + 1 by omega]; exact nI_pred _]) ?_
            refine gx_aload_n C dX4_feed_45 (by rfl) (by rfl) ?_
            refine gx_getr (j := 55) (k := 6) C ck4 (by rfl) (by rfl) (by decide) fl_X4_25 dX4_feed_46 ?_
            refine gx_aload_n C dX4_feed_49 (by rfl) (by rfl) ?_
            refine gx_geti (k := 7) C ck4 (by rfl) (by rfl) (by decide) fl_X4_198 dX4_feed_50 ?_
            refine gx_st (st' := [.int (nI (t0 + j)), .ref (eA E 55)]) (by rw [hl1]) ?_
            refine gx_iload_n C dX4_feed_53 (by rfl) (by rfl) ?_
            refine gx_bipush (v := 8) C dX4_feed_54 (by decide) ?_
            refine gx_iload_n C dX4_feed_56 (by rfl) (by rfl) ?_
            refine gx_imul C dX4_feed_57 ?_
            refine gx_st (st' := [.int (nI (8 * (t - (j + 1)))), .int x, .int (nI (t0 + j)), .ref (eA E 55)]) (by rw [show 8 * (nI (t - (j + 1))) = nI (8 * (t - (j + 1))) from pk_mul 8 (t - (j + 1))]) ?_
            refine gx_ishr C dX4_feed_58 ?_
            refine gx_sipush (v := 255) C dX4_feed_59 (by decide) ?_
            refine gx_iand C dX4_feed_62 ?_
            refine gx_iastN (k := (t0 + j)) C (by rfl) rfl (by omega) (by decide) dX4_feed_63 ?_
            refine gx_aload_n C dX4_feed_64 (by rfl) (by rfl) ?_
            refine gx_dup C (by rfl) dX4_feed_65 ?_
            refine gx_geti (k := 7) C ck4 (by rfl) (by rfl) (by decide) fl_X4_198 dX4_feed_66 ?_
            refine gx_st (st' := [.int (nI (t0 + j)), .ref (eA E 49)]) (by rw [up2_o (show (49 : Nat) ≠ 55 by omega), hl1]) ?_
            refine gx_iconst (v := 1) C dX4_feed_69 (by decide) ?_
            refine gx_iadd C dX4_feed_70 ?_
            refine gx_st (st' := [.int (nI (t0 + j + 1)), .ref (eA E 49)]) (by rw [show (nI (t0 + j)) + 1 = nI (t0 + j + 1) from nI_add (t0 + j) 1]) ?_
            refine gx_puti (k := 7) C ck4 (by rfl) (by rfl) (by decide) (by rfl) rfl rfl fl_X4_198 dX4_feed_71 ?_
            refine gx_iinc (v := (nI (t - (j + 1))) + (-1)) (lv2 := [(3, .int ((nI (t - (j + 1))) + (-1))), (0, .ref (eA E 49)), (1, .int x), (2, .int (nI t))]) C dX4_feed_74 (by rfl) rfl (by decide) rfl ?_
            refine gx_goto (tgt := 41) C dX4_feed_77 (by decide) ?_
            refine gx_sub [1, 2, 3, 0] (lv' := [(0, .ref (eA E 49)), (1, .int x), (2, .int (nI t)), (3, .int ((nI (t - (j + 1))) + (-1)))]) rfl ?_
            refine gx_lv (lv' := [(0, .ref (eA E 49)), (1, .int x), (2, .int (nI t)), (3, .int (nI (t - (j + 1)) - 1))]) (by rw [add_m1]) ?_
            exact ih41 (j + 1) (by omega) (by omega) (up2 (up2 τ 55 (t0 + j) ((x >>> ((nI (8 * (t - (j + 1)))) &&& 31)) &&& 255)) 49 7 (nI (t0 + j + 1))) (by rw [up2_s, pk_us]; rfl) (by obtain ⟨Bc, y1, y2⟩ := hl2; exact ⟨upd Bc (t0 + j) (ush x (8 * nI (t - (j + 1))) &&& 255), fun q hq => by rw [up2_o (show (55 : Nat) ≠ 49 by omega), up2_s]; exact (if hh : q = t0 + j then by rw [hh, pk_us, pk_us, sh_ush x (by omega)] else by rw [pk_un hh, pk_un hh]; exact y1 q hq), by rw [← y2, show t - j = (t - (j + 1)) + 1 by omega, fdB]; rfl⟩) (fun q y1 y2 => by rw [up2_o y1, up2_o y2]; exact hl3 q y1 y2) (by rw [up2_s, pk_un (by omega), up2_o (by omega)]; exact hl4)
      refine gx_sub [1, 2, 3, 0] (lv' := [(0, .ref (eA E 49)), (1, .int x), (2, .int (nI t)), (3, .int ((nI t) - 1))]) rfl ?_
      refine gx_lv (lv' := [(0, .ref (eA E 49)), (1, .int x), (2, .int (nI t)), (3, .int (nI (t - 0) - 1))]) (by rw [Nat.sub_zero]) ?_
      exact loop41 (t + 1) 0 (by omega) (by omega) σ (by rw [htl, ht0]; rfl) (⟨Bt, hBt, by rw [Nat.sub_zero, Nat.add_zero]⟩) (fun q _ _ => rfl) rfl
    ·
      have h3 := (not_congr (nI_leI (a := (t0 + t)) (b := 120) (by omega) (by omega))).mp h3
      refine gx_aload_n C dX4_feed_30 (by rfl) (by rfl) ?_
      refine gx_ldc C kc_X4_97 dX4_feed_31 ?_
      refine gx_callVI (As := [.int (-1000002)]) (rest := []) C (c_X4_finds E σ (-1000002) 1 (by decide) (by decide)) z_X4_finds ck4 (by rfl) (by rfl) ml_X4_39 (by rfl) (Nat.le_of_ble_eq_true rfl) ⟨Nat.le_of_ble_eq_true rfl, Nat.le_of_ble_eq_true rfl⟩ dX4_feed_33 (fun r5 σ5 w5 => ?_)
      obtain ⟨u1, u2⟩ := w5; rw [u1, u2]; clear u1 u2
      exact gx_iret C hr hlk rfl (fim_fd hR (by decide) (by first | (simp only [opFeed, ct, bey, ful, ht0, show nI t0 + nI t = nI (t0 + t) from nI_add t0 t] <;> grind) | (simp only [opFeed, bey, ful] <;> grind))) dX4_feed_36
  ·
    have h2 := b2_z.mp h2
    refine gx_aload_n C dX4_feed_12 (by rfl) (by rfl) ?_
    refine gx_ldc C kc_X4_37 dX4_feed_13 ?_
    refine gx_callVI (As := [.int (-1000001)]) (rest := []) C (c_X4_finds E σ (-1000001) 0 (by decide) (by decide)) z_X4_finds ck4 (by rfl) (by rfl) ml_X4_39 (by rfl) (Nat.le_of_ble_eq_true rfl) ⟨Nat.le_of_ble_eq_true rfl, Nat.le_of_ble_eq_true rfl⟩ dX4_feed_15 (fun r6 σ6 w6 => ?_)
    obtain ⟨u1, u2⟩ := w6; rw [u1, u2]; clear u1 u2
    exact gx_iret C hr hlk rfl (fim_fd hR (by decide) (by first | (simp only [opFeed, ct, bey, ful, ht0, show nI t0 + nI t = nI (t0 + t) from nI_add t0 t] <;> grind) | (simp only [opFeed, bey, ful] <;> grind))) dX4_feed_18
theorem MR.shn {σ σ' K L : Mm} {g : Int32} {F : Nat → Int32} {tl : Int32} {Bt W Z : Nat → Int32} {N N' : Mm} (h : MR σ (K, L, g, F, tl, Bt, W, Z, N)) (he : ∀ i, ¬ i = 58 → σ' i = σ i) (h3 : ∀ s, s < 4 → ∀ i, i < 40 → σ' 58 (40 * s + i) = N' s i) : MR σ' (K, L, g, F, tl, Bt, W, Z, N') := by
  obtain ⟨⟨a1, a2⟩, ⟨b1, b2, b3⟩, c, ⟨⟨d1, d2⟩, d3⟩, s⟩ := h
  refine ⟨⟨by rw [vM_o (he 50 (by omega))]; exact a1, a2⟩, ⟨by rw [he 49 (by omega)]; exact b1, b2, fun q => ⟨by rw [vM_o (he 51 (by omega))]; exact (b3 q).1, (b3 q).2⟩⟩, fun q hq => by rw [he 54 (by omega)]; exact c q hq, ⟨⟨by rw [he 49 (by omega)]; exact d1, d2⟩, fun i hi => by rw [he 55 (by omega)]; exact d3 i hi⟩, fun q hq => ?_⟩
  obtain ⟨s1, s2, s3⟩ := s q hq
  rw [he 56 (by omega), he 57 (by omega)]
  exact ⟨s1, s2, h3 q hq⟩
theorem fim_nm {σ σ' K L : Mm} {g : Int32} {F : Nat → Int32} {tl : Int32} {Bt W Z : Nat → Int32} {N N' : Mm} {v : Int32} {x : Int32 × As} (h : MR σ (K, L, g, F, tl, Bt, W, Z, N)) (he : ∀ i, ¬ i = 58 → σ' i = σ i) (h3 : ∀ s, s < 4 → ∀ i, i < 40 → σ' 58 (40 * s + i) = N' s i) (hx : x = (v, (K, L, g, F, tl, Bt, W, Z, N'))) : v = x.1 ∧ MR σ' x.2 ∧ FM σ σ' := by
  subst hx
  exact ⟨rfl, h.shn he h3, fun i hi => he i (by omega)⟩
theorem fim_sh {σ σ' K L : Mm} {g : Int32} {F : Nat → Int32} {tl : Int32} {Bt W Z : Nat → Int32} {N : Mm} {k : Nat} {b n z : Int32} {x : Int32 × As} (h : MR σ (K, L, g, F, tl, Bt, W, Z, N)) (hk : k < 4) (he : ∀ i, ¬ i = 58 → σ' i = up2 (up2 σ 56 k b) 57 k z i) (hb : b = 0 ∨ b = 8 ∨ b = 16 ∨ b = 32) (hz : z = if b = 0 then 0 else n) (hn : 0 ≤ n ∧ n ≤ 40) (h2 : ∀ q, q < 40 → σ' 58 (40 * k + q) = 0) (h3 : ∀ q, (q < 40 * k ∨ 40 * k + 40 ≤ q) → σ' 58 q = σ 58 q) (hx : x = ((if b = 0 then 0 else n), (K, L, g, F, tl, Bt, upd W k b, upd Z k (if b = 0 then 0 else n), rw2 N k (fun _ => 0)))) : z = x.1 ∧ MR σ' x.2 ∧ FM σ σ' := by
  subst hx
  rw [← hz]
  have e : ∀ i, ¬ i = 56 → ¬ i = 57 → ¬ i = 58 → σ' i = σ i := fun i q1 q2 q3 => by rw [he i q3, up2_o q2, up2_o q1]
  have hz2 : ∃ z0, z0 ≤ 40 ∧ z = nI z0 := by
    rw [hz]
    split
    · exact ⟨0, by omega, rfl⟩
    · exact i_nat (M := 40) (n := 40) (by decide) hn
  refine ⟨rfl, ?_, fun i hi => e i (by omega) (by omega) (by omega)⟩
  obtain ⟨⟨a1, a2⟩, ⟨b1, b2, b3⟩, c, ⟨⟨d1, d2⟩, d3⟩, s⟩ := h
  refine ⟨⟨by rw [vM_o (e 50 (by omega) (by omega) (by omega))]; exact a1, a2⟩, ⟨by rw [e 49 (by omega) (by omega) (by omega)]; exact b1, b2, fun q => ⟨by rw [vM_o (e 51 (by omega) (by omega) (by omega))]; exact (b3 q).1, (b3 q).2⟩⟩, fun q hq => by rw [e 54 (by omega) (by omega) (by omega)]; exact c q hq, ⟨⟨by rw [e 49 (by omega) (by omega) (by omega)]; exact d1, d2⟩, fun i hi => by rw [e 55 (by omega) (by omega) (by omega)]; exact d3 i hi⟩, fun q hq => ?_⟩
  obtain ⟨s1, s2, s3⟩ := s q hq
  rw [he 56 (by omega), up2_o (by omega), up2_s, he 57 (by omega), up2_s, up2_o (by omega)]
  by_cases hqk : q = k
  · subst hqk
    rw [rw2_s, pk_us, pk_us, pk_us, pk_us]
    exact ⟨⟨rfl, hb⟩, ⟨rfl, hz2⟩, h2⟩
  · rw [rw2_o hqk, pk_un hqk, pk_un hqk, pk_un hqk, pk_un hqk]
    exact ⟨s1, s2, fun i hi => by rw [h3 _ (by omega)]; exact s3 i hi⟩
set_option maxHeartbeats 4000000 in
set_option maxRecDepth 100000 in
theorem c_X4_sheet (E : En) (σ : Mm) (K L : Mm) (g : Int32) (F : Nat → Int32) (tl : Int32) (Bt W Z : Nat → Int32) (N : Mm) (hR : MR σ (K, L, g, F, tl, Bt, W, Z, N)) (x b n : Int32) : CtI E yX4_sheet cX4_sheet 5 (some .int) 2 45 [.ref (eA E 49), .int x, .int b, .int n] σ (fun rr σ2 => rr = (opSheet (K, L, g, F, tl, Bt, W, Z, N) x b n).1 ∧ MR σ2 (opSheet (K, L, g, F, tl, Bt, W, Z, N) x b n).2 ∧ FM σ σ2) := by
  obtain ⟨⟨hM, hO⟩, ⟨hg1, hg2, hg3⟩, hFd, ⟨⟨htl, htl2⟩, hBt⟩, hSh⟩ := id hR
  obtain ⟨⟨hn, h12⟩, hpp, hlw, hsp, hz0⟩ := id hO
  refine CtI.of (by decide +kernel) (Nat.le_of_ble_eq_true rfl) (fun p e0 s m below meth c C hr hlk => ?_)
  refine gx_lv (lv' := [(0, .ref (eA E 49)), (1, .int x), (2, .int b), (3, .int n)]) rfl ?_
  refine gx_iload_n C dX4_sheet_0 (by rfl) (by rfl) ?_
  refine gx_callSI (As := [.int x]) (rest := []) C (c_X4_isSheet E σ x) z_X4_isSheet (by rfl) ml_X4_306 (by rfl) (Nat.le_of_ble_eq_true rfl) ⟨Nat.le_of_ble_eq_true rfl, Nat.le_of_ble_eq_true rfl⟩ dX4_sheet_1 (fun r1 σ1 w1 => ?_)
  obtain ⟨u1, u2⟩ := w1; rw [u1, u2]; clear u1 u2
  refine gx_if_eq (tgt := 29) C dX4_sheet_4 (by decide) (fun h2 => ?_) (fun h2 => ?_)
  ·
    have h2 := b2_z.mp h2
    refine gx_aload_n C dX4_sheet_29 (by rfl) (by rfl) ?_
    refine gx_ldc C kc_X4_37 dX4_sheet_30 ?_
    refine gx_callVI (As := [.int (-1000001)]) (rest := []) C (c_X4_finds E σ (-1000001) 0 (by decide) (by decide)) z_X4_finds ck4 (by rfl) (by rfl) ml_X4_39 (by rfl) (Nat.le_of_ble_eq_true rfl) ⟨Nat.le_of_ble_eq_true rfl, Nat.le_of_ble_eq_true rfl⟩ dX4_sheet_32 (fun r3 σ3 w3 => ?_)
    obtain ⟨u1, u2⟩ := w3; rw [u1, u2]; clear u1 u2
    exact gx_iret C hr hlk rfl (fim_fd hR (by decide) (by simp only [opSheet, bey, ful, knd, non, sta, mis, siz] <;> grind)) dX4_sheet_35
  ·
    have h2 := b2_nz.mp h2
    obtain ⟨k, hk, rfl⟩ := s_nat h2
    have ck : (nI k).toNatClampNeg = k := nI_clamp (by omega)
    obtain ⟨⟨hw1, hw2⟩, ⟨hz1, z, hz2, hz3⟩, hnm⟩ := hSh k (by omega)
    have cz : (Z k).toNatClampNeg = z := by rw [hz3]; exact nI_clamp (by omega)
    refine gx_iload_n C dX4_sheet_7 (by rfl) (by rfl) ?_
    refine gx_if_eq (tgt := 36) C dX4_sheet_8 (by decide) (fun h4 => ?_) (fun h4 => ?_)
    ·
      refine gx_iload_n C dX4_sheet_36 (by rfl) (by rfl) ?_
      refine gx_if_ge (tgt := 47) C dX4_sheet_37 (by decide) (fun h5 => ?_) (fun h5 => ?_)
      ·
        have gh5 := Int32.not_lt.mpr h5
        refine gx_iload_n C dX4_sheet_47 (by rfl) (by rfl) ?_
        refine gx_bipush (v := 40) C dX4_sheet_48 (by decide) ?_
        refine gx_icmp_le (tgt := 60) C dX4_sheet_50 (by decide) (fun h6 => ?_) (fun h6 => ?_)
        ·
          have gh6 := Int32.not_lt.mpr h6
          refine gx_aload_n C dX4_sheet_60 (by rfl) (by rfl) ?_
          refine gx_getr (j := 56) (k := 13) C ck4 (by rfl) (by rfl) (by decide) fl_X4_28 dX4_sheet_61 ?_
          refine gx_iload_n C dX4_sheet_64 (by rfl) (by rfl) ?_
          refine gx_iload_n C dX4_sheet_65 (by rfl) (by rfl) ?_
          refine gx_iastN (k := k) C (by rfl) rfl (by omega) (by decide) dX4_sheet_66 ?_
          refine gx_aload_n C dX4_sheet_67 (by rfl) (by rfl) ?_
          refine gx_getr (j := 57) (k := 14) C ck4 (by rfl) (by rfl) (by decide) fl_X4_31 dX4_sheet_68 ?_
          refine gx_iload_n C dX4_sheet_71 (by rfl) (by rfl) ?_
          refine gx_iload_n C dX4_sheet_72 (by rfl) (by rfl) ?_
          refine gx_if_ne (tgt := 80) C dX4_sheet_73 (by decide) (fun h7 => ?_) (fun h7 => ?_)
          ·
            refine gx_iload_n C dX4_sheet_80 (by rfl) (by rfl) ?_
            refine gx_iastN (k := k) C (by rfl) rfl (by omega) (by decide) dX4_sheet_81 ?_
            refine gx_iconst (v := 0) C dX4_sheet_82 (by decide) ?_
            refine gx_istore (lv2 := [(4, .int 0), (0, .ref (eA E 49)), (1, .int (nI k)), (2, .int b), (3, .int n)]) C dX4_sheet_83 (by decide) rfl ?_
            have loop85 : ∀ (kf i : Nat), i ≤ 40 → 40 < i + kf → ∀ τ : Mm, (∀ q, ¬ q = 58 → τ q = up2 (up2 σ 56 k b) 57 k n q) → (∀ q, q < i → τ 58 (40 * k + q) = 0) → (∀ q, (q < 40 * k ∨ 40 * k + 40 ≤ q) → τ 58 q = σ 58 q) → Gx E p e0 (rmF 2 45) s m ([.ref (eA E 49), .int (nI k), .int b, .int n] : List Value).toArray below meth c (MQ below (va_Qi (fun rr σ2 => rr = (opSheet (K, L, g, F, tl, Bt, W, Z, N) (nI k) b n).1 ∧ MR σ2 (opSheet (K, L, g, F, tl, Bt, W, Z, N) (nI k) b n).2 ∧ FM σ σ2) (WQ E) (AA E s.heap.size)) ([.ref (eA E 49), .int (nI k), .int b, .int n] : List Value).toArray s 0 0 (AA E s.heap.size)) 5 85 [(0, .ref (eA E 49)), (1, .int (nI k)), (2, .int b), (3, .int n), (4, .int (nI i))] [] τ := by
              intro kf
              induction kf with
              | zero => intro i q1 q2; exact absurd q2 (by omega)
              | succ kf ih85 =>
                intro i a85 b85 τ bh1 bh2 bh3
                refine gx_iload C dX4_sheet_85 (by rfl) ?_
                refine gx_bipush (v := 40) C dX4_sheet_87 (by decide) ?_
                refine gx_icmp_ge (tgt := 111) C dX4_sheet_89 (by decide) (fun h8 => ?_) (fun h8 => ?_)
                ·
                  have h8 := (nI_leI (a := 40) (b := i) (by omega) (by omega)).mp h8
                  refine gx_aload_n C dX4_sheet_111 (by rfl) (by rfl) ?_
                  refine gx_getr (j := 57) (k := 14) C ck4 (by rfl) (by rfl) (by decide) fl_X4_31 dX4_sheet_112 ?_
                  refine gx_iload_n C dX4_sheet_115 (by rfl) (by rfl) ?_
                  refine gx_ialdN (k := k) C (by rfl) rfl (by omega) (by decide) dX4_sheet_116 ?_
                  refine gx_st (st' := [.int n]) (by rw [bh1 57 (by decide), up2_s, pk_us]) ?_
                  exact gx_iret C hr hlk rfl (fim_sh (n := n) hR hk bh1 (by grind) (by grind) (by grind) (fun q hq => bh2 q (by omega)) bh3 (by simp only [opSheet, ck, bey, siz]; rw [if_pos (by grind), if_neg (by grind), if_neg (by grind)])) dX4_sheet_117
                ·
                  have h8 := (not_congr (nI_leI (a := 40) (b := i) (by omega) (by omega))).mp h8
                  refine gx_aload_n C dX4_sheet_92 (by rfl) (by rfl) ?_
                  refine gx_getr (j := 58) (k := 15) C ck4 (by rfl) (by rfl) (by decide) fl_X4_34 dX4_sheet_93 ?_
                  refine gx_bipush (v := 40) C dX4_sheet_96 (by decide) ?_
                  refine gx_iload_n C dX4_sheet_98 (by rfl) (by rfl) ?_
                  refine gx_imul C dX4_sheet_99 ?_
                  refine gx_st (st' := [.int (nI (40 * k)), .ref (eA E 58)]) (by rw [show 40 * (nI k) = nI (40 * k) from pk_mul 40 k]) ?_
                  refine gx_iload C dX4_sheet_100 (by rfl) ?_
                  refine gx_iadd C dX4_sheet_102 ?_
                  refine gx_st (st' := [.int (nI (40 * k + i)), .ref (eA E 58)]) (by rw [show (nI (40 * k)) + (nI i) = nI (40 * k + i) from nI_add (40 * k) i]) ?_
                  refine gx_iconst (v := 0) C dX4_sheet_103 (by decide) ?_
                  refine gx_iastN (k := (40 * k + i)) C (by rfl) rfl (by omega) (by decide) dX4_sheet_104 ?_
                  refine gx_iinc (v := nI (i + 1)) (lv2 := [(4, .int (nI (i + 1))), (0, .ref (eA E 49)), (1, .int (nI k)), (2, .int b), (3, .int n)]) C dX4_sheet_105 (by rfl) (by exact nI_p1 _) (by decide) rfl ?_
                  refine gx_goto (tgt := 85) C dX4_sheet_108 (by decide) ?_
                  refine gx_sub [1, 2, 3, 4, 0] (lv' := [(0, .ref (eA E 49)), (1, .int (nI k)), (2, .int b), (3, .int n), (4, .int (nI (i + 1)))]) rfl ?_
                  exact ih85 (i + 1) (by omega) (by omega) (up2 τ 58 (40 * k + i) 0) (fun q y1 => by rw [up2_o y1]; exact bh1 q y1) (fun q hq => by rw [up2_s]; exact (if hh : q = i then by rw [hh, pk_us] else by rw [pk_un (by omega)]; exact bh2 q (by omega))) (fun q y1 => by rw [up2_s, pk_un (by omega)]; exact bh3 q y1)
            refine gx_sub [1, 2, 3, 4, 0] (lv' := [(0, .ref (eA E 49)), (1, .int (nI k)), (2, .int b), (3, .int n), (4, .int 0)]) rfl ?_
            refine gx_lv (lv' := [(0, .ref (eA E 49)), (1, .int (nI k)), (2, .int b), (3, .int n), (4, .int (nI 0))]) (by rfl) ?_
            exact loop85 (40 + 1) 0 (by omega) (by omega) (up2 (up2 σ 56 k b) 57 k n) (fun q _ => rfl) (fun q hq => absurd hq (by omega)) (fun q _ => by rw [up2_o (by omega), up2_o (by omega)])
          ·
            refine gx_iconst (v := 0) C dX4_sheet_76 (by decide) ?_
            refine gx_goto (tgt := 81) C dX4_sheet_77 (by decide) ?_
            refine gx_iastN (k := k) C (by rfl) rfl (by omega) (by decide) dX4_sheet_81 ?_
            refine gx_iconst (v := 0) C dX4_sheet_82 (by decide) ?_
            refine gx_istore (lv2 := [(4, .int 0), (0, .ref (eA E 49)), (1, .int (nI k)), (2, .int b), (3, .int n)]) C dX4_sheet_83 (by decide) rfl ?_
            have loop85 : ∀ (kf i : Nat), i ≤ 40 → 40 < i + kf → ∀ τ : Mm, (∀ q, ¬ q = 58 → τ q = up2 (up2 σ 56 k b) 57 k 0 q) → (∀ q, q < i → τ 58 (40 * k + q) = 0) → (∀ q, (q < 40 * k ∨ 40 * k + 40 ≤ q) → τ 58 q = σ 58 q) → Gx E p e0 (rmF 2 45) s m ([.ref (eA E 49), .int (nI k), .int b, .int n] : List Value).toArray below meth c (MQ below (va_Qi (fun rr σ2 => rr = (opSheet (K, L, g, F, tl, Bt, W, Z, N) (nI k) b n).1 ∧ MR σ2 (opSheet (K, L, g, F, tl, Bt, W, Z, N) (nI k) b n).2 ∧ FM σ σ2) (WQ E) (AA E s.heap.size)) ([.ref (eA E 49), .int (nI k), .int b, .int n] : List Value).toArray s 0 0 (AA E s.heap.size)) 5 85 [(0, .ref (eA E 49)), (1, .int (nI k)), (2, .int b), (3, .int n), (4, .int (nI i))] [] τ := by
              intro kf
              induction kf with
              | zero => intro i q1 q2; exact absurd q2 (by omega)
              | succ kf ih85 =>
                intro i a85 b85 τ bh1 bh2 bh3
                refine gx_iload C dX4_sheet_85 (by rfl) ?_
                refine gx_bipush (v := 40) C dX4_sheet_87 (by decide) ?_
                refine gx_icmp_ge (tgt := 111) C dX4_sheet_89 (by decide) (fun h9 => ?_) (fun h9 => ?_)
                ·
                  have h9 := (nI_leI (a := 40) (b := i) (by omega) (by omega)).mp h9
                  refine gx_aload_n C dX4_sheet_111 (by rfl) (by rfl) ?_
                  refine gx_getr (j := 57) (k := 14) C ck4 (by rfl) (by rfl) (by decide) fl_X4_31 dX4_sheet_112 ?_
                  refine gx_iload_n C dX4_sheet_115 (by rfl) (by rfl) ?_
                  refine gx_ialdN (k := k) C (by rfl) rfl (by omega) (by decide) dX4_sheet_116 ?_
                  refine gx_st (st' := [.int 0]) (by rw [bh1 57 (by decide), up2_s, pk_us]) ?_
                  exact gx_iret C hr hlk rfl (fim_sh (n := n) hR hk bh1 (by grind) (by grind) (by grind) (fun q hq => bh2 q (by omega)) bh3 (by simp only [opSheet, ck, bey, siz]; rw [if_pos (by grind), if_neg (by grind), if_neg (by grind)])) dX4_sheet_117
                ·
                  have h9 := (not_congr (nI_leI (a := 40) (b := i) (by omega) (by omega))).mp h9
                  refine gx_aload_n C dX4_sheet_92 (by rfl) (by rfl) ?_
                  refine gx_getr (j := 58) (k := 15) C ck4 (by rfl) (by rfl) (by decide) fl_X4_34 dX4_sheet_93 ?_
                  refine gx_bipush (v := 40) C dX4_sheet_96 (by decide) ?_
                  refine gx_iload_n C dX4_sheet_98 (by rfl) (by rfl) ?_
                  refine gx_imul C dX4_sheet_99 ?_
                  refine gx_st (st' := [.int (nI (40 * k)), .ref (eA E 58)]) (by rw [show 40 * (nI k) = nI (40 * k) from pk_mul 40 k]) ?_
                  refine gx_iload C dX4_sheet_100 (by rfl) ?_
                  refine gx_iadd C dX4_sheet_102 ?_
                  refine gx_st (st' := [.int (nI (40 * k + i)), .ref (eA E 58)]) (by rw [show (nI (40 * k)) + (nI i) = nI (40 * k + i) from nI_add (40 * k) i]) ?_
                  refine gx_iconst (v := 0) C dX4_sheet_103 (by decide) ?_
                  refine gx_iastN (k := (40 * k + i)) C (by rfl) rfl (by omega) (by decide) dX4_sheet_104 ?_
                  refine gx_iinc (v := nI (i + 1)) (lv2 := [(4, .int (nI (i + 1))), (0, .ref (eA E 49)), (1, .int (nI k)), (2, .int b), (3, .int n)]) C dX4_sheet_105 (by rfl) (by exact nI_p1 _) (by decide) rfl ?_
                  refine gx_goto (tgt := 85) C dX4_sheet_108 (by decide) ?_
                  refine gx_sub [1, 2, 3, 4, 0] (lv' := [(0, .ref (eA E 49)), (1, .int (nI k)), (2, .int b), (3, .int n), (4, .int (nI (i + 1)))]) rfl ?_
                  exact ih85 (i + 1) (by omega) (by omega) (up2 τ 58 (40 * k + i) 0) (fun q y1 => by rw [up2_o y1]; exact bh1 q y1) (fun q hq => by rw [up2_s]; exact (if hh : q = i then by rw [hh, pk_us] else by rw [pk_un (by omega)]; exact bh2 q (by omega))) (fun q y1 => by rw [up2_s, pk_un (by omega)]; exact bh3 q y1)
            refine gx_sub [1, 2, 3, 4, 0] (lv' := [(0, .ref (eA E 49)), (1, .int (nI k)), (2, .int b), (3, .int n), (4, .int 0)]) rfl ?_
            refine gx_lv (lv' := [(0, .ref (eA E 49)), (1, .int (nI k)), (2, .int b), (3, .int n), (4, .int (nI 0))]) (by rfl) ?_
            exact loop85 (40 + 1) 0 (by omega) (by omega) (up2 (up2 σ 56 k b) 57 k 0) (fun q _ => rfl) (fun q hq => absurd hq (by omega)) (fun q _ => by rw [up2_o (by omega), up2_o (by omega)])
        ·
          have gh6 := Int32.not_le.mp h6
          refine gx_aload_n C dX4_sheet_53 (by rfl) (by rfl) ?_
          refine gx_ldc C kc_X4_37 dX4_sheet_54 ?_
          refine gx_callVI (As := [.int (-1000001)]) (rest := []) C (c_X4_finds E σ (-1000001) 0 (by decide) (by decide)) z_X4_finds ck4 (by rfl) (by rfl) ml_X4_39 (by rfl) (Nat.le_of_ble_eq_true rfl) ⟨Nat.le_of_ble_eq_true rfl, Nat.le_of_ble_eq_true rfl⟩ dX4_sheet_56 (fun r10 σ10 w10 => ?_)
          obtain ⟨u1, u2⟩ := w10; rw [u1, u2]; clear u1 u2
          exact gx_iret C hr hlk rfl (fim_fd hR (by decide) (by simp only [opSheet, bey, ful, knd, non, sta, mis, siz] <;> grind)) dX4_sheet_59
      ·
        have gh5 := Int32.not_le.mp h5
        refine gx_aload_n C dX4_sheet_40 (by rfl) (by rfl) ?_
        refine gx_ldc C kc_X4_185 dX4_sheet_41 ?_
        refine gx_callVI (As := [.int (-1000007)]) (rest := []) C (c_X4_finds E σ (-1000007) 6 (by decide) (by decide)) z_X4_finds ck4 (by rfl) (by rfl) ml_X4_39 (by rfl) (Nat.le_of_ble_eq_true rfl) ⟨Nat.le_of_ble_eq_true rfl, Nat.le_of_ble_eq_true rfl⟩ dX4_sheet_43 (fun r11 σ11 w11 => ?_)
        obtain ⟨u1, u2⟩ := w11; rw [u1, u2]; clear u1 u2
        exact gx_iret C hr hlk rfl (fim_fd hR (by decide) (by simp only [opSheet, bey, ful, knd, non, sta, mis, siz] <;> grind)) dX4_sheet_46
    ·
      refine gx_iload_n C dX4_sheet_11 (by rfl) (by rfl) ?_
      refine gx_bipush (v := 8) C dX4_sheet_12 (by decide) ?_
      refine gx_icmp_eq (tgt := 36) C dX4_sheet_14 (by decide) (fun h14 => ?_) (fun h14 => ?_)
      ·
        refine gx_iload_n C dX4_sheet_36 (by rfl) (by rfl) ?_
        refine gx_if_ge (tgt := 47) C dX4_sheet_37 (by decide) (fun h15 => ?_) (fun h15 => ?_)
        ·
          have gh15 := Int32.not_lt.mpr h15
          refine gx_iload_n C dX4_sheet_47 (by rfl) (by rfl) ?_
          refine gx_bipush (v := 40) C dX4_sheet_48 (by decide) ?_
          refine gx_icmp_le (tgt := 60) C dX4_sheet_50 (by decide) (fun h16 => ?_) (fun h16 => ?_)
          ·
            have gh16 := Int32.not_lt.mpr h16
            refine gx_aload_n C dX4_sheet_60 (by rfl) (by rfl) ?_
            refine gx_getr (j := 56) (k := 13) C ck4 (by rfl) (by rfl) (by decide) fl_X4_28 dX4_sheet_61 ?_
            refine gx_iload_n C dX4_sheet_64 (by rfl) (by rfl) ?_
            refine gx_iload_n C dX4_sheet_65 (by rfl) (by rfl) ?_
            refine gx_iastN (k := k) C (by rfl) rfl (by omega) (by decide) dX4_sheet_66 ?_
            refine gx_aload_n C dX4_sheet_67 (by rfl) (by rfl) ?_
            refine gx_getr (j := 57) (k := 14) C ck4 (by rfl) (by rfl) (by decide) fl_X4_31 dX4_sheet_68 ?_
            refine gx_iload_n C dX4_sheet_71 (by rfl) (by rfl) ?_
            refine gx_iload_n C dX4_sheet_72 (by rfl) (by rfl) ?_
            refine gx_if_ne (tgt := 80) C dX4_sheet_73 (by decide) (fun h17 => ?_) (fun h17 => ?_)
            ·
              refine gx_iload_n C dX4_sheet_80 (by rfl) (by rfl) ?_
              refine gx_iastN (k := k) C (by rfl) rfl (by omega) (by decide) dX4_sheet_81 ?_
              refine gx_iconst (v := 0) C dX4_sheet_82 (by decide) ?_
              refine gx_istore (lv2 := [(4, .int 0), (0, .ref (eA E 49)), (1, .int (nI k)), (2, .int b), (3, .int n)]) C dX4_sheet_83 (by decide) rfl ?_
              have loop85 : ∀ (kf i : Nat), i ≤ 40 → 40 < i + kf → ∀ τ : Mm, (∀ q, ¬ q = 58 → τ q = up2 (up2 σ 56 k b) 57 k n q) → (∀ q, q < i → τ 58 (40 * k + q) = 0) → (∀ q, (q < 40 * k ∨ 40 * k + 40 ≤ q) → τ 58 q = σ 58 q) → Gx E p e0 (rmF 2 45) s m ([.ref (eA E 49), .int (nI k), .int b, .int n] : List Value).toArray below meth c (MQ below (va_Qi (fun rr σ2 => rr = (opSheet (K, L, g, F, tl, Bt, W, Z, N) (nI k) b n).1 ∧ MR σ2 (opSheet (K, L, g, F, tl, Bt, W, Z, N) (nI k) b n).2 ∧ FM σ σ2) (WQ E) (AA E s.heap.size)) ([.ref (eA E 49), .int (nI k), .int b, .int n] : List Value).toArray s 0 0 (AA E s.heap.size)) 5 85 [(0, .ref (eA E 49)), (1, .int (nI k)), (2, .int b), (3, .int n), (4, .int (nI i))] [] τ := by
                intro kf
                induction kf with
                | zero => intro i q1 q2; exact absurd q2 (by omega)
                | succ kf ih85 =>
                  intro i a85 b85 τ bh1 bh2 bh3
                  refine gx_iload C dX4_sheet_85 (by rfl) ?_
                  refine gx_bipush (v := 40) C dX4_sheet_87 (by decide) ?_
                  refine gx_icmp_ge (tgt := 111) C dX4_sheet_89 (by decide) (fun h18 => ?_) (fun h18 => ?_)
                  ·
                    have h18 := (nI_leI (a := 40) (b := i) (by omega) (by omega)).mp h18
                    refine gx_aload_n C dX4_sheet_111 (by rfl) (by rfl) ?_
                    refine gx_getr (j := 57) (k := 14) C ck4 (by rfl) (by rfl) (by decide) fl_X4_31 dX4_sheet_112 ?_
                    refine gx_iload_n C dX4_sheet_115 (by rfl) (by rfl) ?_
                    refine gx_ialdN (k := k) C (by rfl) rfl (by omega) (by decide) dX4_sheet_116 ?_
                    refine gx_st (st' := [.int n]) (by rw [bh1 57 (by decide), up2_s, pk_us]) ?_
                    exact gx_iret C hr hlk rfl (fim_sh (n := n) hR hk bh1 (by grind) (by grind) (by grind) (fun q hq => bh2 q (by omega)) bh3 (by simp only [opSheet, ck, bey, siz]; rw [if_pos (by grind), if_neg (by grind), if_neg (by grind)])) dX4_sheet_117
                  ·
                    have h18 := (not_congr (nI_leI (a := 40) (b := i) (by omega) (by omega))).mp h18
                    refine gx_aload_n C dX4_sheet_92 (by rfl) (by rfl) ?_
                    refine gx_getr (j := 58) (k := 15) C ck4 (by rfl) (by rfl) (by decide) fl_X4_34 dX4_sheet_93 ?_
                    refine gx_bipush (v := 40) C dX4_sheet_96 (by decide) ?_
                    refine gx_iload_n C dX4_sheet_98 (by rfl) (by rfl) ?_
                    refine gx_imul C dX4_sheet_99 ?_
                    refine gx_st (st' := [.int (nI (40 * k)), .ref (eA E 58)]) (by rw [show 40 * (nI k) = nI (40 * k) from pk_mul 40 k]) ?_
                    refine gx_iload C dX4_sheet_100 (by rfl) ?_
                    refine gx_iadd C dX4_sheet_102 ?_
                    refine gx_st (st' := [.int (nI (40 * k + i)), .ref (eA E 58)]) (by rw [show (nI (40 * k)) + (nI i) = nI (40 * k + i) from nI_add (40 * k) i]) ?_
                    refine gx_iconst (v := 0) C dX4_sheet_103 (by decide) ?_
                    refine gx_iastN (k := (40 * k + i)) C (by rfl) rfl (by omega) (by decide) dX4_sheet_104 ?_
                    refine gx_iinc (v := nI (i + 1)) (lv2 := [(4, .int (nI (i + 1))), (0, .ref (eA E 49)), (1, .int (nI k)), (2, .int b), (3, .int n)]) C dX4_sheet_105 (by rfl) (by exact nI_p1 _) (by decide) rfl ?_
                    refine gx_goto (tgt := 85) C dX4_sheet_108 (by decide) ?_
                    refine gx_sub [1, 2, 3, 4, 0] (lv' := [(0, .ref (eA E 49)), (1, .int (nI k)), (2, .int b), (3, .int n), (4, .int (nI (i + 1)))]) rfl ?_
                    exact ih85 (i + 1) (by omega) (by omega) (up2 τ 58 (40 * k + i) 0) (fun q y1 => by rw [up2_o y1]; exact bh1 q y1) (fun q hq => by rw [up2_s]; exact (if hh : q = i then by rw [hh, pk_us] else by rw [pk_un (by omega)]; exact bh2 q (by omega))) (fun q y1 => by rw [up2_s, pk_un (by omega)]; exact bh3 q y1)
              refine gx_sub [1, 2, 3, 4, 0] (lv' := [(0, .ref (eA E 49)), (1, .int (nI k)), (2, .int b), (3, .int n), (4, .int 0)]) rfl ?_
              refine gx_lv (lv' := [(0, .ref (eA E 49)), (1, .int (nI k)), (2, .int b), (3, .int n), (4, .int (nI 0))]) (by rfl) ?_
              exact loop85 (40 + 1) 0 (by omega) (by omega) (up2 (up2 σ 56 k b) 57 k n) (fun q _ => rfl) (fun q hq => absurd hq (by omega)) (fun q _ => by rw [up2_o (by omega), up2_o (by omega)])
            ·
              refine gx_iconst (v := 0) C dX4_sheet_76 (by decide) ?_
              refine gx_goto (tgt := 81) C dX4_sheet_77 (by decide) ?_
              refine gx_iastN (k := k) C (by rfl) rfl (by omega) (by decide) dX4_sheet_81 ?_
              refine gx_iconst (v := 0) C dX4_sheet_82 (by decide) ?_
              refine gx_istore (lv2 := [(4, .int 0), (0, .ref (eA E 49)), (1, .int (nI k)), (2, .int b), (3, .int n)]) C dX4_sheet_83 (by decide) rfl ?_
              have loop85 : ∀ (kf i : Nat), i ≤ 40 → 40 < i + kf → ∀ τ : Mm, (∀ q, ¬ q = 58 → τ q = up2 (up2 σ 56 k b) 57 k 0 q) → (∀ q, q < i → τ 58 (40 * k + q) = 0) → (∀ q, (q < 40 * k ∨ 40 * k + 40 ≤ q) → τ 58 q = σ 58 q) → Gx E p e0 (rmF 2 45) s m ([.ref (eA E 49), .int (nI k), .int b, .int n] : List Value).toArray below meth c (MQ below (va_Qi (fun rr σ2 => rr = (opSheet (K, L, g, F, tl, Bt, W, Z, N) (nI k) b n).1 ∧ MR σ2 (opSheet (K, L, g, F, tl, Bt, W, Z, N) (nI k) b n).2 ∧ FM σ σ2) (WQ E) (AA E s.heap.size)) ([.ref (eA E 49), .int (nI k), .int b, .int n] : List Value).toArray s 0 0 (AA E s.heap.size)) 5 85 [(0, .ref (eA E 49)), (1, .int (nI k)), (2, .int b), (3, .int n), (4, .int (nI i))] [] τ := by
                intro kf
                induction kf with
                | zero => intro i q1 q2; exact absurd q2 (by omega)
                | succ kf ih85 =>
                  intro i a85 b85 τ bh1 bh2 bh3
                  refine gx_iload C dX4_sheet_85 (by rfl) ?_
                  refine gx_bipush (v := 40) C dX4_sheet_87 (by decide) ?_
                  refine gx_icmp_ge (tgt := 111) C dX4_sheet_89 (by decide) (fun h19 => ?_) (fun h19 => ?_)
                  ·
                    have h19 := (nI_leI (a := 40) (b := i) (by omega) (by omega)).mp h19
                    refine gx_aload_n C dX4_sheet_111 (by rfl) (by rfl) ?_
                    refine gx_getr (j := 57) (k := 14) C ck4 (by rfl) (by rfl) (by decide) fl_X4_31 dX4_sheet_112 ?_
                    refine gx_iload_n C dX4_sheet_115 (by rfl) (by rfl) ?_
                    refine gx_ialdN (k := k) C (by rfl) rfl (by omega) (by decide) dX4_sheet_116 ?_
                    refine gx_st (st' := [.int 0]) (by rw [bh1 57 (by decide), up2_s, pk_us]) ?_
                    exact gx_iret C hr hlk rfl (fim_sh (n := n) hR hk bh1 (by grind) (by grind) (by grind) (fun q hq => bh2 q (by omega)) bh3 (by simp only [opSheet, ck, bey, siz]; rw [if_pos (by grind), if_neg (by grind), if_neg (by grind)])) dX4_sheet_117
                  ·
                    have h19 := (not_congr (nI_leI (a := 40) (b := i) (by omega) (by omega))).mp h19
                    refine gx_aload_n C dX4_sheet_92 (by rfl) (by rfl) ?_
                    refine gx_getr (j := 58) (k := 15) C ck4 (by rfl) (by rfl) (by decide) fl_X4_34 dX4_sheet_93 ?_
                    refine gx_bipush (v := 40) C dX4_sheet_96 (by decide) ?_
                    refine gx_iload_n C dX4_sheet_98 (by rfl) (by rfl) ?_
                    refine gx_imul C dX4_sheet_99 ?_
                    refine gx_st (st' := [.int (nI (40 * k)), .ref (eA E 58)]) (by rw [show 40 * (nI k) = nI (40 * k) from pk_mul 40 k]) ?_
                    refine gx_iload C dX4_sheet_100 (by rfl) ?_
                    refine gx_iadd C dX4_sheet_102 ?_
                    refine gx_st (st' := [.int (nI (40 * k + i)), .ref (eA E 58)]) (by rw [show (nI (40 * k)) + (nI i) = nI (40 * k + i) from nI_add (40 * k) i]) ?_
                    refine gx_iconst (v := 0) C dX4_sheet_103 (by decide) ?_
                    refine gx_iastN (k := (40 * k + i)) C (by rfl) rfl (by omega) (by decide) dX4_sheet_104 ?_
                    refine gx_iinc (v := nI (i + 1)) (lv2 := [(4, .int (nI (i + 1))), (0, .ref (eA E 49)), (1, .int (nI k)), (2, .int b), (3, .int n)]) C dX4_sheet_105 (by rfl) (by exact nI_p1 _) (by decide) rfl ?_
                    refine gx_goto (tgt := 85) C dX4_sheet_108 (by decide) ?_
                    refine gx_sub [1, 2, 3, 4, 0] (lv' := [(0, .ref (eA E 49)), (1, .int (nI k)), (2, .int b), (3, .int n), (4, .int (nI (i + 1)))]) rfl ?_
                    exact ih85 (i + 1) (by omega) (by omega) (up2 τ 58 (40 * k + i) 0) (fun q y1 => by rw [up2_o y1]; exact bh1 q y1) (fun q hq => by rw [up2_s]; exact (if hh : q = i then by rw [hh, pk_us] else by rw [pk_un (by omega)]; exact bh2 q (by omega))) (fun q y1 => by rw [up2_s, pk_un (by omega)]; exact bh3 q y1)
              refine gx_sub [1, 2, 3, 4, 0] (lv' := [(0, .ref (eA E 49)), (1, .int (nI k)), (2, .int b), (3, .int n), (4, .int 0)]) rfl ?_
              refine gx_lv (lv' := [(0, .ref (eA E 49)), (1, .int (nI k)), (2, .int b), (3, .int n), (4, .int (nI 0))]) (by rfl) ?_
              exact loop85 (40 + 1) 0 (by omega) (by omega) (up2 (up2 σ 56 k b) 57 k 0) (fun q _ => rfl) (fun q hq => absurd hq (by omega)) (fun q _ => by rw [up2_o (by omega), up2_o (by omega)])
          ·
            have gh16 := Int32.not_le.mp h16
            refine gx_aload_n C dX4_sheet_53 (by rfl) (by rfl) ?_
            refine gx_ldc C kc_X4_37 dX4_sheet_54 ?_
            refine gx_callVI (As := [.int (-1000001)]) (rest := []) C (c_X4_finds E σ (-1000001) 0 (by decide) (by decide)) z_X4_finds ck4 (by rfl) (by rfl) ml_X4_39 (by rfl) (Nat.le_of_ble_eq_true rfl) ⟨Nat.le_of_ble_eq_true rfl, Nat.le_of_ble_eq_true rfl⟩ dX4_sheet_56 (fun r20 σ20 w20 => ?_)
            obtain ⟨u1, u2⟩ := w20; rw [u1, u2]; clear u1 u2
            exact gx_iret C hr hlk rfl (fim_fd hR (by decide) (by simp only [opSheet, bey, ful, knd, non, sta, mis, siz] <;> grind)) dX4_sheet_59
        ·
          have gh15 := Int32.not_le.mp h15
          refine gx_aload_n C dX4_sheet_40 (by rfl) (by rfl) ?_
          refine gx_ldc C kc_X4_185 dX4_sheet_41 ?_
          refine gx_callVI (As := [.int (-1000007)]) (rest := []) C (c_X4_finds E σ (-1000007) 6 (by decide) (by decide)) z_X4_finds ck4 (by rfl) (by rfl) ml_X4_39 (by rfl) (Nat.le_of_ble_eq_true rfl) ⟨Nat.le_of_ble_eq_true rfl, Nat.le_of_ble_eq_true rfl⟩ dX4_sheet_43 (fun r21 σ21 w21 => ?_)
          obtain ⟨u1, u2⟩ := w21; rw [u1, u2]; clear u1 u2
          exact gx_iret C hr hlk rfl (fim_fd hR (by decide) (by simp only [opSheet, bey, ful, knd, non, sta, mis, siz] <;> grind)) dX4_sheet_46
      ·
        refine gx_iload_n C dX4_sheet_17 (by rfl) (by rfl) ?_
        refine gx_bipush (v := 16) C dX4_sheet_18 (by decide) ?_
        refine gx_icmp_eq (tgt := 36) C dX4_sheet_20 (by decide) (fun h22 => ?_) (fun h22 => ?_)
        ·
          refine gx_iload_n C dX4_sheet_36 (by rfl) (by rfl) ?_
          refine gx_if_ge (tgt := 47) C dX4_sheet_37 (by decide) (fun h23 => ?_) (fun h23 => ?_)
          ·
            have gh23 := Int32.not_lt.mpr h23
            refine gx_iload_n C dX4_sheet_47 (by rfl) (by rfl) ?_
            refine gx_bipush (v := 40) C dX4_sheet_48 (by decide) ?_
            refine gx_icmp_le (tgt := 60) C dX4_sheet_50 (by decide) (fun h24 => ?_) (fun h24 => ?_)
            ·
              have gh24 := Int32.not_lt.mpr h24
              refine gx_aload_n C dX4_sheet_60 (by rfl) (by rfl) ?_
              refine gx_getr (j := 56) (k := 13) C ck4 (by rfl) (by rfl) (by decide) fl_X4_28 dX4_sheet_61 ?_
              refine gx_iload_n C dX4_sheet_64 (by rfl) (by rfl) ?_
              refine gx_iload_n C dX4_sheet_65 (by rfl) (by rfl) ?_
              refine gx_iastN (k := k) C (by rfl) rfl (by omega) (by decide) dX4_sheet_66 ?_
              refine gx_aload_n C dX4_sheet_67 (by rfl) (by rfl) ?_
              refine gx_getr (j := 57) (k := 14) C ck4 (by rfl) (by rfl) (by decide) fl_X4_31 dX4_sheet_68 ?_
              refine gx_iload_n C dX4_sheet_71 (by rfl) (by rfl) ?_
              refine gx_iload_n C dX4_sheet_72 (by rfl) (by rfl) ?_
              refine gx_if_ne (tgt := 80) C dX4_sheet_73 (by decide) (fun h26 => ?_) (fun h26 => ?_)
              ·
                refine gx_iload_n C dX4_sheet_80 (by rfl) (by rfl) ?_
                refine gx_iastN (k := k) C (by rfl) rfl (by omega) (by decide) dX4_sheet_81 ?_
                refine gx_iconst (v := 0) C dX4_sheet_82 (by decide) ?_
                refine gx_istore (lv2 := [(4, .int 0), (0, .ref (eA E 49)), (1, .int (nI k)), (2, .int b), (3, .int n)]) C dX4_sheet_83 (by decide) rfl ?_
                have loop85 : ∀ (kf i : Nat), i ≤ 40 → 40 < i + kf → ∀ τ : Mm, (∀ q, ¬ q = 58 → τ q = up2 (up2 σ 56 k b) 57 k n q) → (∀ q, q < i → τ 58 (40 * k + q) = 0) → (∀ q, (q < 40 * k ∨ 40 * k + 40 ≤ q) → τ 58 q = σ 58 q) → Gx E p e0 (rmF 2 45) s m ([.ref (eA E 49), .int (nI k), .int b, .int n] : List Value).toArray below meth c (MQ below (va_Qi (fun rr σ2 => rr = (opSheet (K, L, g, F, tl, Bt, W, Z, N) (nI k) b n).1 ∧ MR σ2 (opSheet (K, L, g, F, tl, Bt, W, Z, N) (nI k) b n).2 ∧ FM σ σ2) (WQ E) (AA E s.heap.size)) ([.ref (eA E 49), .int (nI k), .int b, .int n] : List Value).toArray s 0 0 (AA E s.heap.size)) 5 85 [(0, .ref (eA E 49)), (1, .int (nI k)), (2, .int b), (3, .int n), (4, .int (nI i))] [] τ := by
                  intro kf
                  induction kf with
                  | zero => intro i q1 q2; exact absurd q2 (by omega)
                  | succ kf ih85 =>
                    intro i a85 b85 τ bh1 bh2 bh3
                    refine gx_iload C dX4_sheet_85 (by rfl) ?_
                    refine gx_bipush (v := 40) C dX4_sheet_87 (by decide) ?_
                    refine gx_icmp_ge (tgt := 111) C dX4_sheet_89 (by decide) (fun h27 => ?_) (fun h27 => ?_)
                    ·
                      have h27 := (nI_leI (a := 40) (b := i) (by omega) (by omega)).mp h27
                      refine gx_aload_n C dX4_sheet_111 (by rfl) (by rfl) ?_
                      refine gx_getr (j := 57) (k := 14) C ck4 (by rfl) (by rfl) (by decide) fl_X4_31 dX4_sheet_112 ?_
                      refine gx_iload_n C dX4_sheet_115 (by rfl) (by rfl) ?_
                      refine gx_ialdN (k := k) C (by rfl) rfl (by omega) (by decide) dX4_sheet_116 ?_
                      refine gx_st (st' := [.int n]) (by rw [bh1 57 (by decide), up2_s, pk_us]) ?_
                      exact gx_iret C hr hlk rfl (fim_sh (n := n) hR hk bh1 (by grind) (by grind) (by grind) (fun q hq => bh2 q (by omega)) bh3 (by simp only [opSheet, ck, bey, siz]; rw [if_pos (by grind), if_neg (by grind), if_neg (by grind)])) dX4_sheet_117
                    ·
                      have h27 := (not_congr (nI_leI (a := 40) (b := i) (by omega) (by omega))).mp h27
                      refine gx_aload_n C dX4_sheet_92 (by rfl) (by rfl) ?_
                      refine gx_getr (j := 58) (k := 15) C ck4 (by rfl) (by rfl) (by decide) fl_X4_34 dX4_sheet_93 ?_
                      refine gx_bipush (v := 40) C dX4_sheet_96 (by decide) ?_
                      refine gx_iload_n C dX4_sheet_98 (by rfl) (by rfl) ?_
                      refine gx_imul C dX4_sheet_99 ?_
                      refine gx_st (st' := [.int (nI (40 * k)), .ref (eA E 58)]) (by rw [show 40 * (nI k) = nI (40 * k) from pk_mul 40 k]) ?_
                      refine gx_iload C dX4_sheet_100 (by rfl) ?_
                      refine gx_iadd C dX4_sheet_102 ?_
                      refine gx_st (st' := [.int (nI (40 * k + i)), .ref (eA E 58)]) (by rw [show (nI (40 * k)) + (nI i) = nI (40 * k + i) from nI_add (40 * k) i]) ?_
                      refine gx_iconst (v := 0) C dX4_sheet_103 (by decide) ?_
                      refine gx_iastN (k := (40 * k + i)) C (by rfl) rfl (by omega) (by decide) dX4_sheet_104 ?_
                      refine gx_iinc (v := nI (i + 1)) (lv2 := [(4, .int (nI (i + 1))), (0, .ref (eA E 49)), (1, .int (nI k)), (2, .int b), (3, .int n)]) C dX4_sheet_105 (by rfl) (by exact nI_p1 _) (by decide) rfl ?_
                      refine gx_goto (tgt := 85) C dX4_sheet_108 (by decide) ?_
                      refine gx_sub [1, 2, 3, 4, 0] (lv' := [(0, .ref (eA E 49)), (1, .int (nI k)), (2, .int b), (3, .int n), (4, .int (nI (i + 1)))]) rfl ?_
                      exact ih85 (i + 1) (by omega) (by omega) (up2 τ 58 (40 * k + i) 0) (fun q y1 => by rw [up2_o y1]; exact bh1 q y1) (fun q hq => by rw [up2_s]; exact (if hh : q = i then by rw [hh, pk_us] else by rw [pk_un (by omega)]; exact bh2 q (by omega))) (fun q y1 => by rw [up2_s, pk_un (by omega)]; exact bh3 q y1)
                refine gx_sub [1, 2, 3, 4, 0] (lv' := [(0, .ref (eA E 49)), (1, .int (nI k)), (2, .int b), (3, .int n), (4, .int 0)]) rfl ?_
                refine gx_lv (lv' := [(0, .ref (eA E 49)), (1, .int (nI k)), (2, .int b), (3, .int n), (4, .int (nI 0))]) (by rfl) ?_
                exact loop85 (40 + 1) 0 (by omega) (by omega) (up2 (up2 σ 56 k b) 57 k n) (fun q _ => rfl) (fun q hq => absurd hq (by omega)) (fun q _ => by rw [up2_o (by omega), up2_o (by omega)])
              ·
                refine gx_iconst (v := 0) C dX4_sheet_76 (by decide) ?_
                refine gx_goto (tgt := 81) C dX4_sheet_77 (by decide) ?_
                refine gx_iastN (k := k) C (by rfl) rfl (by omega) (by decide) dX4_sheet_81 ?_
                refine gx_iconst (v := 0) C dX4_sheet_82 (by decide) ?_
                refine gx_istore (lv2 := [(4, .int 0), (0, .ref (eA E 49)), (1, .int (nI k)), (2, .int b), (3, .int n)]) C dX4_sheet_83 (by decide) rfl ?_
                have loop85 : ∀ (kf i : Nat), i ≤ 40 → 40 < i + kf → ∀ τ : Mm, (∀ q, ¬ q = 58 → τ q = up2 (up2 σ 56 k b) 57 k 0 q) → (∀ q, q < i → τ 58 (40 * k + q) = 0) → (∀ q, (q < 40 * k ∨ 40 * k + 40 ≤ q) → τ 58 q = σ 58 q) → Gx E p e0 (rmF 2 45) s m ([.ref (eA E 49), .int (nI k), .int b, .int n] : List Value).toArray below meth c (MQ below (va_Qi (fun rr σ2 => rr = (opSheet (K, L, g, F, tl, Bt, W, Z, N) (nI k) b n).1 ∧ MR σ2 (opSheet (K, L, g, F, tl, Bt, W, Z, N) (nI k) b n).2 ∧ FM σ σ2) (WQ E) (AA E s.heap.size)) ([.ref (eA E 49), .int (nI k), .int b, .int n] : List Value).toArray s 0 0 (AA E s.heap.size)) 5 85 [(0, .ref (eA E 49)), (1, .int (nI k)), (2, .int b), (3, .int n), (4, .int (nI i))] [] τ := by
                  intro kf
                  induction kf with
                  | zero => intro i q1 q2; exact absurd q2 (by omega)
                  | succ kf ih85 =>
                    intro i a85 b85 τ bh1 bh2 bh3
                    refine gx_iload C dX4_sheet_85 (by rfl) ?_
                    refine gx_bipush (v := 40) C dX4_sheet_87 (by decide) ?_
                    refine gx_icmp_ge (tgt := 111) C dX4_sheet_89 (by decide) (fun h28 => ?_) (fun h28 => ?_)
                    ·
                      have h28 := (nI_leI (a := 40) (b := i) (by omega) (by omega)).mp h28
                      refine gx_aload_n C dX4_sheet_111 (by rfl) (by rfl) ?_
                      refine gx_getr (j := 57) (k := 14) C ck4 (by rfl) (by rfl) (by decide) fl_X4_31 dX4_sheet_112 ?_
                      refine gx_iload_n C dX4_sheet_115 (by rfl) (by rfl) ?_
                      refine gx_ialdN (k := k) C (by rfl) rfl (by omega) (by decide) dX4_sheet_116 ?_
                      refine gx_st (st' := [.int 0]) (by rw [bh1 57 (by decide), up2_s, pk_us]) ?_
                      exact gx_iret C hr hlk rfl (fim_sh (n := n) hR hk bh1 (by grind) (by grind) (by grind) (fun q hq => bh2 q (by omega)) bh3 (by simp only [opSheet, ck, bey, siz]; rw [if_pos (by grind), if_neg (by grind), if_neg (by grind)])) dX4_sheet_117
                    ·
                      have h28 := (not_congr (nI_leI (a := 40) (b := i) (by omega) (by omega))).mp h28
                      refine gx_aload_n C dX4_sheet_92 (by rfl) (by rfl) ?_
                      refine gx_getr (j := 58) (k := 15) C ck4 (by rfl) (by rfl) (by decide) fl_X4_34 dX4_sheet_93 ?_
                      refine gx_bipush (v := 40) C dX4_sheet_96 (by decide) ?_
                      refine gx_iload_n C dX4_sheet_98 (by rfl) (by rfl) ?_
                      refine gx_imul C dX4_sheet_99 ?_
                      refine gx_st (st' := [.int (nI (40 * k)), .ref (eA E 58)]) (by rw [show 40 * (nI k) = nI (40 * k) from pk_mul 40 k]) ?_
                      refine gx_iload C dX4_sheet_100 (by rfl) ?_
                      refine gx_iadd C dX4_sheet_102 ?_
                      refine gx_st (st' := [.int (nI (40 * k + i)), .ref (eA E 58)]) (by rw [show (nI (40 * k)) + (nI i) = nI (40 * k + i) from nI_add (40 * k) i]) ?_
                      refine gx_iconst (v := 0) C dX4_sheet_103 (by decide) ?_
                      refine gx_iastN (k := (40 * k + i)) C (by rfl) rfl (by omega) (by decide) dX4_sheet_104 ?_
                      refine gx_iinc (v := nI (i + 1)) (lv2 := [(4, .int (nI (i + 1))), (0, .ref (eA E 49)), (1, .int (nI k)), (2, .int b), (3, .int n)]) C dX4_sheet_105 (by rfl) (by exact nI_p1 _) (by decide) rfl ?_
                      refine gx_goto (tgt := 85) C dX4_sheet_108 (by decide) ?_
                      refine gx_sub [1, 2, 3, 4, 0] (lv' := [(0, .ref (eA E 49)), (1, .int (nI k)), (2, .int b), (3, .int n), (4, .int (nI (i + 1)))]) rfl ?_
                      exact ih85 (i + 1) (by omega) (by omega) (up2 τ 58 (40 * k + i) 0) (fun q y1 => by rw [up2_o y1]; exact bh1 q y1) (fun q hq => by rw [up2_s]; exact (if hh : q = i then by rw [hh, pk_us] else by rw [pk_un (by omega)]; exact bh2 q (by omega))) (fun q y1 => by rw [up2_s, pk_un (by omega)]; exact bh3 q y1)
                refine gx_sub [1, 2, 3, 4, 0] (lv' := [(0, .ref (eA E 49)), (1, .int (nI k)), (2, .int b), (3, .int n), (4, .int 0)]) rfl ?_
                refine gx_lv (lv' := [(0, .ref (eA E 49)), (1, .int (nI k)), (2, .int b), (3, .int n), (4, .int (nI 0))]) (by rfl) ?_
                exact loop85 (40 + 1) 0 (by omega) (by omega) (up2 (up2 σ 56 k b) 57 k 0) (fun q _ => rfl) (fun q hq => absurd hq (by omega)) (fun q _ => by rw [up2_o (by omega), up2_o (by omega)])
            ·
              have gh24 := Int32.not_le.mp h24
              refine gx_aload_n C dX4_sheet_53 (by rfl) (by rfl) ?_
              refine gx_ldc C kc_X4_37 dX4_sheet_54 ?_
              refine gx_callVI (As := [.int (-1000001)]) (rest := []) C (c_X4_finds E σ (-1000001) 0 (by decide) (by decide)) z_X4_finds ck4 (by rfl) (by rfl) ml_X4_39 (by rfl) (Nat.le_of_ble_eq_true rfl) ⟨Nat.le_of_ble_eq_true rfl, Nat.le_of_ble_eq_true rfl⟩ dX4_sheet_56 (fun r29 σ29 w29 => ?_)
              obtain ⟨u1, u2⟩ := w29; rw [u1, u2]; clear u1 u2
              exact gx_iret C hr hlk rfl (fim_fd hR (by decide) (by simp only [opSheet, bey, ful, knd, non, sta, mis, siz] <;> grind)) dX4_sheet_59
          ·
            have gh23 := Int32.not_le.mp h23
            refine gx_aload_n C dX4_sheet_40 (by rfl) (by rfl) ?_
            refine gx_ldc C kc_X4_185 dX4_sheet_41 ?_
            refine gx_callVI (As := [.int (-1000007)]) (rest := []) C (c_X4_finds E σ (-1000007) 6 (by decide) (by decide)) z_X4_finds ck4 (by rfl) (by rfl) ml_X4_39 (by rfl) (Nat.le_of_ble_eq_true rfl) ⟨Nat.le_of_ble_eq_true rfl, Nat.le_of_ble_eq_true rfl⟩ dX4_sheet_43 (fun r30 σ30 w30 => ?_)
            obtain ⟨u1, u2⟩ := w30; rw [u1, u2]; clear u1 u2
            exact gx_iret C hr hlk rfl (fim_fd hR (by decide) (by simp only [opSheet, bey, ful, knd, non, sta, mis, siz] <;> grind)) dX4_sheet_46
        ·
          refine gx_iload_n C dX4_sheet_23 (by rfl) (by rfl) ?_
          refine gx_bipush (v := 32) C dX4_sheet_24 (by decide) ?_
          refine gx_icmp_eq (tgt := 36) C dX4_sheet_26 (by decide) (fun h31 => ?_) (fun h31 => ?_)
          ·
            refine gx_iload_n C dX4_sheet_36 (by rfl) (by rfl) ?_
            refine gx_if_ge (tgt := 47) C dX4_sheet_37 (by decide) (fun h32 => ?_) (fun h32 => ?_)
            ·
              have gh32 := Int32.not_lt.mpr h32
              refine gx_iload_n C dX4_sheet_47 (by rfl) (by rfl) ?_
              refine gx_bipush (v := 40) C dX4_sheet_48 (by decide) ?_
              refine gx_icmp_le (tgt := 60) C dX4_sheet_50 (by decide) (fun h33 => ?_) (fun h33 => ?_)
              ·
                have gh33 := Int32.not_lt.mpr h33
                refine gx_aload_n C dX4_sheet_60 (by rfl) (by rfl) ?_
                refine gx_getr (j := 56) (k := 13) C ck4 (by rfl) (by rfl) (by decide) fl_X4_28 dX4_sheet_61 ?_
                refine gx_iload_n C dX4_sheet_64 (by rfl) (by rfl) ?_
                refine gx_iload_n C dX4_sheet_65 (by rfl) (by rfl) ?_
                refine gx_iastN (k := k) C (by rfl) rfl (by omega) (by decide) dX4_sheet_66 ?_
                refine gx_aload_n C dX4_sheet_67 (by rfl) (by rfl) ?_
                refine gx_getr (j := 57) (k := 14) C ck4 (by rfl) (by rfl) (by decide) fl_X4_31 dX4_sheet_68 ?_
                refine gx_iload_n C dX4_sheet_71 (by rfl) (by rfl) ?_
                refine gx_iload_n C dX4_sheet_72 (by rfl) (by rfl) ?_
                refine gx_if_ne (tgt := 80) C dX4_sheet_73 (by decide) (fun h34 => ?_) (fun h34 => ?_)
                ·
                  refine gx_iload_n C dX4_sheet_80 (by rfl) (by rfl) ?_
                  refine gx_iastN (k := k) C (by rfl) rfl (by omega) (by decide) dX4_sheet_81 ?_
                  refine gx_iconst (v := 0) C dX4_sheet_82 (by decide) ?_
                  refine gx_istore (lv2 := [(4, .int 0), (0, .ref (eA E 49)), (1, .int (nI k)), (2, .int b), (3, .int n)]) C dX4_sheet_83 (by decide) rfl ?_
                  have loop85 : ∀ (kf i : Nat), i ≤ 40 → 40 < i + kf → ∀ τ : Mm, (∀ q, ¬ q = 58 → τ q = up2 (up2 σ 56 k b) 57 k n q) → (∀ q, q < i → τ 58 (40 * k + q) = 0) → (∀ q, (q < 40 * k ∨ 40 * k + 40 ≤ q) → τ 58 q = σ 58 q) → Gx E p e0 (rmF 2 45) s m ([.ref (eA E 49), .int (nI k), .int b, .int n] : List Value).toArray below meth c (MQ below (va_Qi (fun rr σ2 => rr = (opSheet (K, L, g, F, tl, Bt, W, Z, N) (nI k) b n).1 ∧ MR σ2 (opSheet (K, L, g, F, tl, Bt, W, Z, N) (nI k) b n).2 ∧ FM σ σ2) (WQ E) (AA E s.heap.size)) ([.ref (eA E 49), .int (nI k), .int b, .int n] : List Value).toArray s 0 0 (AA E s.heap.size)) 5 85 [(0, .ref (eA E 49)), (1, .int (nI k)), (2, .int b), (3, .int n), (4, .int (nI i))] [] τ := by
                    intro kf
                    induction kf with
                    | zero => intro i q1 q2; exact absurd q2 (by omega)
                    | succ kf ih85 =>
                      intro i a85 b85 τ bh1 bh2 bh3
                      refine gx_iload C dX4_sheet_85 (by rfl) ?_
                      refine gx_bipush (v := 40) C dX4_sheet_87 (by decide) ?_
                      refine gx_icmp_ge (tgt := 111) C dX4_sheet_89 (by decide) (fun h35 => ?_) (fun h35 => ?_)
                      ·
                        have h35 := (nI_leI (a := 40) (b := i) (by omega) (by omega)).mp h35
                        refine gx_aload_n C dX4_sheet_111 (by rfl) (by rfl) ?_
                        refine gx_getr (j := 57) (k := 14) C ck4 (by rfl) (by rfl) (by decide) fl_X4_31 dX4_sheet_112 ?_
                        refine gx_iload_n C dX4_sheet_115 (by rfl) (by rfl) ?_
                        refine gx_ialdN (k := k) C (by rfl) rfl (by omega) (by decide) dX4_sheet_116 ?_
                        refine gx_st (st' := [.int n]) (by rw [bh1 57 (by decide), up2_s, pk_us]) ?_
                        exact gx_iret C hr hlk rfl (fim_sh (n := n) hR hk bh1 (by grind) (by grind) (by grind) (fun q hq => bh2 q (by omega)) bh3 (by simp only [opSheet, ck, bey, siz]; rw [if_pos (by grind), if_neg (by grind), if_neg (by grind)])) dX4_sheet_117
                      ·
                        have h35 := (not_congr (nI_leI (a := 40) (b := i) (by omega) (by omega))).mp h35
                        refine gx_aload_n C dX4_sheet_92 (by rfl) (by rfl) ?_
                        refine gx_getr (j := 58) (k := 15) C ck4 (by rfl) (by rfl) (by decide) fl_X4_34 dX4_sheet_93 ?_
                        refine gx_bipush (v := 40) C dX4_sheet_96 (by decide) ?_
                        refine gx_iload_n C dX4_sheet_98 (by rfl) (by rfl) ?_
                        refine gx_imul C dX4_sheet_99 ?_
                        refine gx_st (st' := [.int (nI (40 * k)), .ref (eA E 58)]) (by rw [show 40 * (nI k) = nI (40 * k) from pk_mul 40 k]) ?_
                        refine gx_iload C dX4_sheet_100 (by rfl) ?_
                        refine gx_iadd C dX4_sheet_102 ?_
                        refine gx_st (st' := [.int (nI (40 * k + i)), .ref (eA E 58)]) (by rw [show (nI (40 * k)) + (nI i) = nI (40 * k + i) from nI_add (40 * k) i]) ?_
                        refine gx_iconst (v := 0) C dX4_sheet_103 (by decide) ?_
                        refine gx_iastN (k := (40 * k + i)) C (by rfl) rfl (by omega) (by decide) dX4_sheet_104 ?_
                        refine gx_iinc (v := nI (i + 1)) (lv2 := [(4, .int (nI (i + 1))), (0, .ref (eA E 49)), (1, .int (nI k)), (2, .int b), (3, .int n)]) C dX4_sheet_105 (by rfl) (by exact nI_p1 _) (by decide) rfl ?_
                        refine gx_goto (tgt := 85) C dX4_sheet_108 (by decide) ?_
                        refine gx_sub [1, 2, 3, 4, 0] (lv' := [(0, .ref (eA E 49)), (1, .int (nI k)), (2, .int b), (3, .int n), (4, .int (nI (i + 1)))]) rfl ?_
                        exact ih85 (i + 1) (by omega) (by omega) (up2 τ 58 (40 * k + i) 0) (fun q y1 => by rw [up2_o y1]; exact bh1 q y1) (fun q hq => by rw [up2_s]; exact (if hh : q = i then by rw [hh, pk_us] else by rw [pk_un (by omega)]; exact bh2 q (by omega))) (fun q y1 => by rw [up2_s, pk_un (by omega)]; exact bh3 q y1)
                  refine gx_sub [1, 2, 3, 4, 0] (lv' := [(0, .ref (eA E 49)), (1, .int (nI k)), (2, .int b), (3, .int n), (4, .int 0)]) rfl ?_
                  refine gx_lv (lv' := [(0, .ref (eA E 49)), (1, .int (nI k)), (2, .int b), (3, .int n), (4, .int (nI 0))]) (by rfl) ?_
                  exact loop85 (40 + 1) 0 (by omega) (by omega) (up2 (up2 σ 56 k b) 57 k n) (fun q _ => rfl) (fun q hq => absurd hq (by omega)) (fun q _ => by rw [up2_o (by omega), up2_o (by omega)])
                ·
                  refine gx_iconst (v := 0) C dX4_sheet_76 (by decide) ?_
                  refine gx_goto (tgt := 81) C dX4_sheet_77 (by decide) ?_
                  refine gx_iastN (k := k) C (by rfl) rfl (by omega) (by decide) dX4_sheet_81 ?_
                  refine gx_iconst (v := 0) C dX4_sheet_82 (by decide) ?_
                  refine gx_istore (lv2 := [(4, .int 0), (0, .ref (eA E 49)), (1, .int (nI k)), (2, .int b), (3, .int n)]) C dX4_sheet_83 (by decide) rfl ?_
                  have loop85 : ∀ (kf i : Nat), i ≤ 40 → 40 < i + kf → ∀ τ : Mm, (∀ q, ¬ q = 58 → τ q = up2 (up2 σ 56 k b) 57 k 0 q) → (∀ q, q < i → τ 58 (40 * k + q) = 0) → (∀ q, (q < 40 * k ∨ 40 * k + 40 ≤ q) → τ 58 q = σ 58 q) → Gx E p e0 (rmF 2 45) s m ([.ref (eA E 49), .int (nI k), .int b, .int n] : List Value).toArray below meth c (MQ below (va_Qi (fun rr σ2 => rr = (opSheet (K, L, g, F, tl, Bt, W, Z, N) (nI k) b n).1 ∧ MR σ2 (opSheet (K, L, g, F, tl, Bt, W, Z, N) (nI k) b n).2 ∧ FM σ σ2) (WQ E) (AA E s.heap.size)) ([.ref (eA E 49), .int (nI k), .int b, .int n] : List Value).toArray s 0 0 (AA E s.heap.size)) 5 85 [(0, .ref (eA E 49)), (1, .int (nI k)), (2, .int b), (3, .int n), (4, .int (nI i))] [] τ := by
                    intro kf
                    induction kf with
                    | zero => intro i q1 q2; exact absurd q2 (by omega)
                    | succ kf ih85 =>
                      intro i a85 b85 τ bh1 bh2 bh3
                      refine gx_iload C dX4_sheet_85 (by rfl) ?_
                      refine gx_bipush (v := 40) C dX4_sheet_87 (by decide) ?_
                      refine gx_icmp_ge (tgt := 111) C dX4_sheet_89 (by decide) (fun h36 => ?_) (fun h36 => ?_)
                      ·
                        have h36 := (nI_leI (a := 40) (b := i) (by omega) (by omega)).mp h36
                        refine gx_aload_n C dX4_sheet_111 (by rfl) (by rfl) ?_
                        refine gx_getr (j := 57) (k := 14) C ck4 (by rfl) (by rfl) (by decide) fl_X4_31 dX4_sheet_112 ?_
                        refine gx_iload_n C dX4_sheet_115 (by rfl) (by rfl) ?_
                        refine gx_ialdN (k := k) C (by rfl) rfl (by omega) (by decide) dX4_sheet_116 ?_
                        refine gx_st (st' := [.int 0]) (by rw [bh1 57 (by decide), up2_s, pk_us]) ?_
                        exact gx_iret C hr hlk rfl (fim_sh (n := n) hR hk bh1 (by grind) (by grind) (by grind) (fun q hq => bh2 q (by omega)) bh3 (by simp only [opSheet, ck, bey, siz]; rw [if_pos (by grind), if_neg (by grind), if_neg (by grind)])) dX4_sheet_117
                      ·
                        have h36 := (not_congr (nI_leI (a := 40) (b := i) (by omega) (by omega))).mp h36
                        refine gx_aload_n C dX4_sheet_92 (by rfl) (by rfl) ?_
                        refine gx_getr (j := 58) (k := 15) C ck4 (by rfl) (by rfl) (by decide) fl_X4_34 dX4_sheet_93 ?_
                        refine gx_bipush (v := 40) C dX4_sheet_96 (by decide) ?_
                        refine gx_iload_n C dX4_sheet_98 (by rfl) (by rfl) ?_
                        refine gx_imul C dX4_sheet_99 ?_
                        refine gx_st (st' := [.int (nI (40 * k)), .ref (eA E 58)]) (by rw [show 40 * (nI k) = nI (40 * k) from pk_mul 40 k]) ?_
                        refine gx_iload C dX4_sheet_100 (by rfl) ?_
                        refine gx_iadd C dX4_sheet_102 ?_
                        refine gx_st (st' := [.int (nI (40 * k + i)), .ref (eA E 58)]) (by rw [show (nI (40 * k)) + (nI i) = nI (40 * k + i) from nI_add (40 * k) i]) ?_
                        refine gx_iconst (v := 0) C dX4_sheet_103 (by decide) ?_
                        refine gx_iastN (k := (40 * k + i)) C (by rfl) rfl (by omega) (by decide) dX4_sheet_104 ?_
                        refine gx_iinc (v := nI (i + 1)) (lv2 := [(4, .int (nI (i + 1))), (0, .ref (eA E 49)), (1, .int (nI k)), (2, .int b), (3, .int n)]) C dX4_sheet_105 (by rfl) (by exact nI_p1 _) (by decide) rfl ?_
                        refine gx_goto (tgt := 85) C dX4_sheet_108 (by decide) ?_
                        refine gx_sub [1, 2, 3, 4, 0] (lv' := [(0, .ref (eA E 49)), (1, .int (nI k)), (2, .int b), (3, .int n), (4, .int (nI (i + 1)))]) rfl ?_
                        exact ih85 (i + 1) (by omega) (by omega) (up2 τ 58 (40 * k + i) 0) (fun q y1 => by rw [up2_o y1]; exact bh1 q y1) (fun q hq => by rw [up2_s]; exact (if hh : q = i then by rw [hh, pk_us] else by rw [pk_un (by omega)]; exact bh2 q (by omega))) (fun q y1 => by rw [up2_s, pk_un (by omega)]; exact bh3 q y1)
                  refine gx_sub [1, 2, 3, 4, 0] (lv' := [(0, .ref (eA E 49)), (1, .int (nI k)), (2, .int b), (3, .int n), (4, .int 0)]) rfl ?_
                  refine gx_lv (lv' := [(0, .ref (eA E 49)), (1, .int (nI k)), (2, .int b), (3, .int n), (4, .int (nI 0))]) (by rfl) ?_
                  exact loop85 (40 + 1) 0 (by omega) (by omega) (up2 (up2 σ 56 k b) 57 k 0) (fun q _ => rfl) (fun q hq => absurd hq (by omega)) (fun q _ => by rw [up2_o (by omega), up2_o (by omega)])
              ·
                have gh33 := Int32.not_le.mp h33
                refine gx_aload_n C dX4_sheet_53 (by rfl) (by rfl) ?_
                refine gx_ldc C kc_X4_37 dX4_sheet_54 ?_
                refine gx_callVI (As := [.int (-1000001)]) (rest := []) C (c_X4_finds E σ (-1000001) 0 (by decide) (by decide)) z_X4_finds ck4 (by rfl) (by rfl) ml_X4_39 (by rfl) (Nat.le_of_ble_eq_true rfl) ⟨Nat.le_of_ble_eq_true rfl, Nat.le_of_ble_eq_true rfl⟩ dX4_sheet_56 (fun r38 σ38 w38 => ?_)
                obtain ⟨u1, u2⟩ := w38; rw [u1, u2]; clear u1 u2
                exact gx_iret C hr hlk rfl (fim_fd hR (by decide) (by simp only [opSheet, bey, ful, knd, non, sta, mis, siz] <;> grind)) dX4_sheet_59
            ·
              have gh32 := Int32.not_le.mp h32
              refine gx_aload_n C dX4_sheet_40 (by rfl) (by rfl) ?_
              refine gx_ldc C kc_X4_185 dX4_sheet_41 ?_
              refine gx_callVI (As := [.int (-1000007)]) (rest := []) C (c_X4_finds E σ (-1000007) 6 (by decide) (by decide)) z_X4_finds ck4 (by rfl) (by rfl) ml_X4_39 (by rfl) (Nat.le_of_ble_eq_true rfl) ⟨Nat.le_of_ble_eq_true rfl, Nat.le_of_ble_eq_true rfl⟩ dX4_sheet_43 (fun r39 σ39 w39 => ?_)
              obtain ⟨u1, u2⟩ := w39; rw [u1, u2]; clear u1 u2
              exact gx_iret C hr hlk rfl (fim_fd hR (by decide) (by simp only [opSheet, bey, ful, knd, non, sta, mis, siz] <;> grind)) dX4_sheet_46
          ·
            refine gx_aload_n C dX4_sheet_29 (by rfl) (by rfl) ?_
            refine gx_ldc C kc_X4_37 dX4_sheet_30 ?_
            refine gx_callVI (As := [.int (-1000001)]) (rest := []) C (c_X4_finds E σ (-1000001) 0 (by decide) (by decide)) z_X4_finds ck4 (by rfl) (by rfl) ml_X4_39 (by rfl) (Nat.le_of_ble_eq_true rfl) ⟨Nat.le_of_ble_eq_true rfl, Nat.le_of_ble_eq_true rfl⟩ dX4_sheet_32 (fun r40 σ40 w40 => ?_)
            obtain ⟨u1, u2⟩ := w40; rw [u1, u2]; clear u1 u2
            exact gx_iret C hr hlk rfl (fim_fd hR (by decide) (by simp only [opSheet, bey, ful, knd, non, sta, mis, siz] <;> grind)) dX4_sheet_35
set_option maxHeartbeats 4000000 in
set_option maxRecDepth 100000 in
theorem c_X4_write (E : En) (σ : Mm) (K L : Mm) (g : Int32) (F : Nat → Int32) (tl : Int32) (Bt W Z : Nat → Int32) (N : Mm) (hR : MR σ (K, L, g, F, tl, Bt, W, Z, N)) (x y v : Int32) : CtI E yX4_write cX4_write 4 (some .int) 2 45 [.ref (eA E 49), .int x, .int y, .int v] σ (fun rr σ2 => rr = (opWrite (K, L, g, F, tl, Bt, W, Z, N) x y v).1 ∧ MR σ2 (opWrite (K, L, g, F, tl, Bt, W, Z, N) x y v).2 ∧ FM σ σ2) := by
  obtain ⟨⟨hM, hO⟩, ⟨hg1, hg2, hg3⟩, hFd, ⟨⟨htl, htl2⟩, hBt⟩, hSh⟩ := id hR
  obtain ⟨⟨hn, h12⟩, hpp, hlw, hsp, hz0⟩ := id hO
  refine CtI.of (by decide +kernel) (Nat.le_of_ble_eq_true rfl) (fun p e0 s m below meth c C hr hlk => ?_)
  refine gx_lv (lv' := [(0, .ref (eA E 49)), (1, .int x), (2, .int y), (3, .int v)]) rfl ?_
  refine gx_iload_n C dX4_write_0 (by rfl) (by rfl) ?_
  refine gx_callSI (As := [.int x]) (rest := []) C (c_X4_isSheet E σ x) z_X4_isSheet (by rfl) ml_X4_306 (by rfl) (Nat.le_of_ble_eq_true rfl) ⟨Nat.le_of_ble_eq_true rfl, Nat.le_of_ble_eq_true rfl⟩ dX4_write_1 (fun r1 σ1 w1 => ?_)
  obtain ⟨u1, u2⟩ := w1; rw [u1, u2]; clear u1 u2
  refine gx_if_ne (tgt := 14) C dX4_write_4 (by decide) (fun h2 => ?_) (fun h2 => ?_)
  ·
    have h2 := b2_nz.mp h2
    obtain ⟨k, hk, rfl⟩ := s_nat h2
    have ck : (nI k).toNatClampNeg = k := nI_clamp (by omega)
    obtain ⟨⟨hw1, hw2⟩, ⟨hz1, z, hz2, hz3⟩, hnm⟩ := hSh k (by omega)
    have cz : (Z k).toNatClampNeg = z := by rw [hz3]; exact nI_clamp (by omega)
    refine gx_aload_n C dX4_write_14 (by rfl) (by rfl) ?_
    refine gx_getr (j := 56) (k := 13) C ck4 (by rfl) (by rfl) (by decide) fl_X4_28 dX4_write_15 ?_
    refine gx_iload_n C dX4_write_18 (by rfl) (by rfl) ?_
    refine gx_ialdN (k := k) C (by rfl) rfl (by omega) (by decide) dX4_write_19 ?_
    refine gx_st (st' := [.int (W k)]) (by rw [hw1]) ?_
    refine gx_if_ne (tgt := 31) C dX4_write_20 (by decide) (fun h3 => ?_) (fun h3 => ?_)
    ·
      refine gx_iload_n C dX4_write_31 (by rfl) (by rfl) ?_
      refine gx_i2l C dX4_write_32 ?_
      refine gx_lconst (v := 0) C dX4_write_33 (by decide) ?_
      refine gx_aload_n C dX4_write_34 (by rfl) (by rfl) ?_
      refine gx_getr (j := 57) (k := 14) C ck4 (by rfl) (by rfl) (by decide) fl_X4_31 dX4_write_35 ?_
      refine gx_iload_n C dX4_write_38 (by rfl) (by rfl) ?_
      refine gx_ialdN (k := k) C (by rfl) rfl (by omega) (by decide) dX4_write_39 ?_
      refine gx_st (st' := [.int (nI z), .long 0, .long y.toInt64]) (by rw [hz1, hz3]) ?_
      refine gx_iconst (v := 1) C dX4_write_40 (by decide) ?_
      refine gx_isub C dX4_write_41 ?_
      refine gx_i2l C dX4_write_42 ?_
      refine gx_callSI (As := [.long y.toInt64, .long 0, .long (((nI z) - 1).toInt64)]) (rest := []) C (c_X4_in E σ y 0 ((nI z) - 1) y.toInt64 0 (((nI z) - 1).toInt64) (by first | rfl | decide) (by first | rfl | decide) (by first | rfl | decide)) z_X4_in (by rfl) ml_X4_45 (by rfl) (Nat.le_of_ble_eq_true rfl) ⟨Nat.le_of_ble_eq_true rfl, Nat.le_of_ble_eq_true rfl⟩ dX4_write_43 (fun r4 σ4 w4 => ?_)
      obtain ⟨u1, u2⟩ := w4; rw [u1, u2]; clear u1 u2
      refine gx_if_ne (tgt := 56) C dX4_write_46 (by decide) (fun h5 => ?_) (fun h5 => ?_)
      ·
        have h5 := b2_nz.mp h5
        obtain ⟨i0, hi0, rfl⟩ : ∃ i0, i0 < z ∧ y = nI i0 := wr_nat hz2 hz3 (by rw [hz3]; exact h5)
        have ci0 : (nI i0).toNatClampNeg = i0 := nI_clamp (by omega)
        refine gx_aload_n C dX4_write_56 (by rfl) (by rfl) ?_
        refine gx_getr (j := 58) (k := 15) C ck4 (by rfl) (by rfl) (by decide) fl_X4_34 dX4_write_57 ?_
        refine gx_bipush (v := 40) C dX4_write_60 (by decide) ?_
        refine gx_iload_n C dX4_write_62 (by rfl) (by rfl) ?_
        refine gx_imul C dX4_write_63 ?_
        refine gx_st (st' := [.int (nI (40 * k)), .ref (eA E 58)]) (by rw [show 40 * (nI k) = nI (40 * k) from pk_mul 40 k]) ?_
        refine gx_iload_n C dX4_write_64 (by rfl) (by rfl) ?_
        refine gx_iadd C dX4_write_65 ?_
        refine gx_st (st' := [.int (nI (40 * k + i0)), .ref (eA E 58)]) (by rw [show (nI (40 * k)) + (nI i0) = nI (40 * k + i0) from nI_add (40 * k) i0]) ?_
        refine gx_aload_n C dX4_write_66 (by rfl) (by rfl) ?_
        refine gx_getr (j := 56) (k := 13) C ck4 (by rfl) (by rfl) (by decide) fl_X4_28 dX4_write_67 ?_
        refine gx_iload_n C dX4_write_70 (by rfl) (by rfl) ?_
        refine gx_ialdN (k := k) C (by rfl) rfl (by omega) (by decide) dX4_write_71 ?_
        refine gx_st (st' := [.int (W k), .int (nI (40 * k + i0)), .ref (eA E 58)]) (by rw [hw1]) ?_
        refine gx_bipush (v := 8) C dX4_write_72 (by decide) ?_
        refine gx_icmp_ne (tgt := 82) C dX4_write_74 (by decide) (fun h6 => ?_) (fun h6 => ?_)
        ·
          refine gx_aload_n C dX4_write_82 (by rfl) (by rfl) ?_
          refine gx_getr (j := 56) (k := 13) C ck4 (by rfl) (by rfl) (by decide) fl_X4_28 dX4_write_83 ?_
          refine gx_iload_n C dX4_write_86 (by rfl) (by rfl) ?_
          refine gx_ialdN (k := k) C (by rfl) rfl (by omega) (by decide) dX4_write_87 ?_
          refine gx_st (st' := [.int (W k), .int (nI (40 * k + i0)), .ref (eA E 58)]) (by rw [hw1]) ?_
          refine gx_bipush (v := 16) C dX4_write_88 (by decide) ?_
          refine gx_icmp_ne (tgt := 98) C dX4_write_90 (by decide) (fun h7 => ?_) (fun h7 => ?_)
          ·
            refine gx_iload_n C dX4_write_98 (by rfl) (by rfl) ?_
            refine gx_iastN (k := (40 * k + i0)) C (by rfl) rfl (by omega) (by decide) dX4_write_99 ?_
            refine gx_iconst (v := 1) C dX4_write_100 (by decide) ?_
            exact gx_iret C hr hlk rfl (by have qc : v = cutW (W k) v := (by unfold cutW; grind); exact fim_nm (N' := up2 N k i0 (cutW (W k) v)) hR (fun q hq => up2_o hq) (fun s0 hs0 q hq => by rw [up2_s, up2_up]; exact (if hh : s0 = k ∧ q = i0 then by rw [hh.1, hh.2, pk_us, if_pos ⟨rfl, rfl⟩]; exact qc else by rw [pk_un (by omega), if_neg hh]; exact (hSh s0 hs0).2.2 q hq)) (by simp only [opWrite, ck, ci0, bey, mis]; rw [if_pos (by grind), if_neg (by grind), if_pos (by rw [hz3]; assumption)])) dX4_write_101
          ·
            refine gx_iload_n C dX4_write_93 (by rfl) (by rfl) ?_
            refine gx_i2s C dX4_write_94 ?_
            refine gx_goto (tgt := 99) C dX4_write_95 (by decide) ?_
            refine gx_iastN (k := (40 * k + i0)) C (by rfl) rfl (by omega) (by decide) dX4_write_99 ?_
            refine gx_iconst (v := 1) C dX4_write_100 (by decide) ?_
            exact gx_iret C hr hlk rfl (by have qc : v.toInt16.toInt32 = cutW (W k) v := (by unfold cutW; grind); exact fim_nm (N' := up2 N k i0 (cutW (W k) v)) hR (fun q hq => up2_o hq) (fun s0 hs0 q hq => by rw [up2_s, up2_up]; exact (if hh : s0 = k ∧ q = i0 then by rw [hh.1, hh.2, pk_us, if_pos ⟨rfl, rfl⟩]; exact qc else by rw [pk_un (by omega), if_neg hh]; exact (hSh s0 hs0).2.2 q hq)) (by simp only [opWrite, ck, ci0, bey, mis]; rw [if_pos (by grind), if_neg (by grind), if_pos (by rw [hz3]; assumption)])) dX4_write_101
        ·
          refine gx_iload_n C dX4_write_77 (by rfl) (by rfl) ?_
          refine gx_i2b C dX4_write_78 ?_
          refine gx_goto (tgt := 99) C dX4_write_79 (by decide) ?_
          refine gx_iastN (k := (40 * k + i0)) C (by rfl) rfl (by omega) (by decide) dX4_write_99 ?_
          refine gx_iconst (v := 1) C dX4_write_100 (by decide) ?_
          exact gx_iret C hr hlk rfl (by have qc : v.toInt8.toInt32 = cutW (W k) v := (by unfold cutW; grind); exact fim_nm (N' := up2 N k i0 (cutW (W k) v)) hR (fun q hq => up2_o hq) (fun s0 hs0 q hq => by rw [up2_s, up2_up]; exact (if hh : s0 = k ∧ q = i0 then by rw [hh.1, hh.2, pk_us, if_pos ⟨rfl, rfl⟩]; exact qc else by rw [pk_un (by omega), if_neg hh]; exact (hSh s0 hs0).2.2 q hq)) (by simp only [opWrite, ck, ci0, bey, mis]; rw [if_pos (by grind), if_neg (by grind), if_pos (by rw [hz3]; assumption)])) dX4_write_101
      ·
        have h5 := b2_z.mp h5
        refine gx_aload_n C dX4_write_49 (by rfl) (by rfl) ?_
        refine gx_ldc C kc_X4_37 dX4_write_50 ?_
        refine gx_callVI (As := [.int (-1000001)]) (rest := []) C (c_X4_finds E σ (-1000001) 0 (by decide) (by decide)) z_X4_finds ck4 (by rfl) (by rfl) ml_X4_39 (by rfl) (Nat.le_of_ble_eq_true rfl) ⟨Nat.le_of_ble_eq_true rfl, Nat.le_of_ble_eq_true rfl⟩ dX4_write_52 (fun r8 σ8 w8 => ?_)
        obtain ⟨u1, u2⟩ := w8; rw [u1, u2]; clear u1 u2
        exact gx_iret C hr hlk rfl (fim_fd hR (by decide) (by first | (simp only [opWrite, ck, hz3, bey, mis] <;> grind) | (simp only [opWrite, bey, mis] <;> grind))) dX4_write_55
    ·
      refine gx_aload_n C dX4_write_23 (by rfl) (by rfl) ?_
      refine gx_ldcw C kc_X4_301 dX4_write_24 ?_
      refine gx_callVI (As := [.int (-1000006)]) (rest := []) C (c_X4_finds E σ (-1000006) 5 (by decide) (by decide)) z_X4_finds ck4 (by rfl) (by rfl) ml_X4_39 (by rfl) (Nat.le_of_ble_eq_true rfl) ⟨Nat.le_of_ble_eq_true rfl, Nat.le_of_ble_eq_true rfl⟩ dX4_write_27 (fun r9 σ9 w9 => ?_)
      obtain ⟨u1, u2⟩ := w9; rw [u1, u2]; clear u1 u2
      exact gx_iret C hr hlk rfl (fim_fd hR (by decide) (by first | (simp only [opWrite, ck, hz3, bey, mis] <;> grind) | (simp only [opWrite, bey, mis] <;> grind))) dX4_write_30
  ·
    have h2 := b2_z.mp h2
    refine gx_aload_n C dX4_write_7 (by rfl) (by rfl) ?_
    refine gx_ldc C kc_X4_37 dX4_write_8 ?_
    refine gx_callVI (As := [.int (-1000001)]) (rest := []) C (c_X4_finds E σ (-1000001) 0 (by decide) (by decide)) z_X4_finds ck4 (by rfl) (by rfl) ml_X4_39 (by rfl) (Nat.le_of_ble_eq_true rfl) ⟨Nat.le_of_ble_eq_true rfl, Nat.le_of_ble_eq_true rfl⟩ dX4_write_10 (fun r10 σ10 w10 => ?_)
    obtain ⟨u1, u2⟩ := w10; rw [u1, u2]; clear u1 u2
    exact gx_iret C hr hlk rfl (fim_fd hR (by decide) (by first | (simp only [opWrite, ck, hz3, bey, mis] <;> grind) | (simp only [opWrite, bey, mis] <;> grind))) dX4_write_13
