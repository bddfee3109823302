theorem plQ_s {K : Mm} {p t b : Nat} (h : plQ K p t b = true) : nI b &&& (bset (nn K) (plP K p) ^^^ (-1)) = 0 := of_decide_eq_true (Bool.and_eq_true_iff.mp h).1
theorem plQ_w {K : Mm} {p t b : Nat} (h : plQ K p t b = true) : mos t (rsK K (fun q => b.testBit q) (nI p) (nn K)) 2 p = -1 := of_decide_eq_true (Bool.and_eq_true_iff.mp h).2
theorem plQ_t {K : Mm} {p t b : Nat} (h1 : nI b &&& (bset (nn K) (plP K p) ^^^ (-1)) = 0) (h2 : mos t (rsK K (fun q => b.testBit q) (nI p) (nn K)) 2 p = -1) : plQ K p t b = true := by
  unfold plQ plS plW
  rw [decide_eq_true h1, decide_eq_true h2]
  rfl
set_option maxHeartbeats 4000000 in
set_option maxRecDepth 100000 in
theorem c_X4_plot (E : En) (σ : Mm) (K L : Mm) (g : Int32) (F : Nat → Int32) (tl : Int32) (Bt W Z : Nat → Int32) (N : Mm) (hR : MR σ (K, L, g, F, tl, Bt, W, Z, N)) (q n : Int32) : CtI E yX4_plot cX4_plot 7 (some .int) 8 186 [.ref (eA E 49), .int q, .int n] σ (fun rr σ2 => rr = (opPlot (K, L, g, F, tl, Bt, W, Z, N) q n).1 ∧ MR σ2 (opPlot (K, L, g, F, tl, Bt, W, Z, N) q n).2 ∧ FM σ σ2) := by
  obtain ⟨⟨hM, hO⟩, ⟨hg1, hg2, hg3⟩, hFd, ⟨⟨htl, htl2⟩, hBt⟩, hSh⟩ := id hR
  obtain ⟨⟨hn, h12⟩, hpp, hlw, hsp, hz0⟩ := id hO
  refine CtI.of (by decide +kernel) (Nat.le_of_ble_eq_true rfl) (fun p e0 s m below meth c C hr hlk => ?_)
  refine gx_lv (lv' := [(0, .ref (eA E 49)), (1, .int q), (2, .int n)]) rfl ?_
  refine gx_aload_n C dX4_plot_0 (by rfl) (by rfl) ?_
  refine gx_iload_n C dX4_plot_1 (by rfl) (by rfl) ?_
  refine gx_callVI (As := [.int q]) (rest := []) C (c_X4_isPerson E σ K hM hO q) z_X4_isPerson ck4 (by rfl) (by rfl) ml_X4_101 (by rfl) (Nat.le_of_ble_eq_true rfl) ⟨Nat.le_of_ble_eq_true rfl, Nat.le_of_ble_eq_true rfl⟩ dX4_plot_2 (fun r1 σ1 w1 => ?_)
  obtain ⟨u1, u2⟩ := w1; rw [u1, u2]; clear u1 u2
  refine gx_if_eq (tgt := 20) C dX4_plot_5 (by decide) (fun h2 => ?_) (fun h2 => ?_)
  ·
    have h2 := b2_z.mp h2
    refine gx_aload_n C dX4_plot_20 (by rfl) (by rfl) ?_
    refine gx_ldc C kc_X4_37 dX4_plot_21 ?_
    refine gx_callVI (As := [.int (-1000001)]) (rest := []) C (c_X4_finds E σ (-1000001) 0 (by decide) (by decide)) z_X4_finds ck4 (by rfl) (by rfl) ml_X4_39 (by rfl) (Nat.le_of_ble_eq_true rfl) ⟨Nat.le_of_ble_eq_true rfl, Nat.le_of_ble_eq_true rfl⟩ dX4_plot_23 (fun r3 σ3 w3 => ?_)
    obtain ⟨u1, u2⟩ := w3; rw [u1, u2]; clear u1 u2
    exact gx_iret C hr hlk rfl (fim_fd hR (by decide) (by first | (simp only [opPlot, ck, ct, bey, sta, siz, non] <;> grind) | (simp only [opPlot, ck, bey, sta, siz, non] <;> grind) | (simp only [opPlot, bey, sta, siz, non] <;> grind))) dX4_plot_26
  ·
    have h2 := b2_nz.mp h2
    obtain ⟨k, hk, rfl⟩ := has_nat hO h2
    have ck : (nI k).toNatClampNeg = k := nI_clamp (by omega)
    refine gx_iload_n C dX4_plot_8 (by rfl) (by rfl) ?_
    refine gx_i2l C dX4_plot_9 ?_
    refine gx_lconst (v := 1) C dX4_plot_10 (by decide) ?_
    refine gx_ldc2 C kl_X4_180 dX4_plot_11 ?_
    refine gx_callSI (As := [.long n.toInt64, .long 1, .long 12]) (rest := []) C (c_X4_in E σ n 1 12 n.toInt64 1 12 (by first | rfl | decide) (by first | rfl | decide) (by first | rfl | decide)) z_X4_in (by rfl) ml_X4_45 (by rfl) (Nat.le_of_ble_eq_true rfl) ⟨Nat.le_of_ble_eq_true rfl, Nat.le_of_ble_eq_true rfl⟩ dX4_plot_14 (fun r4 σ4 w4 => ?_)
    obtain ⟨u1, u2⟩ := w4; rw [u1, u2]; clear u1 u2
    refine gx_if_ne (tgt := 27) C dX4_plot_17 (by decide) (fun h5 => ?_) (fun h5 => ?_)
    ·
      have h5 := b2_nz.mp h5
      obtain ⟨t, ht, rfl⟩ := i_nat (M := 12) (n := 12) (by decide) ⟨Int32.le_trans (by decide) h5.1, h5.2⟩
      have ct : (nI t).toNatClampNeg = t := nI_clamp (by omega)
      refine gx_aload_n C dX4_plot_27 (by rfl) (by rfl) ?_
      refine gx_iload_n C dX4_plot_28 (by rfl) (by rfl) ?_
      refine gx_callVI (As := [.int (nI k)]) (rest := []) C (c_X4_isOut E σ K hM hO k (by omega)) z_X4_isOut ck4 (by rfl) (by rfl) ml_X4_119 (by rfl) (Nat.le_of_ble_eq_true rfl) ⟨Nat.le_of_ble_eq_true rfl, Nat.le_of_ble_eq_true rfl⟩ dX4_plot_29 (fun r6 σ6 w6 => ?_)
      obtain ⟨u1, u2⟩ := w6; rw [u1, u2]; clear u1 u2
      refine gx_if_ne (tgt := 49) C dX4_plot_32 (by decide) (fun h7 => ?_) (fun h7 => ?_)
      ·
        have h7 := b2_nz.mp h7
        refine gx_aload_n C dX4_plot_49 (by rfl) (by rfl) ?_
        refine gx_ldc C kc_X4_67 dX4_plot_50 ?_
        refine gx_callVI (As := [.int (-1000005)]) (rest := []) C (c_X4_finds E σ (-1000005) 4 (by decide) (by decide)) z_X4_finds ck4 (by rfl) (by rfl) ml_X4_39 (by rfl) (Nat.le_of_ble_eq_true rfl) ⟨Nat.le_of_ble_eq_true rfl, Nat.le_of_ble_eq_true rfl⟩ dX4_plot_52 (fun r8 σ8 w8 => ?_)
        obtain ⟨u1, u2⟩ := w8; rw [u1, u2]; clear u1 u2
        exact gx_iret C hr hlk rfl (fim_fd hR (by decide) (by first | (simp only [opPlot, ck, ct, bey, sta, siz, non] <;> grind) | (simp only [opPlot, ck, bey, sta, siz, non] <;> grind) | (simp only [opPlot, bey, sta, siz, non] <;> grind))) dX4_plot_55
      ·
        have h7 := b2_z.mp h7
        have hkr0 := nI_has hO hk
        have hkr : -1 ≤ nI k ∧ nI k < K 0 0 := ⟨Int32.le_trans (by decide) hkr0.1, hkr0.2⟩
        refine gx_aload_n C dX4_plot_35 (by rfl) (by rfl) ?_
        refine gx_getr (j := 50) (k := 0) C ck4 (by rfl) (by rfl) (by decide) fl_X4_9 dX4_plot_36 ?_
        refine gx_iconst (v := 0) C dX4_plot_39 (by decide) ?_
        refine gx_ialdN (k := 0) C (by rfl) (by rfl) (by decide) (by decide) dX4_plot_40 ?_
        refine gx_st (st' := [.int (K 0 1)]) (by rw [mp_m hM]) ?_
        refine gx_iload_n C dX4_plot_41 (by rfl) (by rfl) ?_
        refine gx_iadd C dX4_plot_42 ?_
        refine gx_sipush (v := 999) C dX4_plot_43 (by decide) ?_
        refine gx_icmp_le (tgt := 56) C dX4_plot_46 (by decide) (fun h9 => ?_) (fun h9 => ?_)
        ·
          refine gx_iconst (v := 0) C dX4_plot_56 (by decide) ?_
          refine gx_istore_n (lv2 := [(3, .int 0), (0, .ref (eA E 49)), (1, .int (nI k)), (2, .int (nI t))]) C dX4_plot_57 (by rfl) (by decide) rfl ?_
          refine gx_iconst (v := 0) C dX4_plot_58 (by decide) ?_
          refine gx_istore (lv2 := [(4, .int 0), (3, .int 0), (0, .ref (eA E 49)), (1, .int (nI k)), (2, .int (nI t))]) C dX4_plot_59 (by decide) rfl ?_
          have loop61 : ∀ (kf i : Nat), i ≤ nn K → nn K < i + kf → Gx E p e0 (rmF 8 186) s m ([.ref (eA E 49), .int (nI k), .int (nI t)] : List Value).toArray below meth c (MQ below (va_Qi (fun rr σ2 => rr = (opPlot (K, L, g, F, tl, Bt, W, Z, N) (nI k) (nI t)).1 ∧ MR σ2 (opPlot (K, L, g, F, tl, Bt, W, Z, N) (nI k) (nI t)).2 ∧ FM σ σ2) (WQ E) (AA E s.heap.size)) ([.ref (eA E 49), .int (nI k), .int (nI t)] : List Value).toArray s 0 0 (AA E s.heap.size)) 7 61 [(0, .ref (eA E 49)), (1, .int (nI k)), (2, .int (nI t)), (3, .int (bset i (plP K k))), (4, .int (nI i))] [] σ := by
            intro kf
            induction kf with
            | zero => intro i q1 q2; exact absurd q2 (by omega)
            | succ kf ih61 =>
              intro i a61 b61
              refine gx_iload C dX4_plot_61 (by rfl) ?_
              refine gx_aload_n C dX4_plot_63 (by rfl) (by rfl) ?_
              refine gx_getr (j := 50) (k := 0) C ck4 (by rfl) (by rfl) (by decide) fl_X4_9 dX4_plot_64 ?_
              refine gx_bipush (v := 6) C dX4_plot_67 (by decide) ?_
              refine gx_ialdN (k := 6) C (by rfl) (by rfl) (by decide) (by decide) dX4_plot_69 ?_
              refine gx_st (st' := [.int (nI (nn K)), .int (nI i)]) (by rw [mp_n hM, hn]) ?_
              refine gx_icmp_ge (tgt := 114) C dX4_plot_70 (by decide) (fun h10 => ?_) (fun h10 => ?_)
              ·
                have h10 := (nI_leI (a := (nn K)) (b := i) (by omega) (by omega)).mp h10
                have q1 : i = nn K := by omega
                refine gx_lv (lv' := [(0, .ref (eA E 49)), (1, .int (nI k)), (2, .int (nI t)), (3, .int (bset (nn K) (plP K k))), (4, .int (nI i))]) (by rw [q1]) ?_
                have hcn := cnt_le (plP K k) (nn K)
                refine gx_iload_n C dX4_plot_114 (by rfl) (by rfl) ?_
                refine gx_callSI (As := [.int (bset (nn K) (plP K k))]) (rest := []) C (c_X4_many E σ (nn K) (by omega) (plP K k)) z_X4_many (by rfl) ml_X4_58 (by rfl) (Nat.le_of_ble_eq_true rfl) ⟨Nat.le_of_ble_eq_true rfl, Nat.le_of_ble_eq_true rfl⟩ dX4_plot_115 (fun r11 σ11 w11 => ?_)
                obtain ⟨u1, u2⟩ := w11; rw [u1, u2]; clear u1 u2
                refine gx_bipush (v := 10) C dX4_plot_118 (by decide) ?_
                refine gx_icmp_le (tgt := 130) C dX4_plot_120 (by decide) (fun h14 => ?_) (fun h14 => ?_)
                ·
                  have h14 := (nI_leI (a := (cnt (plP K k) (nn K))) (b := 10) (by omega) (by omega)).mp h14
                  refine gx_aload_n C dX4_plot_130 (by rfl) (by rfl) ?_
                  refine gx_getr (j := 50) (k := 0) C ck4 (by rfl) (by rfl) (by decide) fl_X4_9 dX4_plot_131 ?_
                  refine gx_aload_n C dX4_plot_134 (by rfl) (by rfl) ?_
                  refine gx_getr (j := 53) (k := 3) C ck4 (by rfl) (by rfl) (by decide) fl_X4_19 dX4_plot_135 ?_
                  refine gx_callSV (As := [.ref (eA E 50), .ref (eA E 53)]) (rest := []) C (c_X4_row E σ 50 53 (by rfl) (by rfl) (by decide)) z_X4_row (by rfl) ml_X4_165 (by rfl) (Nat.le_of_ble_eq_true rfl) ⟨Nat.le_of_ble_eq_true rfl, Nat.le_of_ble_eq_true rfl⟩ dX4_plot_138 (fun σ15 w15 => ?_)
                  obtain ⟨hR15, hF15⟩ := w15
                  have hM15 : vM σ15 50 = K := (vM_o (hF15 50 (by decide))).trans hM
                  have hW15 : vM σ15 53 = K := hR15.trans hM
                  refine gx_iconst (v := (-1)) C dX4_plot_141 (by decide) ?_
                  refine gx_istore (lv2 := [(4, .int (-1)), (0, .ref (eA E 49)), (1, .int (nI k)), (2, .int (nI t)), (3, .int (bset (nn K) (plP K k)))]) C dX4_plot_142 (by decide) rfl ?_
                  refine gx_iconst (v := 0) C dX4_plot_144 (by decide) ?_
                  refine gx_istore (lv2 := [(5, .int 0), (4, .int (-1)), (0, .ref (eA E 49)), (1, .int (nI k)), (2, .int (nI t)), (3, .int (bset (nn K) (plP K k)))]) C dX4_plot_145 (by decide) rfl ?_
                  have loop147 : ∀ (kf s0 : Nat), s0 ≤ (bsN (fun _ => true) (nn K) + 1) → (bsN (fun _ => true) (nn K) + 1) < s0 + kf → ∀ τ : Mm, (vM τ 50 = K) → (vM τ 53 = K) → (F3 σ τ) → Gx E p e0 (rmF 8 186) s m ([.ref (eA E 49), .int (nI k), .int (nI t)] : List Value).toArray below meth c (MQ below (va_Qi (fun rr σ2 => rr = (opPlot (K, L, g, F, tl, Bt, W, Z, N) (nI k) (nI t)).1 ∧ MR σ2 (opPlot (K, L, g, F, tl, Bt, W, Z, N) (nI k) (nI t)).2 ∧ FM σ σ2) (WQ E) (AA E s.heap.size)) ([.ref (eA E 49), .int (nI k), .int (nI t)] : List Value).toArray s 0 0 (AA E s.heap.size)) 7 147 [(0, .ref (eA E 49)), (1, .int (nI k)), (2, .int (nI t)), (3, .int (bset (nn K) (plP K k))), (4, .int (plB (plQ K k t) (plC K) s0)), (5, .int (nI s0))] [] τ := by
                    intro kf
                    induction kf with
                    | zero => intro s0 q1 q2; exact absurd q2 (by omega)
                    | succ kf ih147 =>
                      intro s0 a147 b147 τ hMt hNt hFt
                      have hM9 := bsN_lt (fun _ => true) (nn K)
                      have hM8 : 2 ^ nn K ≤ 4096 := Nat.pow_le_pow_right (n := 2) (by omega) h12
                      refine gx_iload C dX4_plot_147 (by rfl) ?_
                      refine gx_aload_n C dX4_plot_149 (by rfl) (by rfl) ?_
                      refine gx_callVI (As := []) (rest := [.int (nI s0)]) C (c_X4_everybody E τ K hMt hO) z_X4_everybody ck4 (by rfl) (by rfl) ml_X4_169 (by rfl) (Nat.le_of_ble_eq_true rfl) ⟨Nat.le_of_ble_eq_true rfl, Nat.le_of_ble_eq_true rfl⟩ dX4_plot_150 (fun r16 σ16 w16 => ?_)
                      obtain ⟨u1, u2⟩ := w16; rw [u1, u2]; clear u1 u2
                      refine gx_st (st' := [.int (nI (bsN (fun _ => true) (nn K))), .int (nI s0)]) (by rw [show bset (nn K) (fun _ => true) = nI (bsN (fun _ => true) (nn K)) from rfl]) ?_
                      refine gx_icmp_gt (tgt := 263) C dX4_plot_153 (by decide) (fun h17 => ?_) (fun h17 => ?_)
                      ·
                        have h17 := (nI_ltI (a := (bsN (fun _ => true) (nn K))) (b := s0) (by omega) (by omega)).mp h17
                        refine gx_aload_n C dX4_plot_263 (by rfl) (by rfl) ?_
                        refine gx_iload C dX4_plot_264 (by rfl) ?_
                        refine gx_callVI (As := [.int (plB (plQ K k t) (plC K) s0)]) (rest := []) C (c_X4_orNone E τ (plB (plQ K k t) (plC K) s0)) z_X4_orNone ck4 (by rfl) (by rfl) ml_X4_151 (by rfl) (Nat.le_of_ble_eq_true rfl) ⟨Nat.le_of_ble_eq_true rfl, Nat.le_of_ble_eq_true rfl⟩ dX4_plot_266 (fun r18 σ18 w18 => ?_)
                        by_cases hv : (plB (plQ K k t) (plC K) s0) < 0
                        ·
                          obtain ⟨u1, u2⟩ := w18.1 hv; rw [u1, u2]; clear u1 u2
                          exact gx_iret C hr hlk rfl (fim_tfd hR hMt hFt (by decide) (by have q1 := plot_eq (K := K) (p := k) (t := t) h12; have q2 : s0 = bsN (fun _ => true) (nn K) + 1 := (by omega); rw [q2] at hv; rw [← q1] at hv; have q3 : plF K k t (cnt (plP K k) (nn K) + 1) 0 = -1 := (by rw [q1] at hv ⊢; exact (plB_or _ _ (by omega)).resolve_right (fun ⟨b, y1, y2⟩ => nI_pos (show b < 2 ^ 31 by omega) (y2 ▸ hv))); simp only [opPlot, ck, ct, q3, bey, sta, siz, non]; rw [if_pos (by grind), if_neg (by grind), if_neg (by omega)]; simp)) dX4_plot_269
                        ·
                          obtain ⟨u1, u2⟩ := w18.2 hv; rw [u1, u2]; clear u1 u2
                          exact gx_iret C hr hlk rfl (fim_try hR hMt hFt (by have q1 := plot_eq (K := K) (p := k) (t := t) h12; have q2 : s0 = bsN (fun _ => true) (nn K) + 1 := (by omega); rw [q2] at hv; rw [q2, ← q1]; rw [← q1] at hv; have q3 : ¬ plF K k t (cnt (plP K k) (nn K) + 1) 0 = -1 := fun q9 => hv (by rw [q9]; decide); simp only [opPlot, ck, ct, bey, sta, siz, non]; rw [if_pos (by grind), if_neg (by grind), if_neg (by omega), if_neg q3])) dX4_plot_269
                      ·
                        have h17 := (not_congr (nI_ltI (a := (bsN (fun _ => true) (nn K))) (b := s0) (by omega) (by omega))).mp h17
                        have hs2 : s0 < 2 ^ nn K := by omega
                        refine gx_iload C dX4_plot_156 (by rfl) ?_
                        refine gx_iload_n C dX4_plot_158 (by rfl) (by rfl) ?_
                        refine gx_iconst (v := (-1)) C dX4_plot_159 (by decide) ?_
                        refine gx_ixor C dX4_plot_160 ?_
                        refine gx_iand C dX4_plot_161 ?_
                        refine gx_if_ne (tgt := 257) C dX4_plot_162 (by decide) (fun h19 => ?_) (fun h19 => ?_)
                        ·
                          refine gx_iinc (v := nI (s0 + 1)) (lv2 := [(5, .int (nI (s0 + 1))), (0, .ref (eA E 49)), (1, .int (nI k)), (2, .int (nI t)), (3, .int (bset (nn K) (plP K k))), (4, .int (plB (plQ K k t) (plC K) s0))]) C dX4_plot_257 (by rfl) (by exact nI_p1 _) (by decide) rfl ?_
                          refine gx_goto (tgt := 147) C dX4_plot_260 (by decide) ?_
                          refine gx_sub [1, 2, 3, 4, 5, 0] (lv' := [(0, .ref (eA E 49)), (1, .int (nI k)), (2, .int (nI t)), (3, .int (bset (nn K) (plP K k))), (4, .int (plB (plQ K k t) (plC K) s0)), (5, .int (nI (s0 + 1)))]) rfl ?_
                          refine gx_lv (lv' := [(0, .ref (eA E 49)), (1, .int (nI k)), (2, .int (nI t)), (3, .int (bset (nn K) (plP K k))), (4, .int (plB (plQ K k t) (plC K) (s0 + 1))), (5, .int (nI (s0 + 1)))]) (by rw [plB, if_neg (fun q9 => h19 (plQ_s q9.1))]) ?_
                          exact ih147 (s0 + 1) (by omega) (by omega) τ hMt hNt hFt
                        ·
                          have hps := h19
                          refine gx_iload C dX4_plot_165 (by rfl) ?_
                          refine gx_if_lt (tgt := 186) C dX4_plot_167 (by decide) (fun h20 => ?_) (fun h20 => ?_)
                          ·
                            have hor : plB (plQ K k t) (plC K) s0 = -1 ∨ plC K s0 < plC K (cl (plB (plQ K k t) (plC K) s0)) := Or.inl ((plB_or _ _ (by omega)).resolve_right (fun ⟨b, y1, y2⟩ => nI_pos (show b < 2 ^ 31 by omega) (y2 ▸ h20)))
                            refine gx_iconst (v := 0) C dX4_plot_186 (by decide) ?_
                            refine gx_istore (lv2 := [(6, .int 0), (0, .ref (eA E 49)), (1, .int (nI k)), (2, .int (nI t)), (3, .int (bset (nn K) (plP K k))), (4, .int (plB (plQ K k t) (plC K) s0)), (5, .int (nI s0))]) C dX4_plot_187 (by decide) rfl ?_
                            have loop189 : ∀ (kf p0 : Nat), p0 ≤ nn K → nn K < p0 + kf → ∀ τ2 : Mm, (vM τ2 50 = rsK K (fun q => s0.testBit q) (nI k) p0) → (vM τ2 53 = K) → (F3 σ τ2) → Gx E p e0 (rmF 8 186) s m ([.ref (eA E 49), .int (nI k), .int (nI t)] : List Value).toArray below meth c (MQ below (va_Qi (fun rr σ2 => rr = (opPlot (K, L, g, F, tl, Bt, W, Z, N) (nI k) (nI t)).1 ∧ MR σ2 (opPlot (K, L, g, F, tl, Bt, W, Z, N) (nI k) (nI t)).2 ∧ FM σ σ2) (WQ E) (AA E s.heap.size)) ([.ref (eA E 49), .int (nI k), .int (nI t)] : List Value).toArray s 0 0 (AA E s.heap.size)) 7 189 [(0, .ref (eA E 49)), (1, .int (nI k)), (2, .int (nI t)), (3, .int (bset (nn K) (plP K k))), (4, .int (plB (plQ K k t) (plC K) s0)), (5, .int (nI s0)), (6, .int (nI p0))] [] τ2 := by
                              intro kf
                              induction kf with
                              | zero => intro p0 q1 q2; exact absurd q2 (by omega)
                              | succ kf ih189 =>
                                intro p0 a189 b189 τ2 hMt2 hNt2 hFt2
                                refine gx_iload C dX4_plot_189 (by rfl) ?_
                                refine gx_aload_n C dX4_plot_191 (by rfl) (by rfl) ?_
                                refine gx_getr (j := 50) (k := 0) C ck4 (by rfl) (by rfl) (by decide) fl_X4_9 dX4_plot_192 ?_
                                refine gx_bipush (v := 6) C dX4_plot_195 (by decide) ?_
                                refine gx_ialdN (k := 6) C (by rfl) (by rfl) (by decide) (by decide) dX4_plot_197 ?_
                                refine gx_st (st' := [.int (nI (nn K)), .int (nI p0)]) (by rw [mp_n hMt2, (show (rsK K (fun q => s0.testBit q) (nI k) p0) 0 0 = nI (nn K) from hn)]) ?_
                                refine gx_icmp_ge (tgt := 225) C dX4_plot_198 (by decide) (fun h21 => ?_) (fun h21 => ?_)
                                ·
                                  have h21 := (nI_leI (a := (nn K)) (b := p0) (by omega) (by omega)).mp h21
                                  have q2 : p0 = nn K := by omega
                                  have hMt3 : vM τ2 50 = rsK K (fun q => s0.testBit q) (nI k) (nn K) := by rw [hMt2, q2]
                                  have hnr := nn_rs K (fun q => s0.testBit q) (nI k) (nn K)
                                  refine gx_aload_n C dX4_plot_225 (by rfl) (by rfl) ?_
                                  refine gx_iload_n C dX4_plot_226 (by rfl) (by rfl) ?_
                                  refine gx_iconst (v := 4) C dX4_plot_227 (by decide) ?_
                                  refine gx_iload_n C dX4_plot_228 (by rfl) (by rfl) ?_
                                  refine gx_iadd C dX4_plot_229 ?_
                                  refine gx_st (st' := [.int (nI (4 + k)), .int (nI t), .ref (eA E 49)]) (by rw [show 4 + (nI k) = nI (4 + k) from nI_add 4 k]) ?_
                                  refine gx_callVI (As := [.int (nI t), .int (nI (4 + k))]) (rest := []) C (k_X4_behind_q E τ2 (rsK K (fun q => s0.testBit q) (nI k) (nn K)) hMt3 (Ok_rs hO hkr (nn K) (by omega)) t (by omega) k (by omega)) z_X4_behind ck4 (by rfl) (by rfl) ml_X4_172 (by rfl) (Nat.le_of_ble_eq_true rfl) ⟨Nat.le_of_ble_eq_true rfl, Nat.le_of_ble_eq_true rfl⟩ dX4_plot_230 (fun r22 σ22 w22 => ?_)
                                  obtain ⟨er22, hM22, hF22⟩ := w22
                                  have hN23 : vM σ22 53 = K := (vM_o (hF22 53 (by decide) (by decide))).trans hNt2
                                  refine gx_st (st' := [.int (mos t (rsK K (fun q => s0.testBit q) (nI k) (nn K)) 2 k)]) (by rw [er22]) ?_
                                  refine gx_iconst (v := (-1)) C dX4_plot_233 (by decide) ?_
                                  refine gx_icmp_ne (tgt := 242) C dX4_plot_234 (by decide) (fun h24 => ?_) (fun h24 => ?_)
                                  ·
                                    have hpw := h24
                                    refine gx_iload C dX4_plot_242 (by rfl) ?_
                                    refine gx_istore (lv2 := [(4, .int (plB (plQ K k t) (plC K) s0)), (0, .ref (eA E 49)), (1, .int (nI k)), (2, .int (nI t)), (3, .int (bset (nn K) (plP K k))), (5, .int (nI s0)), (6, .int (nI p0))]) C dX4_plot_244 (by decide) rfl ?_
                                    refine gx_aload_n C dX4_plot_246 (by rfl) (by rfl) ?_
                                    refine gx_getr (j := 53) (k := 3) C ck4 (by rfl) (by rfl) (by decide) fl_X4_19 dX4_plot_247 ?_
                                    refine gx_aload_n C dX4_plot_250 (by rfl) (by rfl) ?_
                                    refine gx_getr (j := 50) (k := 0) C ck4 (by rfl) (by rfl) (by decide) fl_X4_9 dX4_plot_251 ?_
                                    refine gx_callSV (As := [.ref (eA E 53), .ref (eA E 50)]) (rest := []) C (c_X4_row E σ22 53 50 (by rfl) (by rfl) (by decide)) z_X4_row (by rfl) ml_X4_165 (by rfl) (Nat.le_of_ble_eq_true rfl) ⟨Nat.le_of_ble_eq_true rfl, Nat.le_of_ble_eq_true rfl⟩ dX4_plot_254 (fun σ26 w26 => ?_)
                                    obtain ⟨hR26, hF26⟩ := w26
                                    have hN27 : vM σ26 53 = K := (vM_o (hF26 53 (by decide))).trans hN23
                                    have hM26 : vM σ26 50 = K := hR26.trans hN23
                                    refine gx_iinc (v := nI (s0 + 1)) (lv2 := [(5, .int (nI (s0 + 1))), (4, .int (plB (plQ K k t) (plC K) s0)), (0, .ref (eA E 49)), (1, .int (nI k)), (2, .int (nI t)), (3, .int (bset (nn K) (plP K k))), (6, .int (nI p0))]) C dX4_plot_257 (by rfl) (by exact nI_p1 _) (by decide) rfl ?_
                                    refine gx_goto (tgt := 147) C dX4_plot_260 (by decide) ?_
                                    refine gx_sub [2, 3, 4, 5, 1, 0] (lv' := [(0, .ref (eA E 49)), (1, .int (nI k)), (2, .int (nI t)), (3, .int (bset (nn K) (plP K k))), (4, .int (plB (plQ K k t) (plC K) s0)), (5, .int (nI (s0 + 1)))]) rfl ?_
                                    refine gx_lv (lv' := [(0, .ref (eA E 49)), (1, .int (nI k)), (2, .int (nI t)), (3, .int (bset (nn K) (plP K k))), (4, .int (plB (plQ K k t) (plC K) (s0 + 1))), (5, .int (nI (s0 + 1)))]) (by rw [plB, if_neg (fun q9 => hpw (plQ_w q9.1))]) ?_
                                    exact ih147 (s0 + 1) (by omega) (by omega) σ26 hM26 hN27 (((hFt2).f2 hF22).f1 hF26 (by decide))
                                  ·
                                    have hpw := h24
                                    refine gx_iload C dX4_plot_237 (by rfl) ?_
                                    refine gx_goto (tgt := 244) C dX4_plot_239 (by decide) ?_
                                    refine gx_istore (lv2 := [(4, .int (nI s0)), (0, .ref (eA E 49)), (1, .int (nI k)), (2, .int (nI t)), (3, .int (bset (nn K) (plP K k))), (5, .int (nI s0)), (6, .int (nI p0))]) C dX4_plot_244 (by decide) rfl ?_
                                    refine gx_aload_n C dX4_plot_246 (by rfl) (by rfl) ?_
                                    refine gx_getr (j := 53) (k := 3) C ck4 (by rfl) (by rfl) (by decide) fl_X4_19 dX4_plot_247 ?_
                                    refine gx_aload_n C dX4_plot_250 (by rfl) (by rfl) ?_
                                    refine gx_getr (j := 50) (k := 0) C ck4 (by rfl) (by rfl) (by decide) fl_X4_9 dX4_plot_251 ?_
                                    refine gx_callSV (As := [.ref (eA E 53), .ref (eA E 50)]) (rest := []) C (c_X4_row E σ22 53 50 (by rfl) (by rfl) (by decide)) z_X4_row (by rfl) ml_X4_165 (by rfl) (Nat.le_of_ble_eq_true rfl) ⟨Nat.le_of_ble_eq_true rfl, Nat.le_of_ble_eq_true rfl⟩ dX4_plot_254 (fun σ28 w28 => ?_)
                                    obtain ⟨hR28, hF28⟩ := w28
                                    have hN29 : vM σ28 53 = K := (vM_o (hF28 53 (by decide))).trans hN23
                                    have hM28 : vM σ28 50 = K := hR28.trans hN23
                                    refine gx_iinc (v := nI (s0 + 1)) (lv2 := [(5, .int (nI (s0 + 1))), (4, .int (nI s0)), (0, .ref (eA E 49)), (1, .int (nI k)), (2, .int (nI t)), (3, .int (bset (nn K) (plP K k))), (6, .int (nI p0))]) C dX4_plot_257 (by rfl) (by exact nI_p1 _) (by decide) rfl ?_
                                    refine gx_goto (tgt := 147) C dX4_plot_260 (by decide) ?_
                                    refine gx_sub [2, 3, 4, 5, 1, 0] (lv' := [(0, .ref (eA E 49)), (1, .int (nI k)), (2, .int (nI t)), (3, .int (bset (nn K) (plP K k))), (4, .int (nI s0)), (5, .int (nI (s0 + 1)))]) rfl ?_
                                    refine gx_lv (lv' := [(0, .ref (eA E 49)), (1, .int (nI k)), (2, .int (nI t)), (3, .int (bset (nn K) (plP K k))), (4, .int (plB (plQ K k t) (plC K) (s0 + 1))), (5, .int (nI (s0 + 1)))]) (by rw [plB, if_pos ⟨plQ_t hps hpw, hor⟩]) ?_
                                    exact ih147 (s0 + 1) (by omega) (by omega) σ28 hM28 hN29 (((hFt2).f2 hF22).f1 hF28 (by decide))
                                ·
                                  have h21 := (not_congr (nI_leI (a := (nn K)) (b := p0) (by omega) (by omega))).mp h21
                                  refine gx_iload C dX4_plot_201 (by rfl) ?_
                                  refine gx_iload C dX4_plot_203 (by rfl) ?_
                                  refine gx_st (st' := [.int (nI p0), .int (bset (nn K) (fun q => s0.testBit q))]) (by rw [nI_bset hs2]) ?_
                                  refine gx_callSI (As := [.int (bset (nn K) (fun q => s0.testBit q)), .int (nI p0)]) (rest := []) C (c_X4_has E τ2 (nn K) (by omega) (fun q => s0.testBit q) p0 (by omega)) z_X4_has (by rfl) ml_X4_71 (by rfl) (Nat.le_of_ble_eq_true rfl) ⟨Nat.le_of_ble_eq_true rfl, Nat.le_of_ble_eq_true rfl⟩ dX4_plot_205 (fun r30 σ30 w30 => ?_)
                                  obtain ⟨u1, u2⟩ := w30; rw [u1, u2]; clear u1 u2
                                  refine gx_if_eq (tgt := 219) C dX4_plot_208 (by decide) (fun h31 => ?_) (fun h31 => ?_)
                                  ·
                                    have h31 := b2_z.mp h31
                                    refine gx_iinc (v := nI (p0 + 1)) (lv2 := [(6, .int (nI (p0 + 1))), (0, .ref (eA E 49)), (1, .int (nI k)), (2, .int (nI t)), (3, .int (bset (nn K) (plP K k))), (4, .int (plB (plQ K k t) (plC K) s0)), (5, .int (nI s0))]) C dX4_plot_219 (by rfl) (by exact nI_p1 _) (by decide) rfl ?_
                                    refine gx_goto (tgt := 189) C dX4_plot_222 (by decide) ?_
                                    refine gx_sub [1, 2, 3, 4, 5, 6, 0] (lv' := [(0, .ref (eA E 49)), (1, .int (nI k)), (2, .int (nI t)), (3, .int (bset (nn K) (plP K k))), (4, .int (plB (plQ K k t) (plC K) s0)), (5, .int (nI s0)), (6, .int (nI (p0 + 1)))]) rfl ?_
                                    exact ih189 (p0 + 1) (by omega) (by omega) τ2 (by rw [← rsK_f (by simpa using ‹¬ s0.testBit p0 = true›)]; exact hMt2) hNt2 hFt2
                                  ·
                                    have h31 := b2_nz.mp h31
                                    refine gx_aload_n C dX4_plot_211 (by rfl) (by rfl) ?_
                                    refine gx_iload C dX4_plot_212 (by rfl) ?_
                                    refine gx_iload_n C dX4_plot_214 (by rfl) (by rfl) ?_
                                    refine gx_callVI (As := [.int (nI p0), .int (nI k)]) (rest := []) C (c_X4_bears E τ2 (rsK K (fun q => s0.testBit q) (nI k) p0) hMt2 (Ok_rs hO hkr p0 (by omega)) p0 (by omega) (nI k)) z_X4_bears ck4 (by rfl) (by rfl) ml_X4_116 (by rfl) (Nat.le_of_ble_eq_true rfl) ⟨Nat.le_of_ble_eq_true rfl, Nat.le_of_ble_eq_true rfl⟩ dX4_plot_215 (fun r32 σ32 w32 => ?_)
                                    obtain ⟨er32, hM32, hF32⟩ := w32
                                    rw [bear_c] at hM32
                                    have hN33 : vM σ32 53 = K := (vM_o (hF32 53 (by decide))).trans hNt2
                                    refine gx_st (st' := [.int ((rsK K (fun q => s0.testBit q) (nI k) p0) 6 p0)]) (by rw [er32]) ?_
                                    refine gx_pop C (by rfl) dX4_plot_218 ?_
                                    refine gx_iinc (v := nI (p0 + 1)) (lv2 := [(6, .int (nI (p0 + 1))), (0, .ref (eA E 49)), (1, .int (nI k)), (2, .int (nI t)), (3, .int (bset (nn K) (plP K k))), (4, .int (plB (plQ K k t) (plC K) s0)), (5, .int (nI s0))]) C dX4_plot_219 (by rfl) (by exact nI_p1 _) (by decide) rfl ?_
                                    refine gx_goto (tgt := 189) C dX4_plot_222 (by decide) ?_
                                    refine gx_sub [1, 2, 3, 4, 5, 6, 0] (lv' := [(0, .ref (eA E 49)), (1, .int (nI k)), (2, .int (nI t)), (3, .int (bset (nn K) (plP K k))), (4, .int (plB (plQ K k t) (plC K) s0)), (5, .int (nI s0)), (6, .int (nI (p0 + 1)))]) rfl ?_
                                    exact ih189 (p0 + 1) (by omega) (by omega) σ32 (by rw [← rsK_t (by assumption)]; exact hM32) hN33 ((hFt2).f1 hF32 (by decide))
                            refine gx_sub [1, 2, 3, 4, 5, 6, 0] (lv' := [(0, .ref (eA E 49)), (1, .int (nI k)), (2, .int (nI t)), (3, .int (bset (nn K) (plP K k))), (4, .int (plB (plQ K k t) (plC K) s0)), (5, .int (nI s0)), (6, .int 0)]) rfl ?_
                            refine gx_lv (lv' := [(0, .ref (eA E 49)), (1, .int (nI k)), (2, .int (nI t)), (3, .int (bset (nn K) (plP K k))), (4, .int (plB (plQ K k t) (plC K) s0)), (5, .int (nI s0)), (6, .int (nI 0))]) (by rfl) ?_
                            exact loop189 (nn K + 1) 0 (by omega) (by omega) τ (by rw [rsK_0]; exact hMt) hNt hFt
                          ·
                            obtain ⟨b0, hb0, eb⟩ := (plB_or (plQ K k t) (plC K) (i := s0) (by omega)).resolve_left (fun q9 => h20 (by rw [q9]; decide))
                            have hb2 : b0 < 2 ^ nn K := by omega
                            have hcs := cnt_le (fun q => s0.testBit q) (nn K)
                            have hcb := cnt_le (fun q => b0.testBit q) (nn K)
                            refine gx_iload C dX4_plot_170 (by rfl) ?_
                            refine gx_st (st' := [.int (bset (nn K) (fun q => s0.testBit q))]) (by rw [nI_bset hs2]) ?_
                            refine gx_callSI (As := [.int (bset (nn K) (fun q => s0.testBit q))]) (rest := []) C (c_X4_many E τ (nn K) (by omega) (fun q => s0.testBit q)) z_X4_many (by rfl) ml_X4_58 (by rfl) (Nat.le_of_ble_eq_true rfl) ⟨Nat.le_of_ble_eq_true rfl, Nat.le_of_ble_eq_true rfl⟩ dX4_plot_172 (fun r34 σ34 w34 => ?_)
                            obtain ⟨u1, u2⟩ := w34; rw [u1, u2]; clear u1 u2
                            refine gx_iload C dX4_plot_175 (by rfl) ?_
                            refine gx_st (st' := [.int (bset (nn K) (fun q => b0.testBit q)), .int (nI (cnt (fun q => s0.testBit q) (nn K)))]) (by rw [eb, nI_bset hb2]) ?_
                            refine gx_callSI (As := [.int (bset (nn K) (fun q => b0.testBit q))]) (rest := [.int (nI (cnt (fun q => s0.testBit q) (nn K)))]) C (c_X4_many E τ (nn K) (by omega) (fun q => b0.testBit q)) z_X4_many (by rfl) ml_X4_58 (by rfl) (Nat.le_of_ble_eq_true rfl) ⟨Nat.le_of_ble_eq_true rfl, Nat.le_of_ble_eq_true rfl⟩ dX4_plot_177 (fun r35 σ35 w35 => ?_)
                            obtain ⟨u1, u2⟩ := w35; rw [u1, u2]; clear u1 u2
                            refine gx_icmp_lt (tgt := 186) C dX4_plot_180 (by decide) (fun h36 => ?_) (fun h36 => ?_)
                            ·
                              have h36 := (nI_ltI (a := (cnt (fun q => s0.testBit q) (nn K))) (b := (cnt (fun q => b0.testBit q) (nn K))) (by omega) (by omega)).mp h36
                              have hor : plB (plQ K k t) (plC K) s0 = -1 ∨ plC K s0 < plC K (cl (plB (plQ K k t) (plC K) s0)) := Or.inr (by rw [eb, show cl (nI b0) = b0 from nI_clamp (by omega)]; exact h36)
                              refine gx_iconst (v := 0) C dX4_plot_186 (by decide) ?_
                              refine gx_istore (lv2 := [(6, .int 0), (0, .ref (eA E 49)), (1, .int (nI k)), (2, .int (nI t)), (3, .int (bset (nn K) (plP K k))), (4, .int (plB (plQ K k t) (plC K) s0)), (5, .int (nI s0))]) C dX4_plot_187 (by decide) rfl ?_
                              have loop189 : ∀ (kf p0 : Nat), p0 ≤ nn K → nn K < p0 + kf → ∀ τ2 : Mm, (vM τ2 50 = rsK K (fun q => s0.testBit q) (nI k) p0) → (vM τ2 53 = K) → (F3 σ τ2) → Gx E p e0 (rmF 8 186) s m ([.ref (eA E 49), .int (nI k), .int (nI t)] : List Value).toArray below meth c (MQ below (va_Qi (fun rr σ2 => rr = (opPlot (K, L, g, F, tl, Bt, W, Z, N) (nI k) (nI t)).1 ∧ MR σ2 (opPlot (K, L, g, F, tl, Bt, W, Z, N) (nI k) (nI t)).2 ∧ FM σ σ2) (WQ E) (AA E s.heap.size)) ([.ref (eA E 49), .int (nI k), .int (nI t)] : List Value).toArray s 0 0 (AA E s.heap.size)) 7 189 [(0, .ref (eA E 49)), (1, .int (nI k)), (2, .int (nI t)), (3, .int (bset (nn K) (plP K k))), (4, .int (plB (plQ K k t) (plC K) s0)), (5, .int (nI s0)), (6, .int (nI p0))] [] τ2 := by
                                intro kf
                                induction kf with
                                | zero => intro p0 q1 q2; exact absurd q2 (by omega)
                                | succ kf ih189 =>
                                  intro p0 a189 b189 τ2 hMt2 hNt2 hFt2
                                  refine gx_iload C dX4_plot_189 (by rfl) ?_
                                  refine gx_aload_n C dX4_plot_191 (by rfl) (by rfl) ?_
                                  refine gx_getr (j := 50) (k := 0) C ck4 (by rfl) (by rfl) (by decide) fl_X4_9 dX4_plot_192 ?_
                                  refine gx_bipush (v := 6) C dX4_plot_195 (by decide) ?_
                                  refine gx_ialdN (k := 6) C (by rfl) (by rfl) (by decide) (by decide) dX4_plot_197 ?_
                                  refine gx_st (st' := [.int (nI (nn K)), .int (nI p0)]) (by rw [mp_n hMt2, (show (rsK K (fun q => s0.testBit q) (nI k) p0) 0 0 = nI (nn K) from hn)]) ?_
                                  refine gx_icmp_ge (tgt := 225) C dX4_plot_198 (by decide) (fun h38 => ?_) (fun h38 => ?_)
                                  ·
                                    have h38 := (nI_leI (a := (nn K)) (b := p0) (by omega) (by omega)).mp h38
                                    have q2 : p0 = nn K := by omega
                                    have hMt3 : vM τ2 50 = rsK K (fun q => s0.testBit q) (nI k) (nn K) := by rw [hMt2, q2]
                                    have hnr := nn_rs K (fun q => s0.testBit q) (nI k) (nn K)
                                    refine gx_aload_n C dX4_plot_225 (by rfl) (by rfl) ?_
                                    refine gx_iload_n C dX4_plot_226 (by rfl) (by rfl) ?_
                                    refine gx_iconst (v := 4) C dX4_plot_227 (by decide) ?_
                                    refine gx_iload_n C dX4_plot_228 (by rfl) (by rfl) ?_
                                    refine gx_iadd C dX4_plot_229 ?_
                                    refine gx_st (st' := [.int (nI (4 + k)), .int (nI t), .ref (eA E 49)]) (by rw [show 4 + (nI k) = nI (4 + k) from nI_add 4 k]) ?_
                                    refine gx_callVI (As := [.int (nI t), .int (nI (4 + k))]) (rest := []) C (k_X4_behind_q E τ2 (rsK K (fun q => s0.testBit q) (nI k) (nn K)) hMt3 (Ok_rs hO hkr (nn K) (by omega)) t (by omega) k (by omega)) z_X4_behind ck4 (by rfl) (by rfl) ml_X4_172 (by rfl) (Nat.le_of_ble_eq_true rfl) ⟨Nat.le_of_ble_eq_true rfl, Nat.le_of_ble_eq_true rfl⟩ dX4_plot_230 (fun r39 σ39 w39 => ?_)
                                    obtain ⟨er39, hM39, hF39⟩ := w39
                                    have hN40 : vM σ39 53 = K := (vM_o (hF39 53 (by decide) (by decide))).trans hNt2
                                    refine gx_st (st' := [.int (mos t (rsK K (fun q => s0.testBit q) (nI k) (nn K)) 2 k)]) (by rw [er39]) ?_
                                    refine gx_iconst (v := (-1)) C dX4_plot_233 (by decide) ?_
                                    refine gx_icmp_ne (tgt := 242) C dX4_plot_234 (by decide) (fun h41 => ?_) (fun h41 => ?_)
                                    ·
                                      have hpw := h41
                                      refine gx_iload C dX4_plot_242 (by rfl) ?_
                                      refine gx_istore (lv2 := [(4, .int (plB (plQ K k t) (plC K) s0)), (0, .ref (eA E 49)), (1, .int (nI k)), (2, .int (nI t)), (3, .int (bset (nn K) (plP K k))), (5, .int (nI s0)), (6, .int (nI p0))]) C dX4_plot_244 (by decide) rfl ?_
                                      refine gx_aload_n C dX4_plot_246 (by rfl) (by rfl) ?_
                                      refine gx_getr (j := 53) (k := 3) C ck4 (by rfl) (by rfl) (by decide) fl_X4_19 dX4_plot_247 ?_
                                      refine gx_aload_n C dX4_plot_250 (by rfl) (by rfl) ?_
                                      refine gx_getr (j := 50) (k := 0) C ck4 (by rfl) (by rfl) (by decide) fl_X4_9 dX4_plot_251 ?_
                                      refine gx_callSV (As := [.ref (eA E 53), .ref (eA E 50)]) (rest := []) C (c_X4_row E σ39 53 50 (by rfl) (by rfl) (by decide)) z_X4_row (by rfl) ml_X4_165 (by rfl) (Nat.le_of_ble_eq_true rfl) ⟨Nat.le_of_ble_eq_true rfl, Nat.le_of_ble_eq_true rfl⟩ dX4_plot_254 (fun σ42 w42 => ?_)
                                      obtain ⟨hR42, hF42⟩ := w42
                                      have hN43 : vM σ42 53 = K := (vM_o (hF42 53 (by decide))).trans hN40
                                      have hM42 : vM σ42 50 = K := hR42.trans hN40
                                      refine gx_iinc (v := nI (s0 + 1)) (lv2 := [(5, .int (nI (s0 + 1))), (4, .int (plB (plQ K k t) (plC K) s0)), (0, .ref (eA E 49)), (1, .int (nI k)), (2, .int (nI t)), (3, .int (bset (nn K) (plP K k))), (6, .int (nI p0))]) C dX4_plot_257 (by rfl) (by exact nI_p1 _) (by decide) rfl ?_
                                      refine gx_goto (tgt := 147) C dX4_plot_260 (by decide) ?_
                                      refine gx_sub [2, 3, 4, 5, 1, 0] (lv' := [(0, .ref (eA E 49)), (1, .int (nI k)), (2, .int (nI t)), (3, .int (bset (nn K) (plP K k))), (4, .int (plB (plQ K k t) (plC K) s0)), (5, .int (nI (s0 + 1)))]) rfl ?_
                                      refine gx_lv (lv' := [(0, .ref (eA E 49)), (1, .int (nI k)), (2, .int (nI t)), (3, .int (bset (nn K) (plP K k))), (4, .int (plB (plQ K k t) (plC K) (s0 + 1))), (5, .int (nI (s0 + 1)))]) (by rw [plB, if_neg (fun q9 => hpw (plQ_w q9.1))]) ?_
                                      exact ih147 (s0 + 1) (by omega) (by omega) σ42 hM42 hN43 (((hFt2).f2 hF39).f1 hF42 (by decide))
                                    ·
                                      have hpw := h41
                                      refine gx_iload C dX4_plot_237 (by rfl) ?_
                                      refine gx_goto (tgt := 244) C dX4_plot_239 (by decide) ?_
                                      refine gx_istore (lv2 := [(4, .int (nI s0)), (0, .ref (eA E 49)), (1, .int (nI k)), (2, .int (nI t)), (3, .int (bset (nn K) (plP K k))), (5, .int (nI s0)), (6, .int (nI p0))]) C dX4_plot_244 (by decide) rfl ?_
                                      refine gx_aload_n C dX4_plot_246 (by rfl) (by rfl) ?_
                                      refine gx_getr (j := 53) (k := 3) C ck4 (by rfl) (by rfl) (by decide) fl_X4_19 dX4_plot_247 ?_
                                      refine gx_aload_n C dX4_plot_250 (by rfl) (by rfl) ?_
                                      refine gx_getr (j := 50) (k := 0) C ck4 (by rfl) (by rfl) (by decide) fl_X4_9 dX4_plot_251 ?_
                                      refine gx_callSV (As := [.ref (eA E 53), .ref (eA E 50)]) (rest := []) C (c_X4_row E σ39 53 50 (by rfl) (by rfl) (by decide)) z_X4_row (by rfl) ml_X4_165 (by rfl) (Nat.le_of_ble_eq_true rfl) ⟨Nat.le_of_ble_eq_true rfl, Nat.le_of_ble_eq_true rfl⟩ dX4_plot_254 (fun σ44 w44 => ?_)
                                      obtain ⟨hR44, hF44⟩ := w44
                                      have hN45 : vM σ44 53 = K := (vM_o (hF44 53 (by decide))).trans hN40
                                      have hM44 : vM σ44 50 = K := hR44.trans hN40
                                      refine gx_iinc (v := nI (s0 + 1)) (lv2 := [(5, .int (nI (s0 + 1))), (4, .int (nI s0)), (0, .ref (eA E 49)), (1, .int (nI k)), (2, .int (nI t)), (3, .int (bset (nn K) (plP K k))), (6, .int (nI p0))]) C dX4_plot_257 (by rfl) (by exact nI_p1 _) (by decide) rfl ?_
                                      refine gx_goto (tgt := 147) C dX4_plot_260 (by decide) ?_
                                      refine gx_sub [2, 3, 4, 5, 1, 0] (lv' := [(0, .ref (eA E 49)), (1, .int (nI k)), (2, .int (nI t)), (3, .int (bset (nn K) (plP K k))), (4, .int (nI s0)), (5, .int (nI (s0 + 1)))]) rfl ?_
                                      refine gx_lv (lv' := [(0, .ref (eA E 49)), (1, .int (nI k)), (2, .int (nI t)), (3, .int (bset (nn K) (plP K k))), (4, .int (plB (plQ K k t) (plC K) (s0 + 1))), (5, .int (nI (s0 + 1)))]) (by rw [plB, if_pos ⟨plQ_t hps hpw, hor⟩]) ?_
                                      exact ih147 (s0 + 1) (by omega) (by omega) σ44 hM44 hN45 (((hFt2).f2 hF39).f1 hF44 (by decide))
                                  ·
                                    have h38 := (not_congr (nI_leI (a := (nn K)) (b := p0) (by omega) (by omega))).mp h38
                                    refine gx_iload C dX4_plot_201 (by rfl) ?_
                                    refine gx_iload C dX4_plot_203 (by rfl) ?_
                                    refine gx_st (st' := [.int (nI p0), .int (bset (nn K) (fun q => s0.testBit q))]) (by rw [nI_bset hs2]) ?_
                                    refine gx_callSI (As := [.int (bset (nn K) (fun q => s0.testBit q)), .int (nI p0)]) (rest := []) C (c_X4_has E τ2 (nn K) (by omega) (fun q => s0.testBit q) p0 (by omega)) z_X4_has (by rfl) ml_X4_71 (by rfl) (Nat.le_of_ble_eq_true rfl) ⟨Nat.le_of_ble_eq_true rfl, Nat.le_of_ble_eq_true rfl⟩ dX4_plot_205 (fun r46 σ46 w46 => ?_)
                                    obtain ⟨u1, u2⟩ := w46; rw [u1, u2]; clear u1 u2
                                    refine gx_if_eq (tgt := 219) C dX4_plot_208 (by decide) (fun h47 => ?_) (fun h47 => ?_)
                                    ·
                                      have h47 := b2_z.mp h47
                                      refine gx_iinc (v := nI (p0 + 1)) (lv2 := [(6, .int (nI (p0 + 1))), (0, .ref (eA E 49)), (1, .int (nI k)), (2, .int (nI t)), (3, .int (bset (nn K) (plP K k))), (4, .int (plB (plQ K k t) (plC K) s0)), (5, .int (nI s0))]) C dX4_plot_219 (by rfl) (by exact nI_p1 _) (by decide) rfl ?_
                                      refine gx_goto (tgt := 189) C dX4_plot_222 (by decide) ?_
                                      refine gx_sub [1, 2, 3, 4, 5, 6, 0] (lv' := [(0, .ref (eA E 49)), (1, .int (nI k)), (2, .int (nI t)), (3, .int (bset (nn K) (plP K k))), (4, .int (plB (plQ K k t) (plC K) s0)), (5, .int (nI s0)), (6, .int (nI (p0 + 1)))]) rfl ?_
                                      exact ih189 (p0 + 1) (by omega) (by omega) τ2 (by rw [← rsK_f (by simpa using ‹¬ s0.testBit p0 = true›)]; exact hMt2) hNt2 hFt2
                                    ·
                                      have h47 := b2_nz.mp h47
                                      refine gx_aload_n C dX4_plot_211 (by rfl) (by rfl) ?_
                                      refine gx_iload C dX4_plot_212 (by rfl) ?_
                                      refine gx_iload_n C dX4_plot_214 (by rfl) (by rfl) ?_
                                      refine gx_callVI (As := [.int (nI p0), .int (nI k)]) (rest := []) C (c_X4_bears E τ2 (rsK K (fun q => s0.testBit q) (nI k) p0) hMt2 (Ok_rs hO hkr p0 (by omega)) p0 (by omega) (nI k)) z_X4_bears ck4 (by rfl) (by rfl) ml_X4_116 (by rfl) (Nat.le_of_ble_eq_true rfl) ⟨Nat.le_of_ble_eq_true rfl, Nat.le_of_ble_eq_true rfl⟩ dX4_plot_215 (fun r48 σ48 w48 => ?_)
                                      obtain ⟨er48, hM48, hF48⟩ := w48
                                      rw [bear_c] at hM48
                                      have hN49 : vM σ48 53 = K := (vM_o (hF48 53 (by decide))).trans hNt2
                                      refine gx_st (st' := [.int ((rsK K (fun q => s0.testBit q) (nI k) p0) 6 p0)]) (by rw [er48]) ?_
                                      refine gx_pop C (by rfl) dX4_plot_218 ?_
                                      refine gx_iinc (v := nI (p0 + 1)) (lv2 := [(6, .int (nI (p0 + 1))), (0, .ref (eA E 49)), (1, .int (nI k)), (2, .int (nI t)), (3, .int (bset (nn K) (plP K k))), (4, .int (plB (plQ K k t) (plC K) s0)), (5, .int (nI s0))]) C dX4_plot_219 (by rfl) (by exact nI_p1 _) (by decide) rfl ?_
                                      refine gx_goto (tgt := 189) C dX4_plot_222 (by decide) ?_
                                      refine gx_sub [1, 2, 3, 4, 5, 6, 0] (lv' := [(0, .ref (eA E 49)), (1, .int (nI k)), (2, .int (nI t)), (3, .int (bset (nn K) (plP K k))), (4, .int (plB (plQ K k t) (plC K) s0)), (5, .int (nI s0)), (6, .int (nI (p0 + 1)))]) rfl ?_
                                      exact ih189 (p0 + 1) (by omega) (by omega) σ48 (by rw [← rsK_t (by assumption)]; exact hM48) hN49 ((hFt2).f1 hF48 (by decide))
                              refine gx_sub [1, 2, 3, 4, 5, 6, 0] (lv' := [(0, .ref (eA E 49)), (1, .int (nI k)), (2, .int (nI t)), (3, .int (bset (nn K) (plP K k))), (4, .int (plB (plQ K k t) (plC K) s0)), (5, .int (nI s0)), (6, .int 0)]) rfl ?_
                              refine gx_lv (lv' := [(0, .ref (eA E 49)), (1, .int (nI k)), (2, .int (nI t)), (3, .int (bset (nn K) (plP K k))), (4, .int (plB (plQ K k t) (plC K) s0)), (5, .int (nI s0)), (6, .int (nI 0))]) (by rfl) ?_
                              exact loop189 (nn K + 1) 0 (by omega) (by omega) τ (by rw [rsK_0]; exact hMt) hNt hFt
                            ·
                              have h36 := (not_congr (nI_ltI (a := (cnt (fun q => s0.testBit q) (nn K))) (b := (cnt (fun q => b0.testBit q) (nn K))) (by omega) (by omega))).mp h36
                              refine gx_goto (tgt := 257) C dX4_plot_183 (by decide) ?_
                              refine gx_iinc (v := nI (s0 + 1)) (lv2 := [(5, .int (nI (s0 + 1))), (0, .ref (eA E 49)), (1, .int (nI k)), (2, .int (nI t)), (3, .int (bset (nn K) (plP K k))), (4, .int (plB (plQ K k t) (plC K) s0))]) C dX4_plot_257 (by rfl) (by exact nI_p1 _) (by decide) rfl ?_
                              refine gx_goto (tgt := 147) C dX4_plot_260 (by decide) ?_
                              refine gx_sub [1, 2, 3, 4, 5, 0] (lv' := [(0, .ref (eA E 49)), (1, .int (nI k)), (2, .int (nI t)), (3, .int (bset (nn K) (plP K k))), (4, .int (plB (plQ K k t) (plC K) s0)), (5, .int (nI (s0 + 1)))]) rfl ?_
                              refine gx_lv (lv' := [(0, .ref (eA E 49)), (1, .int (nI k)), (2, .int (nI t)), (3, .int (bset (nn K) (plP K k))), (4, .int (plB (plQ K k t) (plC K) (s0 + 1))), (5, .int (nI (s0 + 1)))]) (by rw [plB, if_neg (fun q9 => q9.2.elim (fun q8 => nI_m1 (show b0 < 2 ^ 31 by omega) (eb.symm.trans q8)) (fun q8 => by rw [eb, show cl (nI b0) = b0 from nI_clamp (by omega)] at q8; exact h36 q8))]) ?_
                              exact ih147 (s0 + 1) (by omega) (by omega) τ hMt hNt hFt
                  refine gx_sub [2, 3, 4, 5, 1, 0] (lv' := [(0, .ref (eA E 49)), (1, .int (nI k)), (2, .int (nI t)), (3, .int (bset (nn K) (plP K k))), (4, .int (-1)), (5, .int 0)]) rfl ?_
                  refine gx_lv (lv' := [(0, .ref (eA E 49)), (1, .int (nI k)), (2, .int (nI t)), (3, .int (bset (nn K) (plP K k))), (4, .int (plB (plQ K k t) (plC K) 0)), (5, .int (nI 0))]) (by rfl) ?_
                  exact loop147 ((bsN (fun _ => true) (nn K) + 1) + 1) 0 (by omega) (by omega) σ15 hM15 hW15 ((F3.rf).f1 hF15 (by decide))
                ·
                  have h14 := (not_congr (nI_leI (a := (cnt (plP K k) (nn K))) (b := 10) (by omega) (by omega))).mp h14
                  refine gx_aload_n C dX4_plot_123 (by rfl) (by rfl) ?_
                  refine gx_ldc C kc_X4_185 dX4_plot_124 ?_
                  refine gx_callVI (As := [.int (-1000007)]) (rest := []) C (c_X4_finds E σ (-1000007) 6 (by decide) (by decide)) z_X4_finds ck4 (by rfl) (by rfl) ml_X4_39 (by rfl) (Nat.le_of_ble_eq_true rfl) ⟨Nat.le_of_ble_eq_true rfl, Nat.le_of_ble_eq_true rfl⟩ dX4_plot_126 (fun r50 σ50 w50 => ?_)
                  obtain ⟨u1, u2⟩ := w50; rw [u1, u2]; clear u1 u2
                  exact gx_iret C hr hlk rfl (fim_fd hR (by decide) (by simp only [opPlot, ck, ct, bey, sta, siz, non]; rw [if_pos (by grind), if_neg (by grind), if_pos (by omega)])) dX4_plot_129
              ·
                have h10 := (not_congr (nI_leI (a := (nn K)) (b := i) (by omega) (by omega))).mp h10
                refine gx_iload_n C dX4_plot_73 (by rfl) (by rfl) ?_
                refine gx_iload C dX4_plot_74 (by rfl) ?_
                refine gx_iload_n C dX4_plot_76 (by rfl) (by rfl) ?_
                refine gx_icmp_eq (tgt := 105) C dX4_plot_77 (by decide) (fun h51 => ?_) (fun h51 => ?_)
                ·
                  have h51 := (nI_eq (a := i) (b := k) (by omega) (by omega)).mp h51
                  refine gx_iconst (v := 0) C dX4_plot_105 (by decide) ?_
                  refine gx_ior C dX4_plot_106 ?_
                  refine gx_istore_n (lv2 := [(3, .int ((bset i (plP K k)) ||| 0)), (0, .ref (eA E 49)), (1, .int (nI k)), (2, .int (nI t)), (4, .int (nI i))]) C dX4_plot_107 (by rfl) (by decide) rfl ?_
                  refine gx_iinc (v := nI (i + 1)) (lv2 := [(4, .int (nI (i + 1))), (3, .int ((bset i (plP K k)) ||| 0)), (0, .ref (eA E 49)), (1, .int (nI k)), (2, .int (nI t))]) C dX4_plot_108 (by rfl) (by exact nI_p1 _) (by decide) rfl ?_
                  refine gx_goto (tgt := 61) C dX4_plot_111 (by decide) ?_
                  refine gx_sub [2, 3, 4, 1, 0] (lv' := [(0, .ref (eA E 49)), (1, .int (nI k)), (2, .int (nI t)), (3, .int ((bset i (plP K k)) ||| 0)), (4, .int (nI (i + 1)))]) rfl ?_
                  refine gx_lv (lv' := [(0, .ref (eA E 49)), (1, .int (nI k)), (2, .int (nI t)), (3, .int (bset (i + 1) (plP K k))), (4, .int (nI (i + 1)))]) (by rw [or0, bset_f (n := i) (P := plP K k) (by omega) (by simp only [plP, ablP]; grind)]) ?_
                  exact ih61 (i + 1) (by omega) (by omega)
                ·
                  have h51 := (not_congr (nI_eq (a := i) (b := k) (by omega) (by omega))).mp h51
                  refine gx_aload_n C dX4_plot_80 (by rfl) (by rfl) ?_
                  refine gx_iload C dX4_plot_81 (by rfl) ?_
                  refine gx_callVI (As := [.int (nI i)]) (rest := [.int (bset i (plP K k))]) C (c_X4_isOut E σ K hM hO i (by omega)) z_X4_isOut ck4 (by rfl) (by rfl) ml_X4_119 (by rfl) (Nat.le_of_ble_eq_true rfl) ⟨Nat.le_of_ble_eq_true rfl, Nat.le_of_ble_eq_true rfl⟩ dX4_plot_83 (fun r52 σ52 w52 => ?_)
                  obtain ⟨u1, u2⟩ := w52; rw [u1, u2]; clear u1 u2
                  refine gx_if_ne (tgt := 105) C dX4_plot_86 (by decide) (fun h53 => ?_) (fun h53 => ?_)
                  ·
                    have h53 := b2_nz.mp h53
                    refine gx_iconst (v := 0) C dX4_plot_105 (by decide) ?_
                    refine gx_ior C dX4_plot_106 ?_
                    refine gx_istore_n (lv2 := [(3, .int ((bset i (plP K k)) ||| 0)), (0, .ref (eA E 49)), (1, .int (nI k)), (2, .int (nI t)), (4, .int (nI i))]) C dX4_plot_107 (by rfl) (by decide) rfl ?_
                    refine gx_iinc (v := nI (i + 1)) (lv2 := [(4, .int (nI (i + 1))), (3, .int ((bset i (plP K k)) ||| 0)), (0, .ref (eA E 49)), (1, .int (nI k)), (2, .int (nI t))]) C dX4_plot_108 (by rfl) (by exact nI_p1 _) (by decide) rfl ?_
                    refine gx_goto (tgt := 61) C dX4_plot_111 (by decide) ?_
                    refine gx_sub [2, 3, 4, 1, 0] (lv' := [(0, .ref (eA E 49)), (1, .int (nI k)), (2, .int (nI t)), (3, .int ((bset i (plP K k)) ||| 0)), (4, .int (nI (i + 1)))]) rfl ?_
                    refine gx_lv (lv' := [(0, .ref (eA E 49)), (1, .int (nI k)), (2, .int (nI t)), (3, .int (bset (i + 1) (plP K k))), (4, .int (nI (i + 1)))]) (by rw [or0, bset_f (n := i) (P := plP K k) (by omega) (by simp only [plP, ablP]; grind)]) ?_
                    exact ih61 (i + 1) (by omega) (by omega)
                  ·
                    have h53 := b2_z.mp h53
                    refine gx_aload_n C dX4_plot_89 (by rfl) (by rfl) ?_
                    refine gx_iload C dX4_plot_90 (by rfl) ?_
                    refine gx_callVI (As := [.int (nI i)]) (rest := [.int (bset i (plP K k))]) C (c_X4_mayPlot E σ K hM hO i (by omega)) z_X4_mayPlot ck4 (by rfl) (by rfl) ml_X4_182 (by rfl) (Nat.le_of_ble_eq_true rfl) ⟨Nat.le_of_ble_eq_true rfl, Nat.le_of_ble_eq_true rfl⟩ dX4_plot_92 (fun r54 σ54 w54 => ?_)
                    obtain ⟨u1, u2⟩ := w54; rw [u1, u2]; clear u1 u2
                    refine gx_if_eq (tgt := 105) C dX4_plot_95 (by decide) (fun h55 => ?_) (fun h55 => ?_)
                    ·
                      have h55 := b2_z.mp h55
                      refine gx_iconst (v := 0) C dX4_plot_105 (by decide) ?_
                      refine gx_ior C dX4_plot_106 ?_
                      refine gx_istore_n (lv2 := [(3, .int ((bset i (plP K k)) ||| 0)), (0, .ref (eA E 49)), (1, .int (nI k)), (2, .int (nI t)), (4, .int (nI i))]) C dX4_plot_107 (by rfl) (by decide) rfl ?_
                      refine gx_iinc (v := nI (i + 1)) (lv2 := [(4, .int (nI (i + 1))), (3, .int ((bset i (plP K k)) ||| 0)), (0, .ref (eA E 49)), (1, .int (nI k)), (2, .int (nI t))]) C dX4_plot_108 (by rfl) (by exact nI_p1 _) (by decide) rfl ?_
                      refine gx_goto (tgt := 61) C dX4_plot_111 (by decide) ?_
                      refine gx_sub [2, 3, 4, 1, 0] (lv' := [(0, .ref (eA E 49)), (1, .int (nI k)), (2, .int (nI t)), (3, .int ((bset i (plP K k)) ||| 0)), (4, .int (nI (i + 1)))]) rfl ?_
                      refine gx_lv (lv' := [(0, .ref (eA E 49)), (1, .int (nI k)), (2, .int (nI t)), (3, .int (bset (i + 1) (plP K k))), (4, .int (nI (i + 1)))]) (by rw [or0, bset_f (n := i) (P := plP K k) (by omega) (by simp only [plP, ablP]; grind)]) ?_
                      exact ih61 (i + 1) (by omega) (by omega)
                    ·
                      have h55 := b2_nz.mp h55
                      refine gx_iconst (v := 1) C dX4_plot_98 (by decide) ?_
                      refine gx_iload C dX4_plot_99 (by rfl) ?_
                      refine gx_ishl C dX4_plot_101 ?_
                      refine gx_goto (tgt := 106) C dX4_plot_102 (by decide) ?_
                      refine gx_ior C dX4_plot_106 ?_
                      refine gx_istore_n (lv2 := [(3, .int ((bset i (plP K k)) ||| (1 <<< ((nI i) &&& 31)))), (0, .ref (eA E 49)), (1, .int (nI k)), (2, .int (nI t)), (4, .int (nI i))]) C dX4_plot_107 (by rfl) (by decide) rfl ?_
                      refine gx_iinc (v := nI (i + 1)) (lv2 := [(4, .int (nI (i + 1))), (3, .int ((bset i (plP K k)) ||| (1 <<< ((nI i) &&& 31)))), (0, .ref (eA E 49)), (1, .int (nI k)), (2, .int (nI t))]) C dX4_plot_108 (by rfl) (by exact nI_p1 _) (by decide) rfl ?_
                      refine gx_goto (tgt := 61) C dX4_plot_111 (by decide) ?_
                      refine gx_sub [2, 3, 4, 1, 0] (lv' := [(0, .ref (eA E 49)), (1, .int (nI k)), (2, .int (nI t)), (3, .int ((bset i (plP K k)) ||| (1 <<< ((nI i) &&& 31)))), (4, .int (nI (i + 1)))]) rfl ?_
                      refine gx_lv (lv' := [(0, .ref (eA E 49)), (1, .int (nI k)), (2, .int (nI t)), (3, .int (bset (i + 1) (plP K k))), (4, .int (nI (i + 1)))]) (by rw [bset_t (n := i) (P := plP K k) (by omega) (by simp only [plP, ablP]; grind)]) ?_
                      exact ih61 (i + 1) (by omega) (by omega)
          refine gx_sub [2, 3, 4, 1, 0] (lv' := [(0, .ref (eA E 49)), (1, .int (nI k)), (2, .int (nI t)), (3, .int 0), (4, .int 0)]) rfl ?_
          refine gx_lv (lv' := [(0, .ref (eA E 49)), (1, .int (nI k)), (2, .int (nI t)), (3, .int (bset 0 (plP K k))), (4, .int (nI 0))]) (by rfl) ?_
          exact loop61 (nn K + 1) 0 (by omega) (by omega)
        ·
          refine gx_aload_n C dX4_plot_49 (by rfl) (by rfl) ?_
          refine gx_ldc C kc_X4_67 dX4_plot_50 ?_
          refine gx_callVI (As := [.int (-1000005)]) (rest := []) C (c_X4_finds E σ (-1000005) 4 (by decide) (by decide)) z_X4_finds ck4 (by rfl) (by rfl) ml_X4_39 (by rfl) (Nat.le_of_ble_eq_true rfl) ⟨Nat.le_of_ble_eq_true rfl, Nat.le_of_ble_eq_true rfl⟩ dX4_plot_52 (fun r56 σ56 w56 => ?_)
          obtain ⟨u1, u2⟩ := w56; rw [u1, u2]; clear u1 u2
          exact gx_iret C hr hlk rfl (fim_fd hR (by decide) (by first | (simp only [opPlot, ck, ct, bey, sta, siz, non] <;> grind) | (simp only [opPlot, ck, bey, sta, siz, non] <;> grind) | (simp only [opPlot, bey, sta, siz, non] <;> grind))) dX4_plot_55
    ·
      have h5 := b2_z.mp h5
      refine gx_aload_n C dX4_plot_20 (by rfl) (by rfl) ?_
      refine gx_ldc C kc_X4_37 dX4_plot_21 ?_
      refine gx_callVI (As := [.int (-1000001)]) (rest := []) C (c_X4_finds E σ (-1000001) 0 (by decide) (by decide)) z_X4_finds ck4 (by rfl) (by rfl) ml_X4_39 (by rfl) (Nat.le_of_ble_eq_true rfl) ⟨Nat.le_of_ble_eq_true rfl, Nat.le_of_ble_eq_true rfl⟩ dX4_plot_23 (fun r57 σ57 w57 => ?_)
      obtain ⟨u1, u2⟩ := w57; rw [u1, u2]; clear u1 u2
      exact gx_iret C hr hlk rfl (fim_fd hR (by decide) (by first | (simp only [opPlot, ck, ct, bey, sta, siz, non] <;> grind) | (simp only [opPlot, ck, bey, sta, siz, non] <;> grind) | (simp only [opPlot, bey, sta, siz, non] <;> grind))) dX4_plot_26
