set_option maxHeartbeats 4000000 in
set_option maxRecDepth 100000 in
theorem c_X3_leastPlot (E : En) (σ : Mm) (K : Mm) (hK : Emp σ 13 K) (hO : Ok K) (k : Nat) (hk : k < nn K) (t : Nat) (ht : t ≤ 12) (sz : Nat) (hsz : sz ≤ 12) : CtI E yX3_leastPlot cX3_leastPlot 6 (some .int) 6 137 [.ref (eA E 0), .int (nI k), .int (nI t), .int (bset (nn K) (plP K k)), .int (nI sz)] σ (fun rr σ2 => rr = lpF K k t sz ∧ Fr 37 σ σ2) := by
  obtain ⟨⟨hn, h12⟩, hpp, hlw, hsp, hz0⟩ := id hO
  refine CtI.of (by decide +kernel) (Nat.le_of_ble_eq_true rfl) (fun p e0 s m below meth c C hr hlk => ?_)
  refine gx_lv (lv' := [(0, .ref (eA E 0)), (1, .int (nI k)), (2, .int (nI t)), (3, .int (bset (nn K) (plP K k))), (4, .int (nI sz))]) rfl ?_
  refine gx_iconst (v := 0) C dX3_leastPlot_0 (by decide) ?_
  refine gx_istore (lv2 := [(5, .int 0), (0, .ref (eA E 0)), (1, .int (nI k)), (2, .int (nI t)), (3, .int (bset (nn K) (plP K k))), (4, .int (nI sz))]) C dX3_leastPlot_1 (by decide) rfl ?_
  have loop3 : ∀ (kf s0 : Nat), s0 ≤ (plA K k + 1) → (plA K k + 1) < s0 + kf → ∀ τ : Mm, (Fr 37 σ τ) → (∀ b, 0 ≤ b → b < s0 → (fun s => plS K k s && (decide (popN s 12 = sz) && plW K k t s)) b = false) → Gx E p e0 (rmF 6 137) s m ([.ref (eA E 0), .int (nI k), .int (nI t), .int (bset (nn K) (plP K k)), .int (nI sz)] : List Value).toArray below meth c (MQ below (va_Qi (fun rr σ2 => rr = lpF K k t sz ∧ Fr 37 σ σ2) (WQ E) (AA E s.heap.size)) ([.ref (eA E 0), .int (nI k), .int (nI t), .int (bset (nn K) (plP K k)), .int (nI sz)] : List Value).toArray s 0 0 (AA E s.heap.size)) 6 3 [(0, .ref (eA E 0)), (1, .int (nI k)), (2, .int (nI t)), (3, .int (bset (nn K) (plP K k))), (4, .int (nI sz)), (5, .int (nI s0))] [] τ := by
    intro kf
    induction kf with
    | zero => intro s0 q1 q2; exact absurd q2 (by omega)
    | succ kf ih3 =>
      intro s0 a3 b3 τ hFt hno
      have hKn := Emp.fr (e2 := 37) hK hFt (by decide)
      have hal := plA_lt K k h12
      have hpo := popN_le s0 12
      refine gx_iload C dX3_leastPlot_3 (by rfl) ?_
      refine gx_iload_n C dX3_leastPlot_5 (by rfl) (by rfl) ?_
      refine gx_st (st' := [.int (nI (plA K k)), .int (nI s0)]) (by rw [show bset (nn K) (plP K k) = nI (plA K k) from rfl]) ?_
      refine gx_icmp_gt (tgt := 70) C dX3_leastPlot_6 (by decide) (fun h1 => ?_) (fun h1 => ?_)
      ·
        have h1 := (nI_ltI (a := (plA K k)) (b := s0) (by omega) (by omega)).mp h1
        refine gx_iconst (v := (-1)) C dX3_leastPlot_70 (by decide) ?_
        exact gx_iret C hr hlk rfl ⟨(frst_no (P := fun s => plS K k s && (decide (popN s 12 = sz) && plW K k t s)) _ 0 (fun b x1 x2 => hno b x1 (by omega))).symm, hFt⟩ dX3_leastPlot_71
      ·
        have h1 := (not_congr (nI_ltI (a := (plA K k)) (b := s0) (by omega) (by omega))).mp h1
        refine gx_iload C dX3_leastPlot_9 (by rfl) ?_
        refine gx_iload_n C dX3_leastPlot_11 (by rfl) (by rfl) ?_
        refine gx_iconst (v := (-1)) C dX3_leastPlot_12 (by decide) ?_
        refine gx_ixor C dX3_leastPlot_13 ?_
        refine gx_iand C dX3_leastPlot_14 ?_
        refine gx_if_ne (tgt := 64) C dX3_leastPlot_15 (by decide) (fun h2 => ?_) (fun h2 => ?_)
        ·
          refine gx_iinc (v := nI (s0 + 1)) (lv2 := [(5, .int (nI (s0 + 1))), (0, .ref (eA E 0)), (1, .int (nI k)), (2, .int (nI t)), (3, .int (bset (nn K) (plP K k))), (4, .int (nI sz))]) C dX3_leastPlot_64 (by rfl) (by exact nI_p1 _) (by decide) rfl ?_
          refine gx_goto (tgt := 3) C dX3_leastPlot_67 (by decide) ?_
          refine gx_sub [1, 2, 3, 4, 5, 0] (lv' := [(0, .ref (eA E 0)), (1, .int (nI k)), (2, .int (nI t)), (3, .int (bset (nn K) (plP K k))), (4, .int (nI sz)), (5, .int (nI (s0 + 1)))]) rfl ?_
          exact ih3 (s0 + 1) (by omega) (by omega) τ hFt (fun b x1 x2 => (Nat.lt_or_ge b s0).elim (fun x3 => hno b x1 x3) (fun x3 => by rw [show b = s0 by omega]; simp only [plS, plW]; grind))
        ·
          refine gx_iload C dX3_leastPlot_18 (by rfl) ?_
          refine gx_callSI (As := [.int (nI s0)]) (rest := []) C (c_J6_bitCount_0f7a4 E τ (nI s0)) z_J6_bitCount_0f7a4 (by rfl) ml_X3_67 (by rfl) (Nat.le_of_ble_eq_true rfl) ⟨Nat.le_of_ble_eq_true rfl, Nat.le_of_ble_eq_true rfl⟩ dX3_leastPlot_20 (fun r3 σ3 w3 => ?_)
          obtain ⟨u1, u2⟩ := w3; rw [u1, u2]; clear u1 u2
          refine gx_st (st' := [.int (nI (popN s0 12))]) (by rw [bitC_nI (s := s0) (by omega)]) ?_
          refine gx_iload C dX3_leastPlot_23 (by rfl) ?_
          refine gx_icmp_ne (tgt := 64) C dX3_leastPlot_25 (by decide) (fun h4 => ?_) (fun h4 => ?_)
          ·
            have h4 := (not_congr (nI_eq (a := (popN s0 12)) (b := sz) (by omega) (by omega))).mp h4
            refine gx_iinc (v := nI (s0 + 1)) (lv2 := [(5, .int (nI (s0 + 1))), (0, .ref (eA E 0)), (1, .int (nI k)), (2, .int (nI t)), (3, .int (bset (nn K) (plP K k))), (4, .int (nI sz))]) C dX3_leastPlot_64 (by rfl) (by exact nI_p1 _) (by decide) rfl ?_
            refine gx_goto (tgt := 3) C dX3_leastPlot_67 (by decide) ?_
            refine gx_sub [1, 2, 3, 4, 5, 0] (lv' := [(0, .ref (eA E 0)), (1, .int (nI k)), (2, .int (nI t)), (3, .int (bset (nn K) (plP K k))), (4, .int (nI sz)), (5, .int (nI (s0 + 1)))]) rfl ?_
            exact ih3 (s0 + 1) (by omega) (by omega) τ hFt (fun b x1 x2 => (Nat.lt_or_ge b s0).elim (fun x3 => hno b x1 x3) (fun x3 => by rw [show b = s0 by omega]; simp only [plS, plW]; grind))
          ·
            have h4 := (nI_eq (a := (popN s0 12)) (b := sz) (by omega) (by omega)).mp h4
            refine gx_aload_n C dX3_leastPlot_28 (by rfl) (by rfl) ?_
            refine gx_getr (j := 37) (k := 3) C ck3 (by rfl) (by rfl) (by decide) fl_X3_19 dX3_leastPlot_29 ?_
            refine gx_aload_n C dX3_leastPlot_32 (by rfl) (by rfl) ?_
            refine gx_getr (j := 13) (k := 0) C ck3 (by rfl) (by rfl) (by decide) fl_X3_10 dX3_leastPlot_33 ?_
            refine gx_callVV (As := [.ref (eA E 13)]) (rest := []) C (c_X0_becomeLike E τ 37 isE_37 13 isE_13 (by decide) K hKn) z_X0_becomeLike ck0 (by rfl) (by rfl) ml_X3_169 (by rfl) (Nat.le_of_ble_eq_true rfl) ⟨Nat.le_of_ble_eq_true rfl, Nat.le_of_ble_eq_true rfl⟩ dX3_leastPlot_36 (fun σ5 w5 => ?_)
            obtain ⟨hK5, hF5⟩ := w5
            have hK5_13 := Emp.fr (e := 13) (e2 := 37) hKn hF5 (by decide)
            refine gx_aload_n C dX3_leastPlot_39 (by rfl) (by rfl) ?_
            refine gx_getr (j := 37) (k := 3) C ck3 (by rfl) (by rfl) (by decide) fl_X3_19 dX3_leastPlot_40 ?_
            refine gx_iload C dX3_leastPlot_43 (by rfl) ?_
            refine gx_iload_n C dX3_leastPlot_45 (by rfl) (by rfl) ?_
            have hs2 : s0 < 2 ^ nn K := Nat.lt_of_le_of_lt (show s0 ≤ plA K k by omega) (bsN_lt _ _)
            have hkr := nI_has hO hk
            have hkr2 : -1 ≤ nI k ∧ nI k < K 0 0 := ⟨Int32.le_trans (by decide) hkr.1, hkr.2⟩
            refine gx_st (st' := [.int (nI k), .int (bset (nn K) (fun q => s0.testBit q)), .ref (eA E 37)]) (by rw [nI_bset hs2]) ?_
            refine gx_callVV (As := [.int (bset (nn K) (fun q => s0.testBit q)), .int (nI k)]) (rest := []) C (c_X0_resentAll E σ5 37 isE_37 K hK5 hO (fun q => s0.testBit q) (nI k) (by assumption)) z_X0_resentAll ck0 (by rfl) (by rfl) ml_X3_201 (by rfl) (Nat.le_of_ble_eq_true rfl) ⟨Nat.le_of_ble_eq_true rfl, Nat.le_of_ble_eq_true rfl⟩ dX3_leastPlot_46 (fun σ6 w6 => ?_)
            obtain ⟨hK6, hF6⟩ := w6
            obtain ⟨X6, eX6⟩ : ∃ X, X = rsK K (fun q => s0.testBit q) (nI k) (nn K) := ⟨_, rfl⟩
            rw [← eX6] at hK6
            have hO6 : Ok X6 := by rw [eX6]; exact (Ok_rs (S := (fun q => s0.testBit q)) hO (by assumption) _ (by omega))
            have h126 := hO6.1.2
            have hK6_13 := Emp.fr (e := 13) (e2 := 37) hK5_13 hF6 (by decide)
            refine gx_aload_n C dX3_leastPlot_49 (by rfl) (by rfl) ?_
            refine gx_getr (j := 37) (k := 3) C ck3 (by rfl) (by rfl) (by decide) fl_X3_19 dX3_leastPlot_50 ?_
            refine gx_iload_n C dX3_leastPlot_53 (by rfl) (by rfl) ?_
            refine gx_iload_n C dX3_leastPlot_54 (by rfl) (by rfl) ?_
            refine gx_callVI (As := [.int (nI k), .int (nI t)]) (rest := []) C (c_X0_keeps E σ6 37 isE_37 X6 hK6 hO6 k (by omega) t (by omega)) z_X0_keeps ck0 (by rfl) (by rfl) ml_X3_190 (by rfl) (Nat.le_of_ble_eq_true rfl) ⟨Nat.le_of_ble_eq_true rfl, Nat.le_of_ble_eq_true rfl⟩ dX3_leastPlot_55 (fun r7 σ7 w7 => ?_)
            obtain ⟨er7, -, hF7⟩ := w7
            have hK7_13 := Emp.fr (e := 13) (e2 := 37) hK6_13 hF7 (by decide)
            refine gx_st (st' := [.int (b2 (¬ mos t X6 2 k = -1))]) (by rw [er7]) ?_
            refine gx_if_ne (tgt := 64) C dX3_leastPlot_58 (by decide) (fun h8 => ?_) (fun h8 => ?_)
            ·
              have h8 := b2_nz.mp h8
              refine gx_iinc (v := nI (s0 + 1)) (lv2 := [(5, .int (nI (s0 + 1))), (0, .ref (eA E 0)), (1, .int (nI k)), (2, .int (nI t)), (3, .int (bset (nn K) (plP K k))), (4, .int (nI sz))]) C dX3_leastPlot_64 (by rfl) (by exact nI_p1 _) (by decide) rfl ?_
              refine gx_goto (tgt := 3) C dX3_leastPlot_67 (by decide) ?_
              refine gx_sub [1, 2, 3, 4, 5, 0] (lv' := [(0, .ref (eA E 0)), (1, .int (nI k)), (2, .int (nI t)), (3, .int (bset (nn K) (plP K k))), (4, .int (nI sz)), (5, .int (nI (s0 + 1)))]) rfl ?_
              exact ih3 (s0 + 1) (by omega) (by omega) σ7 ((((hFt).tr hF5).tr hF6).tr hF7) (fun b x1 x2 => (Nat.lt_or_ge b s0).elim (fun x3 => hno b x1 x3) (fun x3 => by rw [show b = s0 by omega]; simp only [plS, plW]; grind))
            ·
              have h8 := b2_z.mp h8
              refine gx_iload C dX3_leastPlot_61 (by rfl) ?_
              exact gx_iret C hr hlk rfl ⟨(frst_at (P := fun s => plS K k s && (decide (popN s 12 = sz) && plW K k t s)) (by simp only [plS, plW]; grind) _ 0 (by omega) (by omega) hno).symm, ((((hFt).tr hF5).tr hF6).tr hF7)⟩ dX3_leastPlot_63
  refine gx_sub [1, 2, 3, 4, 5, 0] (lv' := [(0, .ref (eA E 0)), (1, .int (nI k)), (2, .int (nI t)), (3, .int (bset (nn K) (plP K k))), (4, .int (nI sz)), (5, .int 0)]) rfl ?_
  refine gx_lv (lv' := [(0, .ref (eA E 0)), (1, .int (nI k)), (2, .int (nI t)), (3, .int (bset (nn K) (plP K k))), (4, .int (nI sz)), (5, .int (nI 0))]) (by rfl) ?_
  exact loop3 ((plA K k + 1) + 1) 0 (by omega) (by omega) σ Fr.rf (fun b _ x => absurd x (by omega))
set_option maxHeartbeats 4000000 in
set_option maxRecDepth 100000 in
theorem c_X3_plot (E : En) (σ : Mm) (K L : Mm) (g : Int32) (F : Nat → Int32) (tl : Int32) (Bt W Z : Nat → Int32) (N : Mm) (hC : CR σ (K, L, g, F, tl, Bt, W, Z, N)) (q n : Int32) : CtI E yX3_plot cX3_plot 7 (some .int) 7 162 [.ref (eA E 0), .int q, .int n] σ (fun rr σ2 => rr = (opPlot (K, L, g, F, tl, Bt, W, Z, N) q n).1 ∧ CR σ2 (opPlot (K, L, g, F, tl, Bt, W, Z, N) q n).2 ∧ FC σ σ2) := by
  obtain ⟨⟨hK, hO⟩, ⟨hg1, hg2, hg3⟩, hFd, ⟨⟨htl, htl2⟩, hBt⟩, hSh⟩ := id hC
  obtain ⟨⟨hn, h12⟩, hpp, hlw, hsp, hz0⟩ := id hO
  refine CtI.of (by decide +kernel) (Nat.le_of_ble_eq_true rfl) (fun p e0 s m below meth c C hr hlk => ?_)
  refine gx_lv (lv' := [(0, .ref (eA E 0)), (1, .int q), (2, .int n)]) rfl ?_
  refine gx_aload_n C dX3_plot_0 (by rfl) (by rfl) ?_
  refine gx_getr (j := 13) (k := 0) C ck3 (by rfl) (by rfl) (by decide) fl_X3_10 dX3_plot_1 ?_
  refine gx_iload_n C dX3_plot_4 (by rfl) (by rfl) ?_
  refine gx_callVI (As := [.int q]) (rest := []) C (k_X0_has E σ 13 isE_13 K hK hO q) z_X0_has ck0 (by rfl) (by rfl) ml_X3_99 (by rfl) (Nat.le_of_ble_eq_true rfl) ⟨Nat.le_of_ble_eq_true rfl, Nat.le_of_ble_eq_true rfl⟩ dX3_plot_5 (fun r1 σ1 w1 => ?_)
  obtain ⟨u1, u2⟩ := w1; rw [u1, u2]; clear u1 u2
  refine gx_if_eq (tgt := 21) C dX3_plot_8 (by decide) (fun h2 => ?_) (fun h2 => ?_)
  ·
    have h2 := b2_z.mp h2
    refine gx_aload_n C dX3_plot_21 (by rfl) (by rfl) ?_
    refine gx_ldc C kc_X3_48 dX3_plot_22 ?_
    refine gx_callVI (As := [.int (-1000001)]) (rest := []) C (c_X3_found E σ (-1000001) 0 (by decide) (by decide)) z_X3_found ck3 (by rfl) (by rfl) ml_X3_49 (by rfl) (Nat.le_of_ble_eq_true rfl) ⟨Nat.le_of_ble_eq_true rfl, Nat.le_of_ble_eq_true rfl⟩ dX3_plot_24 (fun r3 σ3 w3 => ?_)
    obtain ⟨u1, u2⟩ := w3; rw [u1, u2]; clear u1 u2
    exact gx_iret C hr hlk rfl (fin_fd hC (by decide) (by first | (simp only [opPlot, ck, ct, bey, sta, siz, non] <;> grind) | (simp only [opPlot, ck, bey, sta, siz, non] <;> grind) | (simp only [opPlot, bey, sta, siz, non] <;> grind))) dX3_plot_27
  ·
    have h2 := b2_nz.mp h2
    obtain ⟨k, hk, rfl⟩ := has_nat hO h2
    have ck : (nI k).toNatClampNeg = k := nI_clamp (by omega)
    refine gx_iload_n C dX3_plot_11 (by rfl) (by rfl) ?_
    refine gx_iconst (v := 1) C dX3_plot_12 (by decide) ?_
    refine gx_bipush (v := 12) C dX3_plot_13 (by decide) ?_
    refine gx_callSI (As := [.int n, .int 1, .int 12]) (rest := []) C (c_X3_isWithin E σ n 1 12) z_X3_isWithin (by rfl) ml_X3_44 (by rfl) (Nat.le_of_ble_eq_true rfl) ⟨Nat.le_of_ble_eq_true rfl, Nat.le_of_ble_eq_true rfl⟩ dX3_plot_15 (fun r4 σ4 w4 => ?_)
    obtain ⟨u1, u2⟩ := w4; rw [u1, u2]; clear u1 u2
    refine gx_if_ne (tgt := 28) C dX3_plot_18 (by decide) (fun h5 => ?_) (fun h5 => ?_)
    ·
      have h5 := b2_nz.mp h5
      obtain ⟨t, ht, rfl⟩ := i_nat (M := 12) (n := 12) (by decide) ⟨Int32.le_trans (by decide) h5.1, h5.2⟩
      have ct : (nI t).toNatClampNeg = t := nI_clamp (by omega)
      refine gx_aload_n C dX3_plot_28 (by rfl) (by rfl) ?_
      refine gx_getr (j := 13) (k := 0) C ck3 (by rfl) (by rfl) (by decide) fl_X3_10 dX3_plot_29 ?_
      refine gx_getr (j := 15) (k := 1) C ck0 (by rfl) (by rfl) (by decide) fl_X3_105 dX3_plot_32 ?_
      refine gx_iload_n C dX3_plot_35 (by rfl) (by rfl) ?_
      refine gx_ialdN (k := k) C (by rfl) rfl (by omega) (by decide) dX3_plot_36 ?_
      refine gx_st (st' := [.int (K 2 k)]) (by rw [hK.r2 (p := k) (by omega)]) ?_
      refine gx_iconst (v := (-1)) C dX3_plot_37 (by decide) ?_
      refine gx_icmp_eq (tgt := 49) C dX3_plot_38 (by decide) (fun h6 => ?_) (fun h6 => ?_)
      ·
        refine gx_aload_n C dX3_plot_49 (by rfl) (by rfl) ?_
        refine gx_ldc C kc_X3_56 dX3_plot_50 ?_
        refine gx_callVI (As := [.int (-1000005)]) (rest := []) C (c_X3_found E σ (-1000005) 4 (by decide) (by decide)) z_X3_found ck3 (by rfl) (by rfl) ml_X3_49 (by rfl) (Nat.le_of_ble_eq_true rfl) ⟨Nat.le_of_ble_eq_true rfl, Nat.le_of_ble_eq_true rfl⟩ dX3_plot_52 (fun r7 σ7 w7 => ?_)
        obtain ⟨u1, u2⟩ := w7; rw [u1, u2]; clear u1 u2
        exact gx_iret C hr hlk rfl (fin_fd hC (by decide) (by first | (simp only [opPlot, ck, ct, bey, sta, siz, non] <;> grind) | (simp only [opPlot, ck, bey, sta, siz, non] <;> grind) | (simp only [opPlot, bey, sta, siz, non] <;> grind))) dX3_plot_55
      ·
        refine gx_aload_n C dX3_plot_41 (by rfl) (by rfl) ?_
        refine gx_iload_n C dX3_plot_42 (by rfl) (by rfl) ?_
        refine gx_callVI (As := [.int (nI t)]) (rest := []) C (c_X3_isTooLate E σ K hK (nI t)) z_X3_isTooLate ck3 (by rfl) (by rfl) ml_X3_163 (by rfl) (Nat.le_of_ble_eq_true rfl) ⟨Nat.le_of_ble_eq_true rfl, Nat.le_of_ble_eq_true rfl⟩ dX3_plot_43 (fun r8 σ8 w8 => ?_)
        obtain ⟨u1, u2⟩ := w8; rw [u1, u2]; clear u1 u2
        refine gx_if_eq (tgt := 56) C dX3_plot_46 (by decide) (fun h9 => ?_) (fun h9 => ?_)
        ·
          have h9 := b2_z.mp h9
          refine gx_aload_n C dX3_plot_56 (by rfl) (by rfl) ?_
          refine gx_getr (j := 13) (k := 0) C ck3 (by rfl) (by rfl) (by decide) fl_X3_10 dX3_plot_57 ?_
          refine gx_callVI (As := []) (rest := []) C (c_X0_ableToPlot E σ 13 isE_13 K hK hO) z_X0_ableToPlot ck0 (by rfl) (by rfl) ml_X3_193 (by rfl) (Nat.le_of_ble_eq_true rfl) ⟨Nat.le_of_ble_eq_true rfl, Nat.le_of_ble_eq_true rfl⟩ dX3_plot_60 (fun r10 σ10 w10 => ?_)
          obtain ⟨u1, u2⟩ := w10; rw [u1, u2]; clear u1 u2
          refine gx_iconst (v := 1) C dX3_plot_63 (by decide) ?_
          refine gx_iload_n C dX3_plot_64 (by rfl) (by rfl) ?_
          refine gx_ishl C dX3_plot_65 ?_
          refine gx_iconst (v := (-1)) C dX3_plot_66 (by decide) ?_
          refine gx_ixor C dX3_plot_67 ?_
          refine gx_iand C dX3_plot_68 ?_
          have hcn := cnt_le (plP K k) (nn K)
          refine gx_st (st' := [.int (bset (nn K) (plP K k))]) (by rw [show (bset (nn K) (ablP K)) &&& (((1 : Int32) <<< (nI k &&& 31)) ^^^ (-1)) = bset (nn K) (plP K k) from bset_sub (ablP K) (by omega)]) ?_
          refine gx_istore_n (lv2 := [(3, .int (bset (nn K) (plP K k))), (0, .ref (eA E 0)), (1, .int (nI k)), (2, .int (nI t))]) C dX3_plot_69 (by rfl) (by decide) rfl ?_
          refine gx_iload_n C dX3_plot_70 (by rfl) (by rfl) ?_
          refine gx_callSI (As := [.int (bset (nn K) (plP K k))]) (rest := []) C (c_J6_bitCount_0f7a4 E σ (bset (nn K) (plP K k))) z_J6_bitCount_0f7a4 (by rfl) ml_X3_67 (by rfl) (Nat.le_of_ble_eq_true rfl) ⟨Nat.le_of_ble_eq_true rfl, Nat.le_of_ble_eq_true rfl⟩ dX3_plot_71 (fun r11 σ11 w11 => ?_)
          obtain ⟨u1, u2⟩ := w11; rw [u1, u2]; clear u1 u2
          refine gx_st (st' := [.int (nI (cnt (plP K k) (nn K)))]) (by rw [bitC_bset (n := (nn K)) (P := (plP K k)) h12]) ?_
          refine gx_istore (lv2 := [(4, .int (nI (cnt (plP K k) (nn K)))), (3, .int (bset (nn K) (plP K k))), (0, .ref (eA E 0)), (1, .int (nI k)), (2, .int (nI t))]) C dX3_plot_74 (by decide) rfl ?_
          refine gx_iload C dX3_plot_76 (by rfl) ?_
          refine gx_bipush (v := 10) C dX3_plot_78 (by decide) ?_
          refine gx_icmp_le (tgt := 90) C dX3_plot_80 (by decide) (fun h14 => ?_) (fun h14 => ?_)
          ·
            have h14 := (nI_leI (a := (cnt (plP K k) (nn K))) (b := 10) (by omega) (by omega)).mp h14
            refine gx_iconst (v := 0) C dX3_plot_90 (by decide) ?_
            refine gx_istore (lv2 := [(5, .int 0), (4, .int (nI (cnt (plP K k) (nn K)))), (3, .int (bset (nn K) (plP K k))), (0, .ref (eA E 0)), (1, .int (nI k)), (2, .int (nI t))]) C dX3_plot_91 (by decide) rfl ?_
            have loop93 : ∀ (kf i : Nat), i ≤ (cnt (plP K k) (nn K) + 1) → (cnt (plP K k) (nn K) + 1) < i + kf → ∀ τ : Mm, (Fr 37 σ τ) → (plF K k t (cnt (plP K k) (nn K) + 1 - i) i = plF K k t (cnt (plP K k) (nn K) + 1) 0) → Gx E p e0 (rmF 7 162) s m ([.ref (eA E 0), .int (nI k), .int (nI t)] : List Value).toArray below meth c (MQ below (va_Qi (fun rr σ2 => rr = (opPlot (K, L, g, F, tl, Bt, W, Z, N) (nI k) (nI t)).1 ∧ CR σ2 (opPlot (K, L, g, F, tl, Bt, W, Z, N) (nI k) (nI t)).2 ∧ FC σ σ2) (WQ E) (AA E s.heap.size)) ([.ref (eA E 0), .int (nI k), .int (nI t)] : List Value).toArray s 0 0 (AA E s.heap.size)) 7 93 [(0, .ref (eA E 0)), (1, .int (nI k)), (2, .int (nI t)), (3, .int (bset (nn K) (plP K k))), (4, .int (nI (cnt (plP K k) (nn K)))), (5, .int (nI i))] [] τ := by
              intro kf
              induction kf with
              | zero => intro i q1 q2; exact absurd q2 (by omega)
              | succ kf ih93 =>
                intro i a93 b93 τ hFt eT
                have hKn := Emp.fr (e2 := 37) hK hFt (by decide)
                refine gx_iload C dX3_plot_93 (by rfl) ?_
                refine gx_iload C dX3_plot_95 (by rfl) ?_
                refine gx_icmp_gt (tgt := 125) C dX3_plot_97 (by decide) (fun h15 => ?_) (fun h15 => ?_)
                ·
                  have h15 := (nI_ltI (a := (cnt (plP K k) (nn K))) (b := i) (by omega) (by omega)).mp h15
                  refine gx_aload_n C dX3_plot_125 (by rfl) (by rfl) ?_
                  refine gx_ldc C kc_X3_156 dX3_plot_126 ?_
                  refine gx_callVI (As := [.int (-1000004)]) (rest := []) C (c_X3_found E τ (-1000004) 3 (by decide) (by decide)) z_X3_found ck3 (by rfl) (by rfl) ml_X3_49 (by rfl) (Nat.le_of_ble_eq_true rfl) ⟨Nat.le_of_ble_eq_true rfl, Nat.le_of_ble_eq_true rfl⟩ dX3_plot_128 (fun r16 σ16 w16 => ?_)
                  obtain ⟨u1, u2⟩ := w16; rw [u1, u2]; clear u1 u2
                  exact gx_iret C hr hlk rfl (fin_tfd hC hFt (by decide) (by have q1 : plF K k t (cnt (plP K k) (nn K) + 1) 0 = -1 := (by rw [← eT, show cnt (plP K k) (nn K) + 1 - i = 0 by omega, plF]); simp only [opPlot, ck, ct, q1, bey, sta, siz, non]; rw [if_pos (by grind), if_neg (by grind), if_neg (by omega)]; simp)) dX3_plot_131
                ·
                  have h15 := (not_congr (nI_ltI (a := (cnt (plP K k) (nn K))) (b := i) (by omega) (by omega))).mp h15
                  refine gx_aload_n C dX3_plot_100 (by rfl) (by rfl) ?_
                  refine gx_iload_n C dX3_plot_101 (by rfl) (by rfl) ?_
                  refine gx_iload_n C dX3_plot_102 (by rfl) (by rfl) ?_
                  refine gx_iload_n C dX3_plot_103 (by rfl) (by rfl) ?_
                  refine gx_iload C dX3_plot_104 (by rfl) ?_
                  refine gx_callVI (As := [.int (nI k), .int (nI t), .int (bset (nn K) (plP K k)), .int (nI i)]) (rest := []) C (c_X3_leastPlot E τ K hKn hO k hk t (by omega) i (by omega)) z_X3_leastPlot ck3 (by rfl) (by rfl) ml_X3_197 (by rfl) (Nat.le_of_ble_eq_true rfl) ⟨Nat.le_of_ble_eq_true rfl, Nat.le_of_ble_eq_true rfl⟩ dX3_plot_106 (fun r17 σ17 w17 => ?_)
                  obtain ⟨er17, hF17⟩ := w17
                  have hK17_13 := Emp.fr (e := 13) (e2 := 37) hKn hF17 (by decide)
                  refine gx_st (st' := [.int (lpF K k t i)]) (by rw [er17]) ?_
                  refine gx_istore (lv2 := [(6, .int (lpF K k t i)), (0, .ref (eA E 0)), (1, .int (nI k)), (2, .int (nI t)), (3, .int (bset (nn K) (plP K k))), (4, .int (nI (cnt (plP K k) (nn K)))), (5, .int (nI i))]) C dX3_plot_109 (by decide) rfl ?_
                  refine gx_iload C dX3_plot_111 (by rfl) ?_
                  refine gx_if_lt (tgt := 119) C dX3_plot_113 (by decide) (fun h18 => ?_) (fun h18 => ?_)
                  ·
                    have hlo := frst_or (fun s => plS K k s && (decide (popN s 12 = i) && plW K k t s)) (plA K k + 1) 0
                    have hal := plA_lt K k h12
                    have hlp : lpF K k t i = -1 := hlo.resolve_right (fun ⟨j, y1, y2, y3, y4⟩ => nI_pos (show j < 2 ^ 31 by omega) (y3 ▸ h18))
                    refine gx_iinc (v := nI (i + 1)) (lv2 := [(5, .int (nI (i + 1))), (6, .int (lpF K k t i)), (0, .ref (eA E 0)), (1, .int (nI k)), (2, .int (nI t)), (3, .int (bset (nn K) (plP K k))), (4, .int (nI (cnt (plP K k) (nn K))))]) C dX3_plot_119 (by rfl) (by exact nI_p1 _) (by decide) rfl ?_
                    refine gx_goto (tgt := 93) C dX3_plot_122 (by decide) ?_
                    refine gx_sub [2, 3, 4, 5, 6, 0] (lv' := [(0, .ref (eA E 0)), (1, .int (nI k)), (2, .int (nI t)), (3, .int (bset (nn K) (plP K k))), (4, .int (nI (cnt (plP K k) (nn K)))), (5, .int (nI (i + 1)))]) rfl ?_
                    exact ih93 (i + 1) (by omega) (by omega) σ17 ((hFt).tr hF17) (by rw [← eT, show cnt (plP K k) (nn K) + 1 - i = (cnt (plP K k) (nn K) + 1 - (i + 1)) + 1 by omega, plF, if_pos hlp])
                  ·
                    have hlo := frst_or (fun s => plS K k s && (decide (popN s 12 = i) && plW K k t s)) (plA K k + 1) 0
                    have hal := plA_lt K k h12
                    have hlp : ¬ lpF K k t i = -1 := fun q => absurd (by rw [q]; decide : lpF K k t i < 0) h18
                    refine gx_iload C dX3_plot_116 (by rfl) ?_
                    exact gx_iret C hr hlk rfl (fin_try hC ((hFt).tr hF17) (by have q1 : plF K k t (cnt (plP K k) (nn K) + 1) 0 = lpF K k t i := (by rw [← eT, show cnt (plP K k) (nn K) + 1 - i = (cnt (plP K k) (nn K) + 1 - (i + 1)) + 1 by omega, plF, if_neg hlp]); simp only [opPlot, ck, ct, q1, bey, sta, siz, non]; rw [if_pos (by grind), if_neg (by grind), if_neg (by omega), if_neg hlp])) dX3_plot_118
            refine gx_sub [3, 4, 5, 2, 1, 0] (lv' := [(0, .ref (eA E 0)), (1, .int (nI k)), (2, .int (nI t)), (3, .int (bset (nn K) (plP K k))), (4, .int (nI (cnt (plP K k) (nn K)))), (5, .int 0)]) rfl ?_
            refine gx_lv (lv' := [(0, .ref (eA E 0)), (1, .int (nI k)), (2, .int (nI t)), (3, .int (bset (nn K) (plP K k))), (4, .int (nI (cnt (plP K k) (nn K)))), (5, .int (nI 0))]) (by rfl) ?_
            exact loop93 ((cnt (plP K k) (nn K) + 1) + 1) 0 (by omega) (by omega) σ Fr.rf rfl
          ·
            have h14 := (not_congr (nI_leI (a := (cnt (plP K k) (nn K))) (b := 10) (by omega) (by omega))).mp h14
            refine gx_aload_n C dX3_plot_83 (by rfl) (by rfl) ?_
            refine gx_ldc C kc_X3_196 dX3_plot_84 ?_
            refine gx_callVI (As := [.int (-1000007)]) (rest := []) C (c_X3_found E σ (-1000007) 6 (by decide) (by decide)) z_X3_found ck3 (by rfl) (by rfl) ml_X3_49 (by rfl) (Nat.le_of_ble_eq_true rfl) ⟨Nat.le_of_ble_eq_true rfl, Nat.le_of_ble_eq_true rfl⟩ dX3_plot_86 (fun r19 σ19 w19 => ?_)
            obtain ⟨u1, u2⟩ := w19; rw [u1, u2]; clear u1 u2
            exact gx_iret C hr hlk rfl (fin_fd hC (by decide) (by simp only [opPlot, ck, ct, bey, sta, siz, non]; rw [if_pos (by grind), if_neg (by grind), if_pos (by omega)])) dX3_plot_89
        ·
          have h9 := b2_nz.mp h9
          refine gx_aload_n C dX3_plot_49 (by rfl) (by rfl) ?_
          refine gx_ldc C kc_X3_56 dX3_plot_50 ?_
          refine gx_callVI (As := [.int (-1000005)]) (rest := []) C (c_X3_found E σ (-1000005) 4 (by decide) (by decide)) z_X3_found ck3 (by rfl) (by rfl) ml_X3_49 (by rfl) (Nat.le_of_ble_eq_true rfl) ⟨Nat.le_of_ble_eq_true rfl, Nat.le_of_ble_eq_true rfl⟩ dX3_plot_52 (fun r20 σ20 w20 => ?_)
          obtain ⟨u1, u2⟩ := w20; rw [u1, u2]; clear u1 u2
          exact gx_iret C hr hlk rfl (fin_fd hC (by decide) (by first | (simp only [opPlot, ck, ct, bey, sta, siz, non] <;> grind) | (simp only [opPlot, ck, bey, sta, siz, non] <;> grind) | (simp only [opPlot, bey, sta, siz, non] <;> grind))) dX3_plot_55
    ·
      have h5 := b2_z.mp h5
      refine gx_aload_n C dX3_plot_21 (by rfl) (by rfl) ?_
      refine gx_ldc C kc_X3_48 dX3_plot_22 ?_
      refine gx_callVI (As := [.int (-1000001)]) (rest := []) C (c_X3_found E σ (-1000001) 0 (by decide) (by decide)) z_X3_found ck3 (by rfl) (by rfl) ml_X3_49 (by rfl) (Nat.le_of_ble_eq_true rfl) ⟨Nat.le_of_ble_eq_true rfl, Nat.le_of_ble_eq_true rfl⟩ dX3_plot_24 (fun r21 σ21 w21 => ?_)
      obtain ⟨u1, u2⟩ := w21; rw [u1, u2]; clear u1 u2
      exact gx_iret C hr hlk rfl (fin_fd hC (by decide) (by first | (simp only [opPlot, ck, ct, bey, sta, siz, non] <;> grind) | (simp only [opPlot, ck, bey, sta, siz, non] <;> grind) | (simp only [opPlot, bey, sta, siz, non] <;> grind))) dX3_plot_27
