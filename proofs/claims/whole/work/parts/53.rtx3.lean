set_option maxHeartbeats 4000000 in
set_option maxRecDepth 100000 in
theorem c_X4_personItem (E : En) (σ : Mm) (B : Nat → Int32) (t : Nat) (hP : Mp σ B t) (i : Nat) (hi : i ≤ t) (K : Mm) (hM : vM σ 50 = K) (hO : Ok K) (kd : Int32) (hkd : kd ≤ 6) : CtV E yX4_personItem cX4_personItem 8 none 7 150 [.ref (eA E 49), .int kd] (mq σ B t i 0) (fun σ2 => MTR B t σ (psR B t K kd i) σ2) := by
  have ht := hP.2.1
  have h12 := hO.1.2
  have hn := hO.1.1
  refine CtV.of (by decide +kernel) (Nat.le_of_ble_eq_true rfl) (fun p e0 s m below meth c C hr hlk => ?_)
  refine gx_lv (lv' := [(0, .ref (eA E 49)), (1, .int kd)]) rfl ?_
  refine gx_aload_n C dX4_personItem_0 (by rfl) (by rfl) ?_
  refine gx_aload_n C dX4_personItem_1 (by rfl) (by rfl) ?_
  refine gx_geti (k := 12) C ck4 (by rfl) (by rfl) (by decide) fl_X4_218 dX4_personItem_2 ?_
  refine gx_st (st' := [.int 0, .ref (eA E 49)]) (by rw [mq_12]) ?_
  refine gx_if_ne (tgt := 24) C dX4_personItem_5 (by decide) (fun h1 => ?_) (fun h1 => ?_)
  ·
    exact absurd h1 (by decide)
  ·
    clear h1
    refine gx_iload_n C dX4_personItem_8 (by rfl) (by rfl) ?_
    refine gx_if_lt (tgt := 24) C dX4_personItem_9 (by decide) (fun h2 => ?_) (fun h2 => ?_)
    ·
      have hk9 : ¬ 0 ≤ kd := Int32.not_le.mpr h2
      refine gx_iconst (v := 1) C dX4_personItem_24 (by decide) ?_
      refine gx_goto (tgt := 29) C dX4_personItem_25 (by decide) ?_
      refine gx_puti (k := 12) C ck4 (by rfl) (by rfl) (by decide) (by rfl) (by first | rfl | exact nb_b2 _) (by first | rfl | exact fb_b2 _) fl_X4_218 dX4_personItem_29 ?_
      refine gx_mm (σ' := mq σ B t i 1) mq_w12 ?_
      refine gx_aload_n C dX4_personItem_32 (by rfl) (by rfl) ?_
      refine gx_geti (k := 12) C ck4 (by rfl) (by rfl) (by decide) fl_X4_218 dX4_personItem_33 ?_
      refine gx_st (st' := [.int 1]) (by rw [mq_12]) ?_
      refine gx_if_eq (tgt := 40) C dX4_personItem_36 (by decide) (fun h3 => ?_) (fun h3 => ?_)
      ·
        exact absurd h3 (by decide)
      ·
        clear h3
        exact gx_vret C hr hlk (MTR.no Fm.rf hP (by unfold psR; rw [if_neg (fun q9 => by first | omega | exact hk9 q9.1)])) dX4_personItem_39
    ·
      have hk0 : 0 ≤ kd := Int32.not_lt.mp h2
      refine gx_aload_n C dX4_personItem_12 (by rfl) (by rfl) ?_
      refine gx_getr (j := 50) (k := 0) C ck4 (by rfl) (by rfl) (by decide) fl_X4_9 dX4_personItem_13 ?_
      refine gx_bipush (v := 6) C dX4_personItem_16 (by decide) ?_
      refine gx_ialdN (k := 6) C (by rfl) (by rfl) (by decide) (by decide) dX4_personItem_18 ?_
      refine gx_st (st' := [.int (nI (nn K)), .ref (eA E 49)]) (by rw [mp_n (vM_mq.trans hM : vM (mq σ B t i 0) 50 = K), hO.1.1]) ?_
      refine gx_bipush (v := 12) C dX4_personItem_19 (by decide) ?_
      refine gx_icmp_ne (tgt := 28) C dX4_personItem_21 (by decide) (fun h4 => ?_) (fun h4 => ?_)
      ·
        have h4 := (not_congr (nI_eq (a := (nn K)) (b := 12) (by omega) (by omega))).mp h4
        refine gx_iconst (v := 0) C dX4_personItem_28 (by decide) ?_
        refine gx_puti (k := 12) C ck4 (by rfl) (by rfl) (by decide) (by rfl) (by first | rfl | exact nb_b2 _) (by first | rfl | exact fb_b2 _) fl_X4_218 dX4_personItem_29 ?_
        refine gx_mm (σ' := mq σ B t i 0) mq_w12 ?_
        refine gx_aload_n C dX4_personItem_32 (by rfl) (by rfl) ?_
        refine gx_geti (k := 12) C ck4 (by rfl) (by rfl) (by decide) fl_X4_218 dX4_personItem_33 ?_
        refine gx_st (st' := [.int 0]) (by rw [mq_12]) ?_
        refine gx_if_eq (tgt := 40) C dX4_personItem_36 (by decide) (fun h5 => ?_) (fun h5 => ?_)
        ·
          clear h5
          refine gx_aload_n C dX4_personItem_40 (by rfl) (by rfl) ?_
          refine gx_callVV (As := []) (rest := []) C (c_X4_token2 E σ B t hP i hi 0) z_X4_token ck4 (by rfl) (by rfl) ml_X4_235 (by rfl) (Nat.le_of_ble_eq_true rfl) ⟨Nat.le_of_ble_eq_true rfl, Nat.le_of_ble_eq_true rfl⟩ dX4_personItem_41 (fun σ6 w6 => ?_)
          rw [w6]; clear w6
          refine gx_aload_n C dX4_personItem_44 (by rfl) (by rfl) ?_
          refine gx_ldcS 29 C rfl dX4_personItem_45 ?_
          refine gx_callVV (As := [.ref (eZ E (100 + 29))]) (rest := []) C (c_X4_word E σ B t hP (qE B t i) (qE_le (B := B) hi) 12 29 (by decide) rfl) z_X4_word ck4 (by rfl) (by rfl) ml_X4_256 (by rfl) (Nat.le_of_ble_eq_true rfl) ⟨Nat.le_of_ble_eq_true rfl, Nat.le_of_ble_eq_true rfl⟩ dX4_personItem_47 (fun σ7 w7 => ?_)
          by_cases hc7 : qW B t (qE B t i) 12 = true
          ·
            obtain rfl := w7.1 hc7
            refine gx_aload_n C dX4_personItem_50 (by rfl) (by rfl) ?_
            refine gx_iconst (v := 0) C dX4_personItem_51 (by decide) ?_
            refine gx_bipush (v := 7) C dX4_personItem_52 (by decide) ?_
            refine gx_aload_n C dX4_personItem_54 (by rfl) (by rfl) ?_
            refine gx_geti (k := 11) C ck4 (by rfl) (by rfl) (by decide) fl_X4_212 dX4_personItem_55 ?_
            refine gx_st (st' := [.int (qV B t (qE B t (qE B t i))), .int 7, .int 0, .ref (eA E 49)]) (by rw [mq_11]) ?_
            refine gx_callSI (As := [.int (qV B t (qE B t (qE B t i)))]) (rest := [.int 7, .int 0, .ref (eA E 49)]) C (c_X4_isRank E (mq σ B t (qE B t (qE B t i)) 0) (qV B t (qE B t (qE B t i)))) z_X4_isRank (by rfl) ml_X4_61 (by rfl) (Nat.le_of_ble_eq_true rfl) ⟨Nat.le_of_ble_eq_true rfl, Nat.le_of_ble_eq_true rfl⟩ dX4_personItem_58 (fun r8 σ8 w8 => ?_)
            obtain ⟨u1, u2⟩ := w8; rw [u1, u2]; clear u1 u2
            refine gx_if_eq (tgt := 75) C dX4_personItem_61 (by decide) (fun h9 => ?_) (fun h9 => ?_)
            ·
              have h9 := b2_z.mp h9
              have hnrk := h9
              refine gx_iconst (v := 1) C dX4_personItem_75 (by decide) ?_
              refine gx_goto (tgt := 80) C dX4_personItem_76 (by decide) ?_
              refine gx_callVI (As := [.int 0, .int 7, .int 1]) (rest := []) C (c_X4_number E σ B t hP (qE B t (qE B t i)) (qE_le (B := B) (qE_le (B := B) hi)) 0 7) z_X4_number ck4 (by rfl) (by rfl) ml_X4_260 (by rfl) (Nat.le_of_ble_eq_true rfl) ⟨Nat.le_of_ble_eq_true rfl, Nat.le_of_ble_eq_true rfl⟩ dX4_personItem_80 (fun r10 σ10 w10 => ?_)
              by_cases hc10 : qN B t (qE B t (qE B t i)) 0 7 = true
              ·
                exact absurd (qN_g hc10) hnrk
              ·
                obtain ⟨er10, wa10, wb10⟩ := w10
                obtain rfl := wb10 hc10
                refine gx_st (st' := [.int (qV B t (qE B t (qE B t i)))]) (by rw [er10]) ?_
                refine gx_istore_n (lv2 := [(2, .int (qV B t (qE B t (qE B t i)))), (0, .ref (eA E 49)), (1, .int kd)]) C dX4_personItem_83 (by rfl) (by decide) rfl ?_
                refine gx_aload_n C dX4_personItem_84 (by rfl) (by rfl) ?_
                refine gx_ldcwS 30 C rfl dX4_personItem_85 ?_
                refine gx_callVI (As := [.ref (eZ E (100 + 30))]) (rest := []) C (c_X4_takes_b E σ B t hP (qE B t (qE B t i)) (qE_le (B := B) (qE_le (B := B) hi)) 13 30 (by decide) rfl) z_X4_takes ck4 (by rfl) (by rfl) ml_X4_238 (by rfl) (Nat.le_of_ble_eq_true rfl) ⟨Nat.le_of_ble_eq_true rfl, Nat.le_of_ble_eq_true rfl⟩ dX4_personItem_88 (fun r11 σ11 w11 => ?_)
                obtain ⟨u1, u2⟩ := w11; rw [u1, u2]; clear u1 u2
                refine gx_if_eq (tgt := 105) C dX4_personItem_91 (by decide) (fun h14 => ?_) (fun h14 => ?_)
                ·
                  clear h14
                  refine gx_bipush (v := 30) C dX4_personItem_105 (by decide) ?_
                  refine gx_istore_n (lv2 := [(3, .int 30), (2, .int (qV B t (qE B t (qE B t i)))), (0, .ref (eA E 49)), (1, .int kd)]) C dX4_personItem_107 (by rfl) (by decide) rfl ?_
                  refine gx_aload_n C dX4_personItem_108 (by rfl) (by rfl) ?_
                  refine gx_ldcwS 31 C rfl dX4_personItem_109 ?_
                  refine gx_callVI (As := [.ref (eZ E (100 + 31))]) (rest := []) C (c_X4_takes_b E σ B t hP (qE B t (qE B t i)) (qE_le (B := B) (qE_le (B := B) hi)) 14 31 (by decide) rfl) z_X4_takes ck4 (by rfl) (by rfl) ml_X4_238 (by rfl) (Nat.le_of_ble_eq_true rfl) ⟨Nat.le_of_ble_eq_true rfl, Nat.le_of_ble_eq_true rfl⟩ dX4_personItem_112 (fun r15 σ15 w15 => ?_)
                  obtain ⟨u1, u2⟩ := w15; rw [u1, u2]; clear u1 u2
                  refine gx_if_eq (tgt := 128) C dX4_personItem_115 (by decide) (fun h16 => ?_) (fun h16 => ?_)
                  ·
                    clear h16
                    refine gx_iconst (v := 0) C dX4_personItem_128 (by decide) ?_
                    refine gx_istore (lv2 := [(4, .int 0), (3, .int 30), (2, .int (qV B t (qE B t (qE B t i)))), (0, .ref (eA E 49)), (1, .int kd)]) C dX4_personItem_129 (by decide) rfl ?_
                    refine gx_aload_n C dX4_personItem_131 (by rfl) (by rfl) ?_
                    refine gx_ldcwS 32 C rfl dX4_personItem_132 ?_
                    refine gx_callVI (As := [.ref (eZ E (100 + 32))]) (rest := []) C (c_X4_takes_b E σ B t hP (qE B t (qE B t i)) (qE_le (B := B) (qE_le (B := B) hi)) 15 32 (by decide) rfl) z_X4_takes ck4 (by rfl) (by rfl) ml_X4_238 (by rfl) (Nat.le_of_ble_eq_true rfl) ⟨Nat.le_of_ble_eq_true rfl, Nat.le_of_ble_eq_true rfl⟩ dX4_personItem_135 (fun r17 σ17 w17 => ?_)
                    obtain ⟨u1, u2⟩ := w17; rw [u1, u2]; clear u1 u2
                    refine gx_if_eq (tgt := 153) C dX4_personItem_138 (by decide) (fun h18 => ?_) (fun h18 => ?_)
                    ·
                      clear h18
                      refine gx_bipush (v := 100) C dX4_personItem_153 (by decide) ?_
                      refine gx_istore (lv2 := [(5, .int 100), (4, .int 0), (3, .int 30), (2, .int (qV B t (qE B t (qE B t i)))), (0, .ref (eA E 49)), (1, .int kd)]) C dX4_personItem_155 (by decide) rfl ?_
                      refine gx_aload_n C dX4_personItem_157 (by rfl) (by rfl) ?_
                      refine gx_ldcwS 33 C rfl dX4_personItem_158 ?_
                      refine gx_callVI (As := [.ref (eZ E (100 + 33))]) (rest := []) C (c_X4_takes_b E σ B t hP (qE B t (qE B t i)) (qE_le (B := B) (qE_le (B := B) hi)) 16 33 (by decide) rfl) z_X4_takes ck4 (by rfl) (by rfl) ml_X4_238 (by rfl) (Nat.le_of_ble_eq_true rfl) ⟨Nat.le_of_ble_eq_true rfl, Nat.le_of_ble_eq_true rfl⟩ dX4_personItem_161 (fun r19 σ19 w19 => ?_)
                      obtain ⟨u1, u2⟩ := w19; rw [u1, u2]; clear u1 u2
                      refine gx_if_eq (tgt := 185) C dX4_personItem_164 (by decide) (fun h20 => ?_) (fun h20 => ?_)
                      ·
                        clear h20
                        refine gx_iconst (v := (-1)) C dX4_personItem_185 (by decide) ?_
                        refine gx_istore (lv2 := [(6, .int (-1)), (5, .int 100), (4, .int 0), (3, .int 30), (2, .int (qV B t (qE B t (qE B t i)))), (0, .ref (eA E 49)), (1, .int kd)]) C dX4_personItem_186 (by decide) rfl ?_
                        refine gx_aload_n C dX4_personItem_188 (by rfl) (by rfl) ?_
                        refine gx_geti (k := 12) C ck4 (by rfl) (by rfl) (by decide) fl_X4_218 dX4_personItem_189 ?_
                        refine gx_st (st' := [.int 1]) (by rw [mq_12]) ?_
                        refine gx_if_eq (tgt := 196) C dX4_personItem_192 (by decide) (fun h21 => ?_) (fun h21 => ?_)
                        ·
                          exact absurd h21 (by decide)
                        ·
                          clear h21
                          exact gx_vret C hr hlk (MTR.no Fm.rf hP (by unfold psR; rw [if_pos ⟨hk0, by omega⟩]; unfold ps1; rw [if_pos hc7]; unfold ps2; rw [if_neg (fun q9 => hc10 q9.1)])) dX4_personItem_195
                      ·
                        exact absurd h20 (by decide)
                    ·
                      exact absurd h18 (by decide)
                  ·
                    exact absurd h16 (by decide)
                ·
                  exact absurd h14 (by decide)
            ·
              have h9 := b2_nz.mp h9
              obtain ⟨r, hr8, er⟩ : ∃ r, r < 8 ∧ qV B t (qE B t (qE B t i)) = nI r := by
                obtain ⟨r, h1, h2⟩ := i_nat (M := 7) (n := 7) (by decide) h9
                exact ⟨r, by omega, h2⟩
              have cr : cl (nI r) = r := nI_clamp (by omega)
              refine gx_aload_n C dX4_personItem_64 (by rfl) (by rfl) ?_
              refine gx_aload_n C dX4_personItem_65 (by rfl) (by rfl) ?_
              refine gx_geti (k := 11) C ck4 (by rfl) (by rfl) (by decide) fl_X4_212 dX4_personItem_66 ?_
              refine gx_st (st' := [.int (nI r), .ref (eA E 49), .int 7, .int 0, .ref (eA E 49)]) (by rw [mq_11, er]) ?_
              refine gx_callVI (As := [.int (nI r)]) (rest := [.int 7, .int 0, .ref (eA E 49)]) C (c_X4_hasSeat E (mq σ B t (qE B t (qE B t i)) 0) K (vM_mq.trans hM : vM (mq σ B t (qE B t (qE B t i)) 0) 50 = K) hO r (by omega)) z_X4_hasSeat ck4 (by rfl) (by rfl) ml_X4_94 (by rfl) (Nat.le_of_ble_eq_true rfl) ⟨Nat.le_of_ble_eq_true rfl, Nat.le_of_ble_eq_true rfl⟩ dX4_personItem_69 (fun r22 σ22 w22 => ?_)
              obtain ⟨u1, u2⟩ := w22; rw [u1, u2]; clear u1 u2
              refine gx_if_eq (tgt := 79) C dX4_personItem_72 (by decide) (fun h23 => ?_) (fun h23 => ?_)
              ·
                have h23 := b2_z.mp h23
                have hS := h23
                refine gx_iconst (v := 0) C dX4_personItem_79 (by decide) ?_
                refine gx_callVI (As := [.int 0, .int 7, .int 0]) (rest := []) C (c_X4_number_0 E σ B t hP (qE B t (qE B t i)) (qE_le (B := B) (qE_le (B := B) hi)) 0 7) z_X4_number ck4 (by rfl) (by rfl) ml_X4_260 (by rfl) (Nat.le_of_ble_eq_true rfl) ⟨Nat.le_of_ble_eq_true rfl, Nat.le_of_ble_eq_true rfl⟩ dX4_personItem_80 (fun r24 σ24 w24 => ?_)
                obtain ⟨u1, u2⟩ := w24; rw [u1, u2]; clear u1 u2
                refine gx_istore_n (lv2 := [(2, .int (qV B t (qE B t (qE B t i)))), (0, .ref (eA E 49)), (1, .int kd)]) C dX4_personItem_83 (by rfl) (by decide) rfl ?_
                refine gx_aload_n C dX4_personItem_84 (by rfl) (by rfl) ?_
                refine gx_ldcwS 30 C rfl dX4_personItem_85 ?_
                refine gx_callVI (As := [.ref (eZ E (100 + 30))]) (rest := []) C (c_X4_takes_b E σ B t hP (qE B t (qE B t i)) (qE_le (B := B) (qE_le (B := B) hi)) 13 30 (by decide) rfl) z_X4_takes ck4 (by rfl) (by rfl) ml_X4_238 (by rfl) (Nat.le_of_ble_eq_true rfl) ⟨Nat.le_of_ble_eq_true rfl, Nat.le_of_ble_eq_true rfl⟩ dX4_personItem_88 (fun r26 σ26 w26 => ?_)
                obtain ⟨u1, u2⟩ := w26; rw [u1, u2]; clear u1 u2
                refine gx_if_eq (tgt := 105) C dX4_personItem_91 (by decide) (fun h27 => ?_) (fun h27 => ?_)
                ·
                  clear h27
                  refine gx_bipush (v := 30) C dX4_personItem_105 (by decide) ?_
                  refine gx_istore_n (lv2 := [(3, .int 30), (2, .int (qV B t (qE B t (qE B t i)))), (0, .ref (eA E 49)), (1, .int kd)]) C dX4_personItem_107 (by rfl) (by decide) rfl ?_
                  refine gx_aload_n C dX4_personItem_108 (by rfl) (by rfl) ?_
                  refine gx_ldcwS 31 C rfl dX4_personItem_109 ?_
                  refine gx_callVI (As := [.ref (eZ E (100 + 31))]) (rest := []) C (c_X4_takes_b E σ B t hP (qE B t (qE B t i)) (qE_le (B := B) (qE_le (B := B) hi)) 14 31 (by decide) rfl) z_X4_takes ck4 (by rfl) (by rfl) ml_X4_238 (by rfl) (Nat.le_of_ble_eq_true rfl) ⟨Nat.le_of_ble_eq_true rfl, Nat.le_of_ble_eq_true rfl⟩ dX4_personItem_112 (fun r28 σ28 w28 => ?_)
                  obtain ⟨u1, u2⟩ := w28; rw [u1, u2]; clear u1 u2
                  refine gx_if_eq (tgt := 128) C dX4_personItem_115 (by decide) (fun h29 => ?_) (fun h29 => ?_)
                  ·
                    clear h29
                    refine gx_iconst (v := 0) C dX4_personItem_128 (by decide) ?_
                    refine gx_istore (lv2 := [(4, .int 0), (3, .int 30), (2, .int (qV B t (qE B t (qE B t i)))), (0, .ref (eA E 49)), (1, .int kd)]) C dX4_personItem_129 (by decide) rfl ?_
                    refine gx_aload_n C dX4_personItem_131 (by rfl) (by rfl) ?_
                    refine gx_ldcwS 32 C rfl dX4_personItem_132 ?_
                    refine gx_callVI (As := [.ref (eZ E (100 + 32))]) (rest := []) C (c_X4_takes_b E σ B t hP (qE B t (qE B t i)) (qE_le (B := B) (qE_le (B := B) hi)) 15 32 (by decide) rfl) z_X4_takes ck4 (by rfl) (by rfl) ml_X4_238 (by rfl) (Nat.le_of_ble_eq_true rfl) ⟨Nat.le_of_ble_eq_true rfl, Nat.le_of_ble_eq_true rfl⟩ dX4_personItem_135 (fun r30 σ30 w30 => ?_)
                    obtain ⟨u1, u2⟩ := w30; rw [u1, u2]; clear u1 u2
                    refine gx_if_eq (tgt := 153) C dX4_personItem_138 (by decide) (fun h31 => ?_) (fun h31 => ?_)
                    ·
                      clear h31
                      refine gx_bipush (v := 100) C dX4_personItem_153 (by decide) ?_
                      refine gx_istore (lv2 := [(5, .int 100), (4, .int 0), (3, .int 30), (2, .int (qV B t (qE B t (qE B t i)))), (0, .ref (eA E 49)), (1, .int kd)]) C dX4_personItem_155 (by decide) rfl ?_
                      refine gx_aload_n C dX4_personItem_157 (by rfl) (by rfl) ?_
                      refine gx_ldcwS 33 C rfl dX4_personItem_158 ?_
                      refine gx_callVI (As := [.ref (eZ E (100 + 33))]) (rest := []) C (c_X4_takes_b E σ B t hP (qE B t (qE B t i)) (qE_le (B := B) (qE_le (B := B) hi)) 16 33 (by decide) rfl) z_X4_takes ck4 (by rfl) (by rfl) ml_X4_238 (by rfl) (Nat.le_of_ble_eq_true rfl) ⟨Nat.le_of_ble_eq_true rfl, Nat.le_of_ble_eq_true rfl⟩ dX4_personItem_161 (fun r32 σ32 w32 => ?_)
                      obtain ⟨u1, u2⟩ := w32; rw [u1, u2]; clear u1 u2
                      refine gx_if_eq (tgt := 185) C dX4_personItem_164 (by decide) (fun h33 => ?_) (fun h33 => ?_)
                      ·
                        clear h33
                        refine gx_iconst (v := (-1)) C dX4_personItem_185 (by decide) ?_
                        refine gx_istore (lv2 := [(6, .int (-1)), (5, .int 100), (4, .int 0), (3, .int 30), (2, .int (qV B t (qE B t (qE B t i)))), (0, .ref (eA E 49)), (1, .int kd)]) C dX4_personItem_186 (by decide) rfl ?_
                        refine gx_aload_n C dX4_personItem_188 (by rfl) (by rfl) ?_
                        refine gx_geti (k := 12) C ck4 (by rfl) (by rfl) (by decide) fl_X4_218 dX4_personItem_189 ?_
                        refine gx_st (st' := [.int 1]) (by rw [mq_12]) ?_
                        refine gx_if_eq (tgt := 196) C dX4_personItem_192 (by decide) (fun h34 => ?_) (fun h34 => ?_)
                        ·
                          exact absurd h34 (by decide)
                        ·
                          clear h34
                          exact gx_vret C hr hlk (MTR.no Fm.rf hP (by unfold psR; rw [if_pos ⟨hk0, by omega⟩]; unfold ps1; rw [if_pos hc7]; unfold ps2; rw [er, cr, if_neg (fun q9 => hS q9.2)])) dX4_personItem_195
                      ·
                        exact absurd h33 (by decide)
                    ·
                      exact absurd h31 (by decide)
                  ·
                    exact absurd h29 (by decide)
                ·
                  exact absurd h27 (by decide)
              ·
                have h23 := b2_nz.mp h23
                have hS := h23
                refine gx_iconst (v := 1) C dX4_personItem_75 (by decide) ?_
                refine gx_goto (tgt := 80) C dX4_personItem_76 (by decide) ?_
                refine gx_callVI (As := [.int 0, .int 7, .int 1]) (rest := []) C (c_X4_number E σ B t hP (qE B t (qE B t i)) (qE_le (B := B) (qE_le (B := B) hi)) 0 7) z_X4_number ck4 (by rfl) (by rfl) ml_X4_260 (by rfl) (Nat.le_of_ble_eq_true rfl) ⟨Nat.le_of_ble_eq_true rfl, Nat.le_of_ble_eq_true rfl⟩ dX4_personItem_80 (fun r35 σ35 w35 => ?_)
                by_cases hc35 : qN B t (qE B t (qE B t i)) 0 7 = true
                ·
                  obtain ⟨er35, wa35, wb35⟩ := w35
                  obtain rfl := wa35 hc35
                  refine gx_st (st' := [.int (nI r)]) (by rw [er35, er]) ?_
                  refine gx_istore_n (lv2 := [(2, .int (nI r)), (0, .ref (eA E 49)), (1, .int kd)]) C dX4_personItem_83 (by rfl) (by decide) rfl ?_
                  refine gx_aload_n C dX4_personItem_84 (by rfl) (by rfl) ?_
                  refine gx_ldcwS 30 C rfl dX4_personItem_85 ?_
                  refine gx_callVI (As := [.ref (eZ E (100 + 30))]) (rest := []) C (c_X4_takes E σ B t hP (qE B t (qE B t (qE B t i))) (qE_le (B := B) (qE_le (B := B) (qE_le (B := B) hi))) 13 30 (by decide) rfl) z_X4_takes ck4 (by rfl) (by rfl) ml_X4_238 (by rfl) (Nat.le_of_ble_eq_true rfl) ⟨Nat.le_of_ble_eq_true rfl, Nat.le_of_ble_eq_true rfl⟩ dX4_personItem_88 (fun r36 σ36 w36 => ?_)
                  by_cases hc36 : qW B t (qE B t (qE B t (qE B t i))) 13 = true
                  ·
                    obtain ⟨rfl, rfl⟩ := w36.1 hc36
                    refine gx_if_eq (tgt := 105) C dX4_personItem_91 (by decide) (fun h38 => ?_) (fun h38 => ?_)
                    ·
                      exact absurd h38 (by decide)
                    ·
                      clear h38
                      refine gx_aload_n C dX4_personItem_94 (by rfl) (by rfl) ?_
                      refine gx_iconst (v := 0) C dX4_personItem_95 (by decide) ?_
                      refine gx_bipush (v := 99) C dX4_personItem_96 (by decide) ?_
                      refine gx_iconst (v := 1) C dX4_personItem_98 (by decide) ?_
                      refine gx_callVI (As := [.int 0, .int 99, .int 1]) (rest := []) C (c_X4_number E σ B t hP (qE B t (qE B t (qE B t (qE B t i)))) (qE_le (B := B) (qE_le (B := B) (qE_le (B := B) (qE_le (B := B) hi)))) 0 99) z_X4_number ck4 (by rfl) (by rfl) ml_X4_260 (by rfl) (Nat.le_of_ble_eq_true rfl) ⟨Nat.le_of_ble_eq_true rfl, Nat.le_of_ble_eq_true rfl⟩ dX4_personItem_99 (fun r39 σ39 w39 => ?_)
                      by_cases hc39 : qN B t (qE B t (qE B t (qE B t (qE B t i)))) 0 99 = true
                      ·
                        obtain ⟨er39, wa39, wb39⟩ := w39
                        obtain rfl := wa39 hc39
                        refine gx_st (st' := [.int (qV B t (qE B t (qE B t (qE B t (qE B t i)))))]) (by rw [er39]) ?_
                        refine gx_goto (tgt := 107) C dX4_personItem_102 (by decide) ?_
                        refine gx_istore_n (lv2 := [(3, .int (qV B t (qE B t (qE B t (qE B t (qE B t i)))))), (2, .int (nI r)), (0, .ref (eA E 49)), (1, .int kd)]) C dX4_personItem_107 (by rfl) (by decide) rfl ?_
                        refine gx_aload_n C dX4_personItem_108 (by rfl) (by rfl) ?_
                        refine gx_ldcwS 31 C rfl dX4_personItem_109 ?_
                        refine gx_callVI (As := [.ref (eZ E (100 + 31))]) (rest := []) C (c_X4_takes E σ B t hP (qE B t (qE B t (qE B t (qE B t (qE B t i))))) (qE_le (B := B) (qE_le (B := B) (qE_le (B := B) (qE_le (B := B) (qE_le (B := B) hi))))) 14 31 (by decide) rfl) z_X4_takes ck4 (by rfl) (by rfl) ml_X4_238 (by rfl) (Nat.le_of_ble_eq_true rfl) ⟨Nat.le_of_ble_eq_true rfl, Nat.le_of_ble_eq_true rfl⟩ dX4_personItem_112 (fun r40 σ40 w40 => ?_)
                        by_cases hc40 : qW B t (qE B t (qE B t (qE B t (qE B t (qE B t i))))) 14 = true
                        ·
                          obtain ⟨rfl, rfl⟩ := w40.1 hc40
                          refine gx_if_eq (tgt := 128) C dX4_personItem_115 (by decide) (fun h41 => ?_) (fun h41 => ?_)
                          ·
                            exact absurd h41 (by decide)
                          ·
                            clear h41
                            refine gx_aload_n C dX4_personItem_118 (by rfl) (by rfl) ?_
                            refine gx_iconst (v := 0) C dX4_personItem_119 (by decide) ?_
                            refine gx_iconst (v := 3) C dX4_personItem_120 (by decide) ?_
                            refine gx_iconst (v := 1) C dX4_personItem_121 (by decide) ?_
                            refine gx_callVI (As := [.int 0, .int 3, .int 1]) (rest := []) C (c_X4_number E σ B t hP (qE B t (qE B t (qE B t (qE B t (qE B t (qE B t i)))))) (qE_le (B := B) (qE_le (B := B) (qE_le (B := B) (qE_le (B := B) (qE_le (B := B) (qE_le (B := B) hi)))))) 0 3) z_X4_number ck4 (by rfl) (by rfl) ml_X4_260 (by rfl) (Nat.le_of_ble_eq_true rfl) ⟨Nat.le_of_ble_eq_true rfl, Nat.le_of_ble_eq_true rfl⟩ dX4_personItem_122 (fun r42 σ42 w42 => ?_)
                            by_cases hc42 : qN B t (qE B t (qE B t (qE B t (qE B t (qE B t (qE B t i)))))) 0 3 = true
                            ·
                              obtain ⟨er42, wa42, wb42⟩ := w42
                              obtain rfl := wa42 hc42
                              refine gx_st (st' := [.int (qV B t (qE B t (qE B t (qE B t (qE B t (qE B t (qE B t i)))))))]) (by rw [er42]) ?_
                              refine gx_goto (tgt := 129) C dX4_personItem_125 (by decide) ?_
                              refine gx_istore (lv2 := [(4, .int (qV B t (qE B t (qE B t (qE B t (qE B t (qE B t (qE B t i)))))))), (3, .int (qV B t (qE B t (qE B t (qE B t (qE B t i)))))), (2, .int (nI r)), (0, .ref (eA E 49)), (1, .int kd)]) C dX4_personItem_129 (by decide) rfl ?_
                              refine gx_aload_n C dX4_personItem_131 (by rfl) (by rfl) ?_
                              refine gx_ldcwS 32 C rfl dX4_personItem_132 ?_
                              refine gx_callVI (As := [.ref (eZ E (100 + 32))]) (rest := []) C (c_X4_takes E σ B t hP (qE B t (qE B t (qE B t (qE B t (qE B t (qE B t (qE B t i))))))) (qE_le (B := B) (qE_le (B := B) (qE_le (B := B) (qE_le (B := B) (qE_le (B := B) (qE_le (B := B) (qE_le (B := B) hi))))))) 15 32 (by decide) rfl) z_X4_takes ck4 (by rfl) (by rfl) ml_X4_238 (by rfl) (Nat.le_of_ble_eq_true rfl) ⟨Nat.le_of_ble_eq_true rfl, Nat.le_of_ble_eq_true rfl⟩ dX4_personItem_135 (fun r43 σ43 w43 => ?_)
                              by_cases hc43 : qW B t (qE B t (qE B t (qE B t (qE B t (qE B t (qE B t (qE B t i))))))) 15 = true
                              ·
                                obtain ⟨rfl, rfl⟩ := w43.1 hc43
                                refine gx_if_eq (tgt := 153) C dX4_personItem_138 (by decide) (fun h44 => ?_) (fun h44 => ?_)
                                ·
                                  exact absurd h44 (by decide)
                                ·
                                  clear h44
                                  refine gx_aload_n C dX4_personItem_141 (by rfl) (by rfl) ?_
                                  refine gx_iconst (v := 0) C dX4_personItem_142 (by decide) ?_
                                  refine gx_sipush (v := 9999) C dX4_personItem_143 (by decide) ?_
                                  refine gx_iconst (v := 1) C dX4_personItem_146 (by decide) ?_
                                  refine gx_callVI (As := [.int 0, .int 9999, .int 1]) (rest := []) C (c_X4_number E σ B t hP (qE B t (qE B t (qE B t (qE B t (qE B t (qE B t (qE B t (qE B t i)))))))) (qE_le (B := B) (qE_le (B := B) (qE_le (B := B) (qE_le (B := B) (qE_le (B := B) (qE_le (B := B) (qE_le (B := B) (qE_le (B := B) hi)))))))) 0 9999) z_X4_number ck4 (by rfl) (by rfl) ml_X4_260 (by rfl) (Nat.le_of_ble_eq_true rfl) ⟨Nat.le_of_ble_eq_true rfl, Nat.le_of_ble_eq_true rfl⟩ dX4_personItem_147 (fun r45 σ45 w45 => ?_)
                                  by_cases hc45 : qN B t (qE B t (qE B t (qE B t (qE B t (qE B t (qE B t (qE B t (qE B t i)))))))) 0 9999 = true
                                  ·
                                    obtain ⟨er45, wa45, wb45⟩ := w45
                                    obtain rfl := wa45 hc45
                                    refine gx_st (st' := [.int (qV B t (qE B t (qE B t (qE B t (qE B t (qE B t (qE B t (qE B t (qE B t i)))))))))]) (by rw [er45]) ?_
                                    refine gx_goto (tgt := 155) C dX4_personItem_150 (by decide) ?_
                                    refine gx_istore (lv2 := [(5, .int (qV B t (qE B t (qE B t (qE B t (qE B t (qE B t (qE B t (qE B t (qE B t i)))))))))), (4, .int (qV B t (qE B t (qE B t (qE B t (qE B t (qE B t (qE B t i)))))))), (3, .int (qV B t (qE B t (qE B t (qE B t (qE B t i)))))), (2, .int (nI r)), (0, .ref (eA E 49)), (1, .int kd)]) C dX4_personItem_155 (by decide) rfl ?_
                                    refine gx_aload_n C dX4_personItem_157 (by rfl) (by rfl) ?_
                                    refine gx_ldcwS 33 C rfl dX4_personItem_158 ?_
                                    refine gx_callVI (As := [.ref (eZ E (100 + 33))]) (rest := []) C (c_X4_takes E σ B t hP (qE B t (qE B t (qE B t (qE B t (qE B t (qE B t (qE B t (qE B t (qE B t i))))))))) (qE_le (B := B) (qE_le (B := B) (qE_le (B := B) (qE_le (B := B) (qE_le (B := B) (qE_le (B := B) (qE_le (B := B) (qE_le (B := B) (qE_le (B := B) hi))))))))) 16 33 (by decide) rfl) z_X4_takes ck4 (by rfl) (by rfl) ml_X4_238 (by rfl) (Nat.le_of_ble_eq_true rfl) ⟨Nat.le_of_ble_eq_true rfl, Nat.le_of_ble_eq_true rfl⟩ dX4_personItem_161 (fun r46 σ46 w46 => ?_)
                                    by_cases hc46 : qW B t (qE B t (qE B t (qE B t (qE B t (qE B t (qE B t (qE B t (qE B t (qE B t i))))))))) 16 = true
                                    ·
                                      obtain ⟨rfl, rfl⟩ := w46.1 hc46
                                      refine gx_if_eq (tgt := 185) C dX4_personItem_164 (by decide) (fun h47 => ?_) (fun h47 => ?_)
                                      ·
                                        exact absurd h47 (by decide)
                                      ·
                                        clear h47
                                        refine gx_aload_n C dX4_personItem_167 (by rfl) (by rfl) ?_
                                        refine gx_iconst (v := 0) C dX4_personItem_168 (by decide) ?_
                                        refine gx_aload_n C dX4_personItem_169 (by rfl) (by rfl) ?_
                                        refine gx_getr (j := 50) (k := 0) C ck4 (by rfl) (by rfl) (by decide) fl_X4_9 dX4_personItem_170 ?_
                                        refine gx_bipush (v := 6) C dX4_personItem_173 (by decide) ?_
                                        refine gx_ialdN (k := 6) C (by rfl) (by rfl) (by decide) (by decide) dX4_personItem_175 ?_
                                        refine gx_st (st' := [.int (nI (nn K)), .int 0, .ref (eA E 49)]) (by rw [mp_n (vM_mq.trans hM : vM (mq σ B t (qE B t (qE B t (qE B t (qE B t (qE B t (qE B t (qE B t (qE B t (qE B t (qE B t i)))))))))) 0) 50 = K), hO.1.1]) ?_
                                        refine gx_iconst (v := 1) C dX4_personItem_176 (by decide) ?_
                                        refine gx_isub C dX4_personItem_177 ?_
                                        refine gx_iconst (v := 1) C dX4_personItem_178 (by decide) ?_
                                        refine gx_callVI (As := [.int 0, .int ((nI (nn K)) - 1), .int 1]) (rest := []) C (c_X4_number E σ B t hP (qE B t (qE B t (qE B t (qE B t (qE B t (qE B t (qE B t (qE B t (qE B t (qE B t i)))))))))) (qE_le (B := B) (qE_le (B := B) (qE_le (B := B) (qE_le (B := B) (qE_le (B := B) (qE_le (B := B) (qE_le (B := B) (qE_le (B := B) (qE_le (B := B) (qE_le (B := B) hi)))))))))) 0 ((nI (nn K)) - 1)) z_X4_number ck4 (by rfl) (by rfl) ml_X4_260 (by rfl) (Nat.le_of_ble_eq_true rfl) ⟨Nat.le_of_ble_eq_true rfl, Nat.le_of_ble_eq_true rfl⟩ dX4_personItem_179 (fun r48 σ48 w48 => ?_)
                                        by_cases hc48 : qN B t (qE B t (qE B t (qE B t (qE B t (qE B t (qE B t (qE B t (qE B t (qE B t (qE B t i)))))))))) 0 ((nI (nn K)) - 1) = true
                                        ·
                                          obtain ⟨er48, wa48, wb48⟩ := w48
                                          obtain rfl := wa48 hc48
                                          refine gx_st (st' := [.int (qV B t (qE B t (qE B t (qE B t (qE B t (qE B t (qE B t (qE B t (qE B t (qE B t (qE B t i)))))))))))]) (by rw [er48]) ?_
                                          refine gx_goto (tgt := 186) C dX4_personItem_182 (by decide) ?_
                                          refine gx_istore (lv2 := [(6, .int (qV B t (qE B t (qE B t (qE B t (qE B t (qE B t (qE B t (qE B t (qE B t (qE B t (qE B t i)))))))))))), (5, .int (qV B t (qE B t (qE B t (qE B t (qE B t (qE B t (qE B t (qE B t (qE B t i)))))))))), (4, .int (qV B t (qE B t (qE B t (qE B t (qE B t (qE B t (qE B t i)))))))), (3, .int (qV B t (qE B t (qE B t (qE B t (qE B t i)))))), (2, .int (nI r)), (0, .ref (eA E 49)), (1, .int kd)]) C dX4_personItem_186 (by decide) rfl ?_
                                          refine gx_aload_n C dX4_personItem_188 (by rfl) (by rfl) ?_
                                          refine gx_geti (k := 12) C ck4 (by rfl) (by rfl) (by decide) fl_X4_218 dX4_personItem_189 ?_
                                          refine gx_st (st' := [.int 0]) (by rw [mq_12]) ?_
                                          refine gx_if_eq (tgt := 196) C dX4_personItem_192 (by decide) (fun h49 => ?_) (fun h49 => ?_)
                                          ·
                                            clear h49
                                            refine gx_aload_n C dX4_personItem_196 (by rfl) (by rfl) ?_
                                            refine gx_iload_n C dX4_personItem_197 (by rfl) (by rfl) ?_
                                            refine gx_iload_n C dX4_personItem_198 (by rfl) (by rfl) ?_
                                            refine gx_callVI (As := [.int kd, .int (nI r)]) (rest := []) C (c_X4_comes E (mq σ B t (qE B t (qE B t (qE B t (qE B t (qE B t (qE B t (qE B t (qE B t (qE B t (qE B t (qE B t i))))))))))) 0) K (vM_mq.trans hM : vM (mq σ B t (qE B t (qE B t (qE B t (qE B t (qE B t (qE B t (qE B t (qE B t (qE B t (qE B t (qE B t i))))))))))) 0) 50 = K) hO kd (nI r) (by omega)) z_X4_comes ck4 (by rfl) (by rfl) ml_X4_98 (by rfl) (Nat.le_of_ble_eq_true rfl) ⟨Nat.le_of_ble_eq_true rfl, Nat.le_of_ble_eq_true rfl⟩ dX4_personItem_199 (fun r50 σ50 w50 => ?_)
                                            obtain ⟨er50, hM50, hF50⟩ := w50
                                            refine gx_st (st' := [.int (nI (nn K))]) (by rw [er50]) ?_
                                            refine gx_istore (lv2 := [(7, .int (nI (nn K))), (6, .int (qV B t (qE B t (qE B t (qE B t (qE B t (qE B t (qE B t (qE B t (qE B t (qE B t (qE B t i)))))))))))), (5, .int (qV B t (qE B t (qE B t (qE B t (qE B t (qE B t (qE B t (qE B t (qE B t i)))))))))), (4, .int (qV B t (qE B t (qE B t (qE B t (qE B t (qE B t (qE B t i)))))))), (3, .int (qV B t (qE B t (qE B t (qE B t (qE B t i)))))), (2, .int (nI r)), (0, .ref (eA E 49)), (1, .int kd)]) C dX4_personItem_202 (by decide) rfl ?_
                                            refine gx_aload_n C dX4_personItem_204 (by rfl) (by rfl) ?_
                                            refine gx_iload C dX4_personItem_205 (by rfl) ?_
                                            refine gx_iconst (v := 2) C dX4_personItem_207 (by decide) ?_
                                            refine gx_iload_n C dX4_personItem_208 (by rfl) (by rfl) ?_
                                            refine gx_callVV (As := [.int (nI (nn K)), .int 2, .int (qV B t (qE B t (qE B t (qE B t (qE B t i)))))]) (rest := []) C (c_X4_makes E σ50 (nn K) (by omega) 2 (by omega) (qV B t (qE B t (qE B t (qE B t (qE B t i)))))) z_X4_makes ck4 (by rfl) (by rfl) ml_X4_87 (by rfl) (Nat.le_of_ble_eq_true rfl) ⟨Nat.le_of_ble_eq_true rfl, Nat.le_of_ble_eq_true rfl⟩ dX4_personItem_209 (fun σ52 w52 => ?_)
                                            rw [w52]; clear w52
                                            have hM51 : vM (up2 σ50 50 (15 + 7 * (nn K) + 2) (qV B t (qE B t (qE B t (qE B t (qE B t i)))))) 50 = up2 (adK K kd (nI r)) 3 (nn K) (qV B t (qE B t (qE B t (qE B t (qE B t i))))) := by rw [vM_mk (by omega) (by omega), hM50]
                                            refine gx_aload_n C dX4_personItem_212 (by rfl) (by rfl) ?_
                                            refine gx_iload C dX4_personItem_213 (by rfl) ?_
                                            refine gx_iconst (v := 3) C dX4_personItem_215 (by decide) ?_
                                            refine gx_iload C dX4_personItem_216 (by rfl) ?_
                                            refine gx_callVV (As := [.int (nI (nn K)), .int 3, .int (qV B t (qE B t (qE B t (qE B t (qE B t (qE B t (qE B t i)))))))]) (rest := []) C (c_X4_makes E (up2 σ50 50 (15 + 7 * (nn K) + 2) (qV B t (qE B t (qE B t (qE B t (qE B t i)))))) (nn K) (by omega) 3 (by omega) (qV B t (qE B t (qE B t (qE B t (qE B t (qE B t (qE B t i)))))))) z_X4_makes ck4 (by rfl) (by rfl) ml_X4_87 (by rfl) (Nat.le_of_ble_eq_true rfl) ⟨Nat.le_of_ble_eq_true rfl, Nat.le_of_ble_eq_true rfl⟩ dX4_personItem_218 (fun σ54 w54 => ?_)
                                            rw [w54]; clear w54
                                            have hM53 : vM (up2 (up2 σ50 50 (15 + 7 * (nn K) + 2) (qV B t (qE B t (qE B t (qE B t (qE B t i)))))) 50 (15 + 7 * (nn K) + 3) (qV B t (qE B t (qE B t (qE B t (qE B t (qE B t (qE B t i)))))))) 50 = up2 (up2 (adK K kd (nI r)) 3 (nn K) (qV B t (qE B t (qE B t (qE B t (qE B t i)))))) 4 (nn K) (qV B t (qE B t (qE B t (qE B t (qE B t (qE B t (qE B t i))))))) := by rw [vM_mk (by omega) (by omega), hM51]
                                            refine gx_aload_n C dX4_personItem_221 (by rfl) (by rfl) ?_
                                            refine gx_iload C dX4_personItem_222 (by rfl) ?_
                                            refine gx_iconst (v := 4) C dX4_personItem_224 (by decide) ?_
                                            refine gx_iload C dX4_personItem_225 (by rfl) ?_
                                            refine gx_callVV (As := [.int (nI (nn K)), .int 4, .int (qV B t (qE B t (qE B t (qE B t (qE B t (qE B t (qE B t (qE B t (qE B t i)))))))))]) (rest := []) C (c_X4_makes E (up2 (up2 σ50 50 (15 + 7 * (nn K) + 2) (qV B t (qE B t (qE B t (qE B t (qE B t i)))))) 50 (15 + 7 * (nn K) + 3) (qV B t (qE B t (qE B t (qE B t (qE B t (qE B t (qE B t i)))))))) (nn K) (by omega) 4 (by omega) (qV B t (qE B t (qE B t (qE B t (qE B t (qE B t (qE B t (qE B t (qE B t i)))))))))) z_X4_makes ck4 (by rfl) (by rfl) ml_X4_87 (by rfl) (Nat.le_of_ble_eq_true rfl) ⟨Nat.le_of_ble_eq_true rfl, Nat.le_of_ble_eq_true rfl⟩ dX4_personItem_227 (fun σ56 w56 => ?_)
                                            rw [w56]; clear w56
                                            have hM55 : vM (up2 (up2 (up2 σ50 50 (15 + 7 * (nn K) + 2) (qV B t (qE B t (qE B t (qE B t (qE B t i)))))) 50 (15 + 7 * (nn K) + 3) (qV B t (qE B t (qE B t (qE B t (qE B t (qE B t (qE B t i)))))))) 50 (15 + 7 * (nn K) + 4) (qV B t (qE B t (qE B t (qE B t (qE B t (qE B t (qE B t (qE B t (qE B t i)))))))))) 50 = up2 (up2 (up2 (adK K kd (nI r)) 3 (nn K) (qV B t (qE B t (qE B t (qE B t (qE B t i)))))) 4 (nn K) (qV B t (qE B t (qE B t (qE B t (qE B t (qE B t (qE B t i)))))))) 5 (nn K) (qV B t (qE B t (qE B t (qE B t (qE B t (qE B t (qE B t (qE B t (qE B t i))))))))) := by rw [vM_mk (by omega) (by omega), hM53]
                                            refine gx_aload_n C dX4_personItem_230 (by rfl) (by rfl) ?_
                                            refine gx_iload C dX4_personItem_231 (by rfl) ?_
                                            refine gx_iconst (v := 5) C dX4_personItem_233 (by decide) ?_
                                            refine gx_iload C dX4_personItem_234 (by rfl) ?_
                                            refine gx_callVV (As := [.int (nI (nn K)), .int 5, .int (qV B t (qE B t (qE B t (qE B t (qE B t (qE B t (qE B t (qE B t (qE B t (qE B t (qE B t i)))))))))))]) (rest := []) C (c_X4_makes E (up2 (up2 (up2 σ50 50 (15 + 7 * (nn K) + 2) (qV B t (qE B t (qE B t (qE B t (qE B t i)))))) 50 (15 + 7 * (nn K) + 3) (qV B t (qE B t (qE B t (qE B t (qE B t (qE B t (qE B t i)))))))) 50 (15 + 7 * (nn K) + 4) (qV B t (qE B t (qE B t (qE B t (qE B t (qE B t (qE B t (qE B t (qE B t i)))))))))) (nn K) (by omega) 5 (by omega) (qV B t (qE B t (qE B t (qE B t (qE B t (qE B t (qE B t (qE B t (qE B t (qE B t (qE B t i)))))))))))) z_X4_makes ck4 (by rfl) (by rfl) ml_X4_87 (by rfl) (Nat.le_of_ble_eq_true rfl) ⟨Nat.le_of_ble_eq_true rfl, Nat.le_of_ble_eq_true rfl⟩ dX4_personItem_236 (fun σ58 w58 => ?_)
                                            rw [w58]; clear w58
                                            have hM57 : vM (up2 (up2 (up2 (up2 σ50 50 (15 + 7 * (nn K) + 2) (qV B t (qE B t (qE B t (qE B t (qE B t i)))))) 50 (15 + 7 * (nn K) + 3) (qV B t (qE B t (qE B t (qE B t (qE B t (qE B t (qE B t i)))))))) 50 (15 + 7 * (nn K) + 4) (qV B t (qE B t (qE B t (qE B t (qE B t (qE B t (qE B t (qE B t (qE B t i)))))))))) 50 (15 + 7 * (nn K) + 5) (qV B t (qE B t (qE B t (qE B t (qE B t (qE B t (qE B t (qE B t (qE B t (qE B t (qE B t i)))))))))))) 50 = up2 (up2 (up2 (up2 (adK K kd (nI r)) 3 (nn K) (qV B t (qE B t (qE B t (qE B t (qE B t i)))))) 4 (nn K) (qV B t (qE B t (qE B t (qE B t (qE B t (qE B t (qE B t i)))))))) 5 (nn K) (qV B t (qE B t (qE B t (qE B t (qE B t (qE B t (qE B t (qE B t (qE B t i)))))))))) 6 (nn K) (qV B t (qE B t (qE B t (qE B t (qE B t (qE B t (qE B t (qE B t (qE B t (qE B t (qE B t i))))))))))) := by rw [vM_mk (by omega) (by omega), hM55]
                                            have ed1 : dtR B t 13 3 (nn K) 99 (adK K kd (nI r)) (qE B t (qE B t (qE B t i))) = (some (up2 (adK K kd (nI r)) 3 (nn K) (qV B t (qE B t (qE B t (qE B t (qE B t i)))))), qE B t (qE B t (qE B t (qE B t (qE B t i))))) := dt_t hc36 hc39
                                            have ed2 : dtR B t 14 4 (nn K) 3 (up2 (adK K kd (nI r)) 3 (nn K) (qV B t (qE B t (qE B t (qE B t (qE B t i)))))) (qE B t (qE B t (qE B t (qE B t (qE B t i))))) = (some (up2 (up2 (adK K kd (nI r)) 3 (nn K) (qV B t (qE B t (qE B t (qE B t (qE B t i)))))) 4 (nn K) (qV B t (qE B t (qE B t (qE B t (qE B t (qE B t (qE B t i)))))))), qE B t (qE B t (qE B t (qE B t (qE B t (qE B t (qE B t i))))))) := dt_t hc40 hc42
                                            have ed3 : dtR B t 15 5 (nn K) 9999 (up2 (up2 (adK K kd (nI r)) 3 (nn K) (qV B t (qE B t (qE B t (qE B t (qE B t i)))))) 4 (nn K) (qV B t (qE B t (qE B t (qE B t (qE B t (qE B t (qE B t i)))))))) (qE B t (qE B t (qE B t (qE B t (qE B t (qE B t (qE B t i))))))) = (some (up2 (up2 (up2 (adK K kd (nI r)) 3 (nn K) (qV B t (qE B t (qE B t (qE B t (qE B t i)))))) 4 (nn K) (qV B t (qE B t (qE B t (qE B t (qE B t (qE B t (qE B t i)))))))) 5 (nn K) (qV B t (qE B t (qE B t (qE B t (qE B t (qE B t (qE B t (qE B t (qE B t i)))))))))), qE B t (qE B t (qE B t (qE B t (qE B t (qE B t (qE B t (qE B t (qE B t i))))))))) := dt_t hc43 hc45
                                            have ed4 : dtR B t 16 6 (nn K) (nI (nn K) - 1) (up2 (up2 (up2 (adK K kd (nI r)) 3 (nn K) (qV B t (qE B t (qE B t (qE B t (qE B t i)))))) 4 (nn K) (qV B t (qE B t (qE B t (qE B t (qE B t (qE B t (qE B t i)))))))) 5 (nn K) (qV B t (qE B t (qE B t (qE B t (qE B t (qE B t (qE B t (qE B t (qE B t i)))))))))) (qE B t (qE B t (qE B t (qE B t (qE B t (qE B t (qE B t (qE B t (qE B t i))))))))) = (some (up2 (up2 (up2 (up2 (adK K kd (nI r)) 3 (nn K) (qV B t (qE B t (qE B t (qE B t (qE B t i)))))) 4 (nn K) (qV B t (qE B t (qE B t (qE B t (qE B t (qE B t (qE B t i)))))))) 5 (nn K) (qV B t (qE B t (qE B t (qE B t (qE B t (qE B t (qE B t (qE B t (qE B t i)))))))))) 6 (nn K) (qV B t (qE B t (qE B t (qE B t (qE B t (qE B t (qE B t (qE B t (qE B t (qE B t (qE B t i)))))))))))), qE B t (qE B t (qE B t (qE B t (qE B t (qE B t (qE B t (qE B t (qE B t (qE B t (qE B t i))))))))))) := dt_t hc46 hc48
                                            exact gx_vret C hr hlk (MTR.yes1 Fm.rf hP (((((F1.rf.tr hF50).up).up).up).up) hM57 (by unfold psR; rw [if_pos ⟨hk0, by omega⟩]; unfold ps1; rw [if_pos hc7]; unfold ps2; rw [er, cr, if_pos ⟨hc35, hS⟩]; unfold psD; simp only [ed1, ed2, ed3, ed4, bdR_s, bdR_n])) dX4_personItem_239
                                          ·
                                            exact absurd h49 (by decide)
                                        ·
                                          obtain ⟨er48, wa48, wb48⟩ := w48
                                          obtain rfl := wb48 hc48
                                          refine gx_st (st' := [.int (qV B t (qE B t (qE B t (qE B t (qE B t (qE B t (qE B t (qE B t (qE B t (qE B t (qE B t i)))))))))))]) (by rw [er48]) ?_
                                          refine gx_goto (tgt := 186) C dX4_personItem_182 (by decide) ?_
                                          refine gx_istore (lv2 := [(6, .int (qV B t (qE B t (qE B t (qE B t (qE B t (qE B t (qE B t (qE B t (qE B t (qE B t (qE B t i)))))))))))), (5, .int (qV B t (qE B t (qE B t (qE B t (qE B t (qE B t (qE B t (qE B t (qE B t i)))))))))), (4, .int (qV B t (qE B t (qE B t (qE B t (qE B t (qE B t (qE B t i)))))))), (3, .int (qV B t (qE B t (qE B t (qE B t (qE B t i)))))), (2, .int (nI r)), (0, .ref (eA E 49)), (1, .int kd)]) C dX4_personItem_186 (by decide) rfl ?_
                                          refine gx_aload_n C dX4_personItem_188 (by rfl) (by rfl) ?_
                                          refine gx_geti (k := 12) C ck4 (by rfl) (by rfl) (by decide) fl_X4_218 dX4_personItem_189 ?_
                                          refine gx_st (st' := [.int 1]) (by rw [mq_12]) ?_
                                          refine gx_if_eq (tgt := 196) C dX4_personItem_192 (by decide) (fun h59 => ?_) (fun h59 => ?_)
                                          ·
                                            exact absurd h59 (by decide)
                                          ·
                                            clear h59
                                            have ed1 : dtR B t 13 3 (nn K) 99 (adK K kd (nI r)) (qE B t (qE B t (qE B t i))) = (some (up2 (adK K kd (nI r)) 3 (nn K) (qV B t (qE B t (qE B t (qE B t (qE B t i)))))), qE B t (qE B t (qE B t (qE B t (qE B t i))))) := dt_t hc36 hc39
                                            have ed2 : dtR B t 14 4 (nn K) 3 (up2 (adK K kd (nI r)) 3 (nn K) (qV B t (qE B t (qE B t (qE B t (qE B t i)))))) (qE B t (qE B t (qE B t (qE B t (qE B t i))))) = (some (up2 (up2 (adK K kd (nI r)) 3 (nn K) (qV B t (qE B t (qE B t (qE B t (qE B t i)))))) 4 (nn K) (qV B t (qE B t (qE B t (qE B t (qE B t (qE B t (qE B t i)))))))), qE B t (qE B t (qE B t (qE B t (qE B t (qE B t (qE B t i))))))) := dt_t hc40 hc42
                                            have ed3 : dtR B t 15 5 (nn K) 9999 (up2 (up2 (adK K kd (nI r)) 3 (nn K) (qV B t (qE B t (qE B t (qE B t (qE B t i)))))) 4 (nn K) (qV B t (qE B t (qE B t (qE B t (qE B t (qE B t (qE B t i)))))))) (qE B t (qE B t (qE B t (qE B t (qE B t (qE B t (qE B t i))))))) = (some (up2 (up2 (up2 (adK K kd (nI r)) 3 (nn K) (qV B t (qE B t (qE B t (qE B t (qE B t i)))))) 4 (nn K) (qV B t (qE B t (qE B t (qE B t (qE B t (qE B t (qE B t i)))))))) 5 (nn K) (qV B t (qE B t (qE B t (qE B t (qE B t (qE B t (qE B t (qE B t (qE B t i)))))))))), qE B t (qE B t (qE B t (qE B t (qE B t (qE B t (qE B t (qE B t (qE B t i))))))))) := dt_t hc43 hc45
                                            have ed4 : dtR B t 16 6 (nn K) (nI (nn K) - 1) (up2 (up2 (up2 (adK K kd (nI r)) 3 (nn K) (qV B t (qE B t (qE B t (qE B t (qE B t i)))))) 4 (nn K) (qV B t (qE B t (qE B t (qE B t (qE B t (qE B t (qE B t i)))))))) 5 (nn K) (qV B t (qE B t (qE B t (qE B t (qE B t (qE B t (qE B t (qE B t (qE B t i)))))))))) (qE B t (qE B t (qE B t (qE B t (qE B t (qE B t (qE B t (qE B t (qE B t i))))))))) = (none, qE B t (qE B t (qE B t (qE B t (qE B t (qE B t (qE B t (qE B t (qE B t (qE B t i)))))))))) := dt_b hc46 hc48
                                            exact gx_vret C hr hlk (MTR.no Fm.rf hP (by unfold psR; rw [if_pos ⟨hk0, by omega⟩]; unfold ps1; rw [if_pos hc7]; unfold ps2; rw [er, cr, if_pos ⟨hc35, hS⟩]; unfold psD; simp only [ed1, ed2, ed3, ed4, bdR_s, bdR_n])) dX4_personItem_195
                                    ·
                                      obtain ⟨rfl, rfl⟩ := w46.2 hc46
                                      refine gx_if_eq (tgt := 185) C dX4_personItem_164 (by decide) (fun h60 => ?_) (fun h60 => ?_)
                                      ·
                                        clear h60
                                        refine gx_iconst (v := (-1)) C dX4_personItem_185 (by decide) ?_
                                        refine gx_istore (lv2 := [(6, .int (-1)), (5, .int (qV B t (qE B t (qE B t (qE B t (qE B t (qE B t (qE B t (qE B t (qE B t i)))))))))), (4, .int (qV B t (qE B t (qE B t (qE B t (qE B t (qE B t (qE B t i)))))))), (3, .int (qV B t (qE B t (qE B t (qE B t (qE B t i)))))), (2, .int (nI r)), (0, .ref (eA E 49)), (1, .int kd)]) C dX4_personItem_186 (by decide) rfl ?_
                                        refine gx_aload_n C dX4_personItem_188 (by rfl) (by rfl) ?_
                                        refine gx_geti (k := 12) C ck4 (by rfl) (by rfl) (by decide) fl_X4_218 dX4_personItem_189 ?_
                                        refine gx_st (st' := [.int 0]) (by rw [mq_12]) ?_
                                        refine gx_if_eq (tgt := 196) C dX4_personItem_192 (by decide) (fun h61 => ?_) (fun h61 => ?_)
                                        ·
                                          clear h61
                                          refine gx_aload_n C dX4_personItem_196 (by rfl) (by rfl) ?_
                                          refine gx_iload_n C dX4_personItem_197 (by rfl) (by rfl) ?_
                                          refine gx_iload_n C dX4_personItem_198 (by rfl) (by rfl) ?_
                                          refine gx_callVI (As := [.int kd, .int (nI r)]) (rest := []) C (c_X4_comes E (mq σ B t (qE B t (qE B t (qE B t (qE B t (qE B t (qE B t (qE B t (qE B t (qE B t i))))))))) 0) K (vM_mq.trans hM : vM (mq σ B t (qE B t (qE B t (qE B t (qE B t (qE B t (qE B t (qE B t (qE B t (qE B t i))))))))) 0) 50 = K) hO kd (nI r) (by omega)) z_X4_comes ck4 (by rfl) (by rfl) ml_X4_98 (by rfl) (Nat.le_of_ble_eq_true rfl) ⟨Nat.le_of_ble_eq_true rfl, Nat.le_of_ble_eq_true rfl⟩ dX4_personItem_199 (fun r62 σ62 w62 => ?_)
                                          obtain ⟨er62, hM62, hF62⟩ := w62
                                          refine gx_st (st' := [.int (nI (nn K))]) (by rw [er62]) ?_
                                          refine gx_istore (lv2 := [(7, .int (nI (nn K))), (6, .int (-1)), (5, .int (qV B t (qE B t (qE B t (qE B t (qE B t (qE B t (qE B t (qE B t (qE B t i)))))))))), (4, .int (qV B t (qE B t (qE B t (qE B t (qE B t (qE B t (qE B t i)))))))), (3, .int (qV B t (qE B t (qE B t (qE B t (qE B t i)))))), (2, .int (nI r)), (0, .ref (eA E 49)), (1, .int kd)]) C dX4_personItem_202 (by decide) rfl ?_
                                          refine gx_aload_n C dX4_personItem_204 (by rfl) (by rfl) ?_
                                          refine gx_iload C dX4_personItem_205 (by rfl) ?_
                                          refine gx_iconst (v := 2) C dX4_personItem_207 (by decide) ?_
                                          refine gx_iload_n C dX4_personItem_208 (by rfl) (by rfl) ?_
                                          refine gx_callVV (As := [.int (nI (nn K)), .int 2, .int (qV B t (qE B t (qE B t (qE B t (qE B t i)))))]) (rest := []) C (c_X4_makes E σ62 (nn K) (by omega) 2 (by omega) (qV B t (qE B t (qE B t (qE B t (qE B t i)))))) z_X4_makes ck4 (by rfl) (by rfl) ml_X4_87 (by rfl) (Nat.le_of_ble_eq_true rfl) ⟨Nat.le_of_ble_eq_true rfl, Nat.le_of_ble_eq_true rfl⟩ dX4_personItem_209 (fun σ64 w64 => ?_)
                                          rw [w64]; clear w64
                                          have hM63 : vM (up2 σ62 50 (15 + 7 * (nn K) + 2) (qV B t (qE B t (qE B t (qE B t (qE B t i)))))) 50 = up2 (adK K kd (nI r)) 3 (nn K) (qV B t (qE B t (qE B t (qE B t (qE B t i))))) := by rw [vM_mk (by omega) (by omega), hM62]
                                          refine gx_aload_n C dX4_personItem_212 (by rfl) (by rfl) ?_
                                          refine gx_iload C dX4_personItem_213 (by rfl) ?_
                                          refine gx_iconst (v := 3) C dX4_personItem_215 (by decide) ?_
                                          refine gx_iload C dX4_personItem_216 (by rfl) ?_
                                          refine gx_callVV (As := [.int (nI (nn K)), .int 3, .int (qV B t (qE B t (qE B t (qE B t (qE B t (qE B t (qE B t i)))))))]) (rest := []) C (c_X4_makes E (up2 σ62 50 (15 + 7 * (nn K) + 2) (qV B t (qE B t (qE B t (qE B t (qE B t i)))))) (nn K) (by omega) 3 (by omega) (qV B t (qE B t (qE B t (qE B t (qE B t (qE B t (qE B t i)))))))) z_X4_makes ck4 (by rfl) (by rfl) ml_X4_87 (by rfl) (Nat.le_of_ble_eq_true rfl) ⟨Nat.le_of_ble_eq_true rfl, Nat.le_of_ble_eq_true rfl⟩ dX4_personItem_218 (fun σ66 w66 => ?_)
                                          rw [w66]; clear w66
                                          have hM65 : vM (up2 (up2 σ62 50 (15 + 7 * (nn K) + 2) (qV B t (qE B t (qE B t (qE B t (qE B t i)))))) 50 (15 + 7 * (nn K) + 3) (qV B t (qE B t (qE B t (qE B t (qE B t (qE B t (qE B t i)))))))) 50 = up2 (up2 (adK K kd (nI r)) 3 (nn K) (qV B t (qE B t (qE B t (qE B t (qE B t i)))))) 4 (nn K) (qV B t (qE B t (qE B t (qE B t (qE B t (qE B t (qE B t i))))))) := by rw [vM_mk (by omega) (by omega), hM63]
                                          refine gx_aload_n C dX4_personItem_221 (by rfl) (by rfl) ?_
                                          refine gx_iload C dX4_personItem_222 (by rfl) ?_
                                          refine gx_iconst (v := 4) C dX4_personItem_224 (by decide) ?_
                                          refine gx_iload C dX4_personItem_225 (by rfl) ?_
                                          refine gx_callVV (As := [.int (nI (nn K)), .int 4, .int (qV B t (qE B t (qE B t (qE B t (qE B t (qE B t (qE B t (qE B t (qE B t i)))))))))]) (rest := []) C (c_X4_makes E (up2 (up2 σ62 50 (15 + 7 * (nn K) + 2) (qV B t (qE B t (qE B t (qE B t (qE B t i)))))) 50 (15 + 7 * (nn K) + 3) (qV B t (qE B t (qE B t (qE B t (qE B t (qE B t (qE B t i)))))))) (nn K) (by omega) 4 (by omega) (qV B t (qE B t (qE B t (qE B t (qE B t (qE B t (qE B t (qE B t (qE B t i)))))))))) z_X4_makes ck4 (by rfl) (by rfl) ml_X4_87 (by rfl) (Nat.le_of_ble_eq_true rfl) ⟨Nat.le_of_ble_eq_true rfl, Nat.le_of_ble_eq_true rfl⟩ dX4_personItem_227 (fun σ68 w68 => ?_)
                                          rw [w68]; clear w68
                                          have hM67 : vM (up2 (up2 (up2 σ62 50 (15 + 7 * (nn K) + 2) (qV B t (qE B t (qE B t (qE B t (qE B t i)))))) 50 (15 + 7 * (nn K) + 3) (qV B t (qE B t (qE B t (qE B t (qE B t (qE B t (qE B t i)))))))) 50 (15 + 7 * (nn K) + 4) (qV B t (qE B t (qE B t (qE B t (qE B t (qE B t (qE B t (qE B t (qE B t i)))))))))) 50 = up2 (up2 (up2 (adK K kd (nI r)) 3 (nn K) (qV B t (qE B t (qE B t (qE B t (qE B t i)))))) 4 (nn K) (qV B t (qE B t (qE B t (qE B t (qE B t (qE B t (qE B t i)))))))) 5 (nn K) (qV B t (qE B t (qE B t (qE B t (qE B t (qE B t (qE B t (qE B t (qE B t i))))))))) := by rw [vM_mk (by omega) (by omega), hM65]
                                          refine gx_aload_n C dX4_personItem_230 (by rfl) (by rfl) ?_
                                          refine gx_iload C dX4_personItem_231 (by rfl) ?_
                                          refine gx_iconst (v := 5) C dX4_personItem_233 (by decide) ?_
                                          refine gx_iload C dX4_personItem_234 (by rfl) ?_
                                          refine gx_callVV (As := [.int (nI (nn K)), .int 5, .int (-1)]) (rest := []) C (c_X4_makes E (up2 (up2 (up2 σ62 50 (15 + 7 * (nn K) + 2) (qV B t (qE B t (qE B t (qE B t (qE B t i)))))) 50 (15 + 7 * (nn K) + 3) (qV B t (qE B t (qE B t (qE B t (qE B t (qE B t (qE B t i)))))))) 50 (15 + 7 * (nn K) + 4) (qV B t (qE B t (qE B t (qE B t (qE B t (qE B t (qE B t (qE B t (qE B t i)))))))))) (nn K) (by omega) 5 (by omega) (-1)) z_X4_makes ck4 (by rfl) (by rfl) ml_X4_87 (by rfl) (Nat.le_of_ble_eq_true rfl) ⟨Nat.le_of_ble_eq_true rfl, Nat.le_of_ble_eq_true rfl⟩ dX4_personItem_236 (fun σ70 w70 => ?_)
                                          rw [w70]; clear w70
                                          have hM69 : vM (up2 (up2 (up2 (up2 σ62 50 (15 + 7 * (nn K) + 2) (qV B t (qE B t (qE B t (qE B t (qE B t i)))))) 50 (15 + 7 * (nn K) + 3) (qV B t (qE B t (qE B t (qE B t (qE B t (qE B t (qE B t i)))))))) 50 (15 + 7 * (nn K) + 4) (qV B t (qE B t (qE B t (qE B t (qE B t (qE B t (qE B t (qE B t (qE B t i)))))))))) 50 (15 + 7 * (nn K) + 5) (-1)) 50 = up2 (up2 (up2 (up2 (adK K kd (nI r)) 3 (nn K) (qV B t (qE B t (qE B t (qE B t (qE B t i)))))) 4 (nn K) (qV B t (qE B t (qE B t (qE B t (qE B t (qE B t (qE B t i)))))))) 5 (nn K) (qV B t (qE B t (qE B t (qE B t (qE B t (qE B t (qE B t (qE B t (qE B t i)))))))))) 6 (nn K) (-1) := by rw [vM_mk (by omega) (by omega), hM67]
                                          have ed1 : dtR B t 13 3 (nn K) 99 (adK K kd (nI r)) (qE B t (qE B t (qE B t i))) = (some (up2 (adK K kd (nI r)) 3 (nn K) (qV B t (qE B t (qE B t (qE B t (qE B t i)))))), qE B t (qE B t (qE B t (qE B t (qE B t i))))) := dt_t hc36 hc39
                                          have ed2 : dtR B t 14 4 (nn K) 3 (up2 (adK K kd (nI r)) 3 (nn K) (qV B t (qE B t (qE B t (qE B t (qE B t i)))))) (qE B t (qE B t (qE B t (qE B t (qE B t i))))) = (some (up2 (up2 (adK K kd (nI r)) 3 (nn K) (qV B t (qE B t (qE B t (qE B t (qE B t i)))))) 4 (nn K) (qV B t (qE B t (qE B t (qE B t (qE B t (qE B t (qE B t i)))))))), qE B t (qE B t (qE B t (qE B t (qE B t (qE B t (qE B t i))))))) := dt_t hc40 hc42
                                          have ed3 : dtR B t 15 5 (nn K) 9999 (up2 (up2 (adK K kd (nI r)) 3 (nn K) (qV B t (qE B t (qE B t (qE B t (qE B t i)))))) 4 (nn K) (qV B t (qE B t (qE B t (qE B t (qE B t (qE B t (qE B t i)))))))) (qE B t (qE B t (qE B t (qE B t (qE B t (qE B t (qE B t i))))))) = (some (up2 (up2 (up2 (adK K kd (nI r)) 3 (nn K) (qV B t (qE B t (qE B t (qE B t (qE B t i)))))) 4 (nn K) (qV B t (qE B t (qE B t (qE B t (qE B t (qE B t (qE B t i)))))))) 5 (nn K) (qV B t (qE B t (qE B t (qE B t (qE B t (qE B t (qE B t (qE B t (qE B t i)))))))))), qE B t (qE B t (qE B t (qE B t (qE B t (qE B t (qE B t (qE B t (qE B t i))))))))) := dt_t hc43 hc45
                                          have ed4 : dtR B t 16 6 (nn K) (nI (nn K) - 1) (up2 (up2 (up2 (adK K kd (nI r)) 3 (nn K) (qV B t (qE B t (qE B t (qE B t (qE B t i)))))) 4 (nn K) (qV B t (qE B t (qE B t (qE B t (qE B t (qE B t (qE B t i)))))))) 5 (nn K) (qV B t (qE B t (qE B t (qE B t (qE B t (qE B t (qE B t (qE B t (qE B t i)))))))))) (qE B t (qE B t (qE B t (qE B t (qE B t (qE B t (qE B t (qE B t (qE B t i))))))))) = (some (up2 (up2 (up2 (up2 (adK K kd (nI r)) 3 (nn K) (qV B t (qE B t (qE B t (qE B t (qE B t i)))))) 4 (nn K) (qV B t (qE B t (qE B t (qE B t (qE B t (qE B t (qE B t i)))))))) 5 (nn K) (qV B t (qE B t (qE B t (qE B t (qE B t (qE B t (qE B t (qE B t (qE B t i)))))))))) 6 (nn K) (-1)), qE B t (qE B t (qE B t (qE B t (qE B t (qE B t (qE B t (qE B t (qE B t i))))))))) := dt_u hc46 (by rw [up2_up, if_neg (by omega)]; rw [up2_up, if_neg (by omega)]; rw [up2_up, if_neg (by omega)]; exact ad_n.2.2.2)
                                          exact gx_vret C hr hlk (MTR.yes1 Fm.rf hP (((((F1.rf.tr hF62).up).up).up).up) hM69 (by unfold psR; rw [if_pos ⟨hk0, by omega⟩]; unfold ps1; rw [if_pos hc7]; unfold ps2; rw [er, cr, if_pos ⟨hc35, hS⟩]; unfold psD; simp only [ed1, ed2, ed3, ed4, bdR_s, bdR_n])) dX4_personItem_239
                                        ·
                                          exact absurd h61 (by decide)
                                      ·
                                        exact absurd h60 (by decide)
                                  ·
                                    obtain ⟨er45, wa45, wb45⟩ := w45
                                    obtain rfl := wb45 hc45
                                    refine gx_st (st' := [.int (qV B t (qE B t (qE B t (qE B t (qE B t (qE B t (qE B t (qE B t (qE B t i)))))))))]) (by rw [er45]) ?_
                                    refine gx_goto (tgt := 155) C dX4_personItem_150 (by decide) ?_
                                    refine gx_istore (lv2 := [(5, .int (qV B t (qE B t (qE B t (qE B t (qE B t (qE B t (qE B t (qE B t (qE B t i)))))))))), (4, .int (qV B t (qE B t (qE B t (qE B t (qE B t (qE B t (qE B t i)))))))), (3, .int (qV B t (qE B t (qE B t (qE B t (qE B t i)))))), (2, .int (nI r)), (0, .ref (eA E 49)), (1, .int kd)]) C dX4_personItem_155 (by decide) rfl ?_
                                    refine gx_aload_n C dX4_personItem_157 (by rfl) (by rfl) ?_
                                    refine gx_ldcwS 33 C rfl dX4_personItem_158 ?_
                                    refine gx_callVI (As := [.ref (eZ E (100 + 33))]) (rest := []) C (c_X4_takes_b E σ B t hP (qE B t (qE B t (qE B t (qE B t (qE B t (qE B t (qE B t (qE B t i)))))))) (qE_le (B := B) (qE_le (B := B) (qE_le (B := B) (qE_le (B := B) (qE_le (B := B) (qE_le (B := B) (qE_le (B := B) (qE_le (B := B) hi)))))))) 16 33 (by decide) rfl) z_X4_takes ck4 (by rfl) (by rfl) ml_X4_238 (by rfl) (Nat.le_of_ble_eq_true rfl) ⟨Nat.le_of_ble_eq_true rfl, Nat.le_of_ble_eq_true rfl⟩ dX4_personItem_161 (fun r71 σ71 w71 => ?_)
                                    obtain ⟨u1, u2⟩ := w71; rw [u1, u2]; clear u1 u2
                                    refine gx_if_eq (tgt := 185) C dX4_personItem_164 (by decide) (fun h72 => ?_) (fun h72 => ?_)
                                    ·
                                      clear h72
                                      refine gx_iconst (v := (-1)) C dX4_personItem_185 (by decide) ?_
                                      refine gx_istore (lv2 := [(6, .int (-1)), (5, .int (qV B t (qE B t (qE B t (qE B t (qE B t (qE B t (qE B t (qE B t (qE B t i)))))))))), (4, .int (qV B t (qE B t (qE B t (qE B t (qE B t (qE B t (qE B t i)))))))), (3, .int (qV B t (qE B t (qE B t (qE B t (qE B t i)))))), (2, .int (nI r)), (0, .ref (eA E 49)), (1, .int kd)]) C dX4_personItem_186 (by decide) rfl ?_
                                      refine gx_aload_n C dX4_personItem_188 (by rfl) (by rfl) ?_
                                      refine gx_geti (k := 12) C ck4 (by rfl) (by rfl) (by decide) fl_X4_218 dX4_personItem_189 ?_
                                      refine gx_st (st' := [.int 1]) (by rw [mq_12]) ?_
                                      refine gx_if_eq (tgt := 196) C dX4_personItem_192 (by decide) (fun h73 => ?_) (fun h73 => ?_)
                                      ·
                                        exact absurd h73 (by decide)
                                      ·
                                        clear h73
                                        have ed1 : dtR B t 13 3 (nn K) 99 (adK K kd (nI r)) (qE B t (qE B t (qE B t i))) = (some (up2 (adK K kd (nI r)) 3 (nn K) (qV B t (qE B t (qE B t (qE B t (qE B t i)))))), qE B t (qE B t (qE B t (qE B t (qE B t i))))) := dt_t hc36 hc39
                                        have ed2 : dtR B t 14 4 (nn K) 3 (up2 (adK K kd (nI r)) 3 (nn K) (qV B t (qE B t (qE B t (qE B t (qE B t i)))))) (qE B t (qE B t (qE B t (qE B t (qE B t i))))) = (some (up2 (up2 (adK K kd (nI r)) 3 (nn K) (qV B t (qE B t (qE B t (qE B t (qE B t i)))))) 4 (nn K) (qV B t (qE B t (qE B t (qE B t (qE B t (qE B t (qE B t i)))))))), qE B t (qE B t (qE B t (qE B t (qE B t (qE B t (qE B t i))))))) := dt_t hc40 hc42
                                        have ed3 : dtR B t 15 5 (nn K) 9999 (up2 (up2 (adK K kd (nI r)) 3 (nn K) (qV B t (qE B t (qE B t (qE B t (qE B t i)))))) 4 (nn K) (qV B t (qE B t (qE B t (qE B t (qE B t (qE B t (qE B t i)))))))) (qE B t (qE B t (qE B t (qE B t (qE B t (qE B t (qE B t i))))))) = (none, qE B t (qE B t (qE B t (qE B t (qE B t (qE B t (qE B t (qE B t i)))))))) := dt_b hc43 hc45
                                        exact gx_vret C hr hlk (MTR.no Fm.rf hP (by unfold psR; rw [if_pos ⟨hk0, by omega⟩]; unfold ps1; rw [if_pos hc7]; unfold ps2; rw [er, cr, if_pos ⟨hc35, hS⟩]; unfold psD; simp only [ed1, ed2, ed3, bdR_s, bdR_n])) dX4_personItem_195
                                    ·
                                      exact absurd h72 (by decide)
                              ·
                                obtain ⟨rfl, rfl⟩ := w43.2 hc43
                                refine gx_if_eq (tgt := 153) C dX4_personItem_138 (by decide) (fun h74 => ?_) (fun h74 => ?_)
                                ·
                                  clear h74
                                  refine gx_bipush (v := 100) C dX4_personItem_153 (by decide) ?_
                                  refine gx_istore (lv2 := [(5, .int 100), (4, .int (qV B t (qE B t (qE B t (qE B t (qE B t (qE B t (qE B t i)))))))), (3, .int (qV B t (qE B t (qE B t (qE B t (qE B t i)))))), (2, .int (nI r)), (0, .ref (eA E 49)), (1, .int kd)]) C dX4_personItem_155 (by decide) rfl ?_
                                  refine gx_aload_n C dX4_personItem_157 (by rfl) (by rfl) ?_
                                  refine gx_ldcwS 33 C rfl dX4_personItem_158 ?_
                                  refine gx_callVI (As := [.ref (eZ E (100 + 33))]) (rest := []) C (c_X4_takes E σ B t hP (qE B t (qE B t (qE B t (qE B t (qE B t (qE B t (qE B t i))))))) (qE_le (B := B) (qE_le (B := B) (qE_le (B := B) (qE_le (B := B) (qE_le (B := B) (qE_le (B := B) (qE_le (B := B) hi))))))) 16 33 (by decide) rfl) z_X4_takes ck4 (by rfl) (by rfl) ml_X4_238 (by rfl) (Nat.le_of_ble_eq_true rfl) ⟨Nat.le_of_ble_eq_true rfl, Nat.le_of_ble_eq_true rfl⟩ dX4_personItem_161 (fun r75 σ75 w75 => ?_)
                                  by_cases hc75 : qW B t (qE B t (qE B t (qE B t (qE B t (qE B t (qE B t (qE B t i))))))) 16 = true
                                  ·
                                    obtain ⟨rfl, rfl⟩ := w75.1 hc75
                                    refine gx_if_eq (tgt := 185) C dX4_personItem_164 (by decide) (fun h76 => ?_) (fun h76 => ?_)
                                    ·
                                      exact absurd h76 (by decide)
                                    ·
                                      clear h76
                                      refine gx_aload_n C dX4_personItem_167 (by rfl) (by rfl) ?_
                                      refine gx_iconst (v := 0) C dX4_personItem_168 (by decide) ?_
                                      refine gx_aload_n C dX4_personItem_169 (by rfl) (by rfl) ?_
                                      refine gx_getr (j := 50) (k := 0) C ck4 (by rfl) (by rfl) (by decide) fl_X4_9 dX4_personItem_170 ?_
                                      refine gx_bipush (v := 6) C dX4_personItem_173 (by decide) ?_
                                      refine gx_ialdN (k := 6) C (by rfl) (by rfl) (by decide) (by decide) dX4_personItem_175 ?_
                                      refine gx_st (st' := [.int (nI (nn K)), .int 0, .ref (eA E 49)]) (by rw [mp_n (vM_mq.trans hM : vM (mq σ B t (qE B t (qE B t (qE B t (qE B t (qE B t (qE B t (qE B t (qE B t i)))))))) 0) 50 = K), hO.1.1]) ?_
                                      refine gx_iconst (v := 1) C dX4_personItem_176 (by decide) ?_
                                      refine gx_isub C dX4_personItem_177 ?_
                                      refine gx_iconst (v := 1) C dX4_personItem_178 (by decide) ?_
                                      refine gx_callVI (As := [.int 0, .int ((nI (nn K)) - 1), .int 1]) (rest := []) C (c_X4_number E σ B t hP (qE B t (qE B t (qE B t (qE B t (qE B t (qE B t (qE B t (qE B t i)))))))) (qE_le (B := B) (qE_le (B := B) (qE_le (B := B) (qE_le (B := B) (qE_le (B := B) (qE_le (B := B) (qE_le (B := B) (qE_le (B := B) hi)))))))) 0 ((nI (nn K)) - 1)) z_X4_number ck4 (by rfl) (by rfl) ml_X4_260 (by rfl) (Nat.le_of_ble_eq_true rfl) ⟨Nat.le_of_ble_eq_true rfl, Nat.le_of_ble_eq_true rfl⟩ dX4_personItem_179 (fun r77 σ77 w77 => ?_)
                                      by_cases hc77 : qN B t (qE B t (qE B t (qE B t (qE B t (qE B t (qE B t (qE B t (qE B t i)))))))) 0 ((nI (nn K)) - 1) = true
                                      ·
                                        obtain ⟨er77, wa77, wb77⟩ := w77
                                        obtain rfl := wa77 hc77
                                        refine gx_st (st' := [.int (qV B t (qE B t (qE B t (qE B t (qE B t (qE B t (qE B t (qE B t (qE B t i)))))))))]) (by rw [er77]) ?_
                                        refine gx_goto (tgt := 186) C dX4_personItem_182 (by decide) ?_
                                        refine gx_istore (lv2 := [(6, .int (qV B t (qE B t (qE B t (qE B t (qE B t (qE B t (qE B t (qE B t (qE B t i)))))))))), (5, .int 100), (4, .int (qV B t (qE B t (qE B t (qE B t (qE B t (qE B t (qE B t i)))))))), (3, .int (qV B t (qE B t (qE B t (qE B t (qE B t i)))))), (2, .int (nI r)), (0, .ref (eA E 49)), (1, .int kd)]) C dX4_personItem_186 (by decide) rfl ?_
                                        refine gx_aload_n C dX4_personItem_188 (by rfl) (by rfl) ?_
                                        refine gx_geti (k := 12) C ck4 (by rfl) (by rfl) (by decide) fl_X4_218 dX4_personItem_189 ?_
                                        refine gx_st (st' := [.int 0]) (by rw [mq_12]) ?_
                                        refine gx_if_eq (tgt := 196) C dX4_personItem_192 (by decide) (fun h78 => ?_) (fun h78 => ?_)
                                        ·
                                          clear h78
                                          refine gx_aload_n C dX4_personItem_196 (by rfl) (by rfl) ?_
                                          refine gx_iload_n C dX4_personItem_197 (by rfl) (by rfl) ?_
                                          refine gx_iload_n C dX4_personItem_198 (by rfl) (by rfl) ?_
                                          refine gx_callVI (As := [.int kd, .int (nI r)]) (rest := []) C (c_X4_comes E (mq σ B t (qE B t (qE B t (qE B t (qE B t (qE B t (qE B t (qE B t (qE B t (qE B t i))))))))) 0) K (vM_mq.trans hM : vM (mq σ B t (qE B t (qE B t (qE B t (qE B t (qE B t (qE B t (qE B t (qE B t (qE B t i))))))))) 0) 50 = K) hO kd (nI r) (by omega)) z_X4_comes ck4 (by rfl) (by rfl) ml_X4_98 (by rfl) (Nat.le_of_ble_eq_true rfl) ⟨Nat.le_of_ble_eq_true rfl, Nat.le_of_ble_eq_true rfl⟩ dX4_personItem_199 (fun r79 σ79 w79 => ?_)
                                          obtain ⟨er79, hM79, hF79⟩ := w79
                                          refine gx_st (st' := [.int (nI (nn K))]) (by rw [er79]) ?_
                                          refine gx_istore (lv2 := [(7, .int (nI (nn K))), (6, .int (qV B t (qE B t (qE B t (qE B t (qE B t (qE B t (qE B t (qE B t (qE B t i)))))))))), (5, .int 100), (4, .int (qV B t (qE B t (qE B t (qE B t (qE B t (qE B t (qE B t i)))))))), (3, .int (qV B t (qE B t (qE B t (qE B t (qE B t i)))))), (2, .int (nI r)), (0, .ref (eA E 49)), (1, .int kd)]) C dX4_personItem_202 (by decide) rfl ?_
                                          refine gx_aload_n C dX4_personItem_204 (by rfl) (by rfl) ?_
                                          refine gx_iload C dX4_personItem_205 (by rfl) ?_
                                          refine gx_iconst (v := 2) C dX4_personItem_207 (by decide) ?_
                                          refine gx_iload_n C dX4_personItem_208 (by rfl) (by rfl) ?_
                                          refine gx_callVV (As := [.int (nI (nn K)), .int 2, .int (qV B t (qE B t (qE B t (qE B t (qE B t i)))))]) (rest := []) C (c_X4_makes E σ79 (nn K) (by omega) 2 (by omega) (qV B t (qE B t (qE B t (qE B t (qE B t i)))))) z_X4_makes ck4 (by rfl) (by rfl) ml_X4_87 (by rfl) (Nat.le_of_ble_eq_true rfl) ⟨Nat.le_of_ble_eq_true rfl, Nat.le_of_ble_eq_true rfl⟩ dX4_personItem_209 (fun σ81 w81 => ?_)
                                          rw [w81]; clear w81
                                          have hM80 : vM (up2 σ79 50 (15 + 7 * (nn K) + 2) (qV B t (qE B t (qE B t (qE B t (qE B t i)))))) 50 = up2 (adK K kd (nI r)) 3 (nn K) (qV B t (qE B t (qE B t (qE B t (qE B t i))))) := by rw [vM_mk (by omega) (by omega), hM79]
                                          refine gx_aload_n C dX4_personItem_212 (by rfl) (by rfl) ?_
                                          refine gx_iload C dX4_personItem_213 (by rfl) ?_
                                          refine gx_iconst (v := 3) C dX4_personItem_215 (by decide) ?_
                                          refine gx_iload C dX4_personItem_216 (by rfl) ?_
                                          refine gx_callVV (As := [.int (nI (nn K)), .int 3, .int (qV B t (qE B t (qE B t (qE B t (qE B t (qE B t (qE B t i)))))))]) (rest := []) C (c_X4_makes E (up2 σ79 50 (15 + 7 * (nn K) + 2) (qV B t (qE B t (qE B t (qE B t (qE B t i)))))) (nn K) (by omega) 3 (by omega) (qV B t (qE B t (qE B t (qE B t (qE B t (qE B t (qE B t i)))))))) z_X4_makes ck4 (by rfl) (by rfl) ml_X4_87 (by rfl) (Nat.le_of_ble_eq_true rfl) ⟨Nat.le_of_ble_eq_true rfl, Nat.le_of_ble_eq_true rfl⟩ dX4_personItem_218 (fun σ83 w83 => ?_)
                                          rw [w83]; clear w83
                                          have hM82 : vM (up2 (up2 σ79 50 (15 + 7 * (nn K) + 2) (qV B t (qE B t (qE B t (qE B t (qE B t i)))))) 50 (15 + 7 * (nn K) + 3) (qV B t (qE B t (qE B t (qE B t (qE B t (qE B t (qE B t i)))))))) 50 = up2 (up2 (adK K kd (nI r)) 3 (nn K) (qV B t (qE B t (qE B t (qE B t (qE B t i)))))) 4 (nn K) (qV B t (qE B t (qE B t (qE B t (qE B t (qE B t (qE B t i))))))) := by rw [vM_mk (by omega) (by omega), hM80]
                                          refine gx_aload_n C dX4_personItem_221 (by rfl) (by rfl) ?_
                                          refine gx_iload C dX4_personItem_222 (by rfl) ?_
                                          refine gx_iconst (v := 4) C dX4_personItem_224 (by decide) ?_
                                          refine gx_iload C dX4_personItem_225 (by rfl) ?_
                                          refine gx_callVV (As := [.int (nI (nn K)), .int 4, .int 100]) (rest := []) C (c_X4_makes E (up2 (up2 σ79 50 (15 + 7 * (nn K) + 2) (qV B t (qE B t (qE B t (qE B t (qE B t i)))))) 50 (15 + 7 * (nn K) + 3) (qV B t (qE B t (qE B t (qE B t (qE B t (qE B t (qE B t i)))))))) (nn K) (by omega) 4 (by omega) 100) z_X4_makes ck4 (by rfl) (by rfl) ml_X4_87 (by rfl) (Nat.le_of_ble_eq_true rfl) ⟨Nat.le_of_ble_eq_true rfl, Nat.le_of_ble_eq_true rfl⟩ dX4_personItem_227 (fun σ85 w85 => ?_)
                                          rw [w85]; clear w85
                                          have hM84 : vM (up2 (up2 (up2 σ79 50 (15 + 7 * (nn K) + 2) (qV B t (qE B t (qE B t (qE B t (qE B t i)))))) 50 (15 + 7 * (nn K) + 3) (qV B t (qE B t (qE B t (qE B t (qE B t (qE B t (qE B t i)))))))) 50 (15 + 7 * (nn K) + 4) 100) 50 = up2 (up2 (up2 (adK K kd (nI r)) 3 (nn K) (qV B t (qE B t (qE B t (qE B t (qE B t i)))))) 4 (nn K) (qV B t (qE B t (qE B t (qE B t (qE B t (qE B t (qE B t i)))))))) 5 (nn K) 100 := by rw [vM_mk (by omega) (by omega), hM82]
                                          refine gx_aload_n C dX4_personItem_230 (by rfl) (by rfl) ?_
                                          refine gx_iload C dX4_personItem_231 (by rfl) ?_
                                          refine gx_iconst (v := 5) C dX4_personItem_233 (by decide) ?_
                                          refine gx_iload C dX4_personItem_234 (by rfl) ?_
                                          refine gx_callVV (As := [.int (nI (nn K)), .int 5, .int (qV B t (qE B t (qE B t (qE B t (qE B t (qE B t (qE B t (qE B t (qE B t i)))))))))]) (rest := []) C (c_X4_makes E (up2 (up2 (up2 σ79 50 (15 + 7 * (nn K) + 2) (qV B t (qE B t (qE B t (qE B t (qE B t i)))))) 50 (15 + 7 * (nn K) + 3) (qV B t (qE B t (qE B t (qE B t (qE B t (qE B t (qE B t i)))))))) 50 (15 + 7 * (nn K) + 4) 100) (nn K) (by omega) 5 (by omega) (qV B t (qE B t (qE B t (qE B t (qE B t (qE B t (qE B t (qE B t (qE B t i)))))))))) z_X4_makes ck4 (by rfl) (by rfl) ml_X4_87 (by rfl) (Nat.le_of_ble_eq_true rfl) ⟨Nat.le_of_ble_eq_true rfl, Nat.le_of_ble_eq_true rfl⟩ dX4_personItem_236 (fun σ87 w87 => ?_)
                                          rw [w87]; clear w87
                                          have hM86 : vM (up2 (up2 (up2 (up2 σ79 50 (15 + 7 * (nn K) + 2) (qV B t (qE B t (qE B t (qE B t (qE B t i)))))) 50 (15 + 7 * (nn K) + 3) (qV B t (qE B t (qE B t (qE B t (qE B t (qE B t (qE B t i)))))))) 50 (15 + 7 * (nn K) + 4) 100) 50 (15 + 7 * (nn K) + 5) (qV B t (qE B t (qE B t (qE B t (qE B t (qE B t (qE B t (qE B t (qE B t i)))))))))) 50 = up2 (up2 (up2 (up2 (adK K kd (nI r)) 3 (nn K) (qV B t (qE B t (qE B t (qE B t (qE B t i)))))) 4 (nn K) (qV B t (qE B t (qE B t (qE B t (qE B t (qE B t (qE B t i)))))))) 5 (nn K) 100) 6 (nn K) (qV B t (qE B t (qE B t (qE B t (qE B t (qE B t (qE B t (qE B t (qE B t i))))))))) := by rw [vM_mk (by omega) (by omega), hM84]
                                          have ed1 : dtR B t 13 3 (nn K) 99 (adK K kd (nI r)) (qE B t (qE B t (qE B t i))) = (some (up2 (adK K kd (nI r)) 3 (nn K) (qV B t (qE B t (qE B t (qE B t (qE B t i)))))), qE B t (qE B t (qE B t (qE B t (qE B t i))))) := dt_t hc36 hc39
                                          have ed2 : dtR B t 14 4 (nn K) 3 (up2 (adK K kd (nI r)) 3 (nn K) (qV B t (qE B t (qE B t (qE B t (qE B t i)))))) (qE B t (qE B t (qE B t (qE B t (qE B t i))))) = (some (up2 (up2 (adK K kd (nI r)) 3 (nn K) (qV B t (qE B t (qE B t (qE B t (qE B t i)))))) 4 (nn K) (qV B t (qE B t (qE B t (qE B t (qE B t (qE B t (qE B t i)))))))), qE B t (qE B t (qE B t (qE B t (qE B t (qE B t (qE B t i))))))) := dt_t hc40 hc42
                                          have ed3 : dtR B t 15 5 (nn K) 9999 (up2 (up2 (adK K kd (nI r)) 3 (nn K) (qV B t (qE B t (qE B t (qE B t (qE B t i)))))) 4 (nn K) (qV B t (qE B t (qE B t (qE B t (qE B t (qE B t (qE B t i)))))))) (qE B t (qE B t (qE B t (qE B t (qE B t (qE B t (qE B t i))))))) = (some (up2 (up2 (up2 (adK K kd (nI r)) 3 (nn K) (qV B t (qE B t (qE B t (qE B t (qE B t i)))))) 4 (nn K) (qV B t (qE B t (qE B t (qE B t (qE B t (qE B t (qE B t i)))))))) 5 (nn K) 100), qE B t (qE B t (qE B t (qE B t (qE B t (qE B t (qE B t i))))))) := dt_u hc43 (by rw [up2_up, if_neg (by omega)]; rw [up2_up, if_neg (by omega)]; exact ad_n.2.2.1)
                                          have ed4 : dtR B t 16 6 (nn K) (nI (nn K) - 1) (up2 (up2 (up2 (adK K kd (nI r)) 3 (nn K) (qV B t (qE B t (qE B t (qE B t (qE B t i)))))) 4 (nn K) (qV B t (qE B t (qE B t (qE B t (qE B t (qE B t (qE B t i)))))))) 5 (nn K) 100) (qE B t (qE B t (qE B t (qE B t (qE B t (qE B t (qE B t i))))))) = (some (up2 (up2 (up2 (up2 (adK K kd (nI r)) 3 (nn K) (qV B t (qE B t (qE B t (qE B t (qE B t i)))))) 4 (nn K) (qV B t (qE B t (qE B t (qE B t (qE B t (qE B t (qE B t i)))))))) 5 (nn K) 100) 6 (nn K) (qV B t (qE B t (qE B t (qE B t (qE B t (qE B t (qE B t (qE B t (qE B t i)))))))))), qE B t (qE B t (qE B t (qE B t (qE B t (qE B t (qE B t (qE B t (qE B t i))))))))) := dt_t hc75 hc77
                                          exact gx_vret C hr hlk (MTR.yes1 Fm.rf hP (((((F1.rf.tr hF79).up).up).up).up) hM86 (by unfold psR; rw [if_pos ⟨hk0, by omega⟩]; unfold ps1; rw [if_pos hc7]; unfold ps2; rw [er, cr, if_pos ⟨hc35, hS⟩]; unfold psD; simp only [ed1, ed2, ed3, ed4, bdR_s, bdR_n])) dX4_personItem_239
                                        ·
                                          exact absurd h78 (by decide)
                                      ·
                                        obtain ⟨er77, wa77, wb77⟩ := w77
                                        obtain rfl := wb77 hc77
                                        refine gx_st (st' := [.int (qV B t (qE B t (qE B t (qE B t (qE B t (qE B t (qE B t (qE B t (qE B t i)))))))))]) (by rw [er77]) ?_
                                        refine gx_goto (tgt := 186) C dX4_personItem_182 (by decide) ?_
                                        refine gx_istore (lv2 := [(6, .int (qV B t (qE B t (qE B t (qE B t (qE B t (qE B t (qE B t (qE B t (qE B t i)))))))))), (5, .int 100), (4, .int (qV B t (qE B t (qE B t (qE B t (qE B t (qE B t (qE B t i)))))))), (3, .int (qV B t (qE B t (qE B t (qE B t (qE B t i)))))), (2, .int (nI r)), (0, .ref (eA E 49)), (1, .int kd)]) C dX4_personItem_186 (by decide) rfl ?_
                                        refine gx_aload_n C dX4_personItem_188 (by rfl) (by rfl) ?_
                                        refine gx_geti (k := 12) C ck4 (by rfl) (by rfl) (by decide) fl_X4_218 dX4_personItem_189 ?_
                                        refine gx_st (st' := [.int 1]) (by rw [mq_12]) ?_
                                        refine gx_if_eq (tgt := 196) C dX4_personItem_192 (by decide) (fun h88 => ?_) (fun h88 => ?_)
                                        ·
                                          exact absurd h88 (by decide)
                                        ·
                                          clear h88
                                          have ed1 : dtR B t 13 3 (nn K) 99 (adK K kd (nI r)) (qE B t (qE B t (qE B t i))) = (some (up2 (adK K kd (nI r)) 3 (nn K) (qV B t (qE B t (qE B t (qE B t (qE B t i)))))), qE B t (qE B t (qE B t (qE B t (qE B t i))))) := dt_t hc36 hc39
                                          have ed2 : dtR B t 14 4 (nn K) 3 (up2 (adK K kd (nI r)) 3 (nn K) (qV B t (qE B t (qE B t (qE B t (qE B t i)))))) (qE B t (qE B t (qE B t (qE B t (qE B t i))))) = (some (up2 (up2 (adK K kd (nI r)) 3 (nn K) (qV B t (qE B t (qE B t (qE B t (qE B t i)))))) 4 (nn K) (qV B t (qE B t (qE B t (qE B t (qE B t (qE B t (qE B t i)))))))), qE B t (qE B t (qE B t (qE B t (qE B t (qE B t (qE B t i))))))) := dt_t hc40 hc42
                                          have ed3 : dtR B t 15 5 (nn K) 9999 (up2 (up2 (adK K kd (nI r)) 3 (nn K) (qV B t (qE B t (qE B t (qE B t (qE B t i)))))) 4 (nn K) (qV B t (qE B t (qE B t (qE B t (qE B t (qE B t (qE B t i)))))))) (qE B t (qE B t (qE B t (qE B t (qE B t (qE B t (qE B t i))))))) = (some (up2 (up2 (up2 (adK K kd (nI r)) 3 (nn K) (qV B t (qE B t (qE B t (qE B t (qE B t i)))))) 4 (nn K) (qV B t (qE B t (qE B t (qE B t (qE B t (qE B t (qE B t i)))))))) 5 (nn K) 100), qE B t (qE B t (qE B t (qE B t (qE B t (qE B t (qE B t i))))))) := dt_u hc43 (by rw [up2_up, if_neg (by omega)]; rw [up2_up, if_neg (by omega)]; exact ad_n.2.2.1)
                                          have ed4 : dtR B t 16 6 (nn K) (nI (nn K) - 1) (up2 (up2 (up2 (adK K kd (nI r)) 3 (nn K) (qV B t (qE B t (qE B t (qE B t (qE B t i)))))) 4 (nn K) (qV B t (qE B t (qE B t (qE B t (qE B t (qE B t (qE B t i)))))))) 5 (nn K) 100) (qE B t (qE B t (qE B t (qE B t (qE B t (qE B t (qE B t i))))))) = (none, qE B t (qE B t (qE B t (qE B t (qE B t (qE B t (qE B t (qE B t i)))))))) := dt_b hc75 hc77
                                          exact gx_vret C hr hlk (MTR.no Fm.rf hP (by unfold psR; rw [if_pos ⟨hk0, by omega⟩]; unfold ps1; rw [if_pos hc7]; unfold ps2; rw [er, cr, if_pos ⟨hc35, hS⟩]; unfold psD; simp only [ed1, ed2, ed3, ed4, bdR_s, bdR_n])) dX4_personItem_195
                                  ·
                                    obtain ⟨rfl, rfl⟩ := w75.2 hc75
                                    refine gx_if_eq (tgt := 185) C dX4_personItem_164 (by decide) (fun h89 => ?_) (fun h89 => ?_)
                                    ·
                                      clear h89
                                      refine gx_iconst (v := (-1)) C dX4_personItem_185 (by decide) ?_
                                      refine gx_istore (lv2 := [(6, .int (-1)), (5, .int 100), (4, .int (qV B t (qE B t (qE B t (qE B t (qE B t (qE B t (qE B t i)))))))), (3, .int (qV B t (qE B t (qE B t (qE B t (qE B t i)))))), (2, .int (nI r)), (0, .ref (eA E 49)), (1, .int kd)]) C dX4_personItem_186 (by decide) rfl ?_
                                      refine gx_aload_n C dX4_personItem_188 (by rfl) (by rfl) ?_
                                      refine gx_geti (k := 12) C ck4 (by rfl) (by rfl) (by decide) fl_X4_218 dX4_personItem_189 ?_
                                      refine gx_st (st' := [.int 0]) (by rw [mq_12]) ?_
                                      refine gx_if_eq (tgt := 196) C dX4_personItem_192 (by decide) (fun h90 => ?_) (fun h90 => ?_)
                                      ·
                                        clear h90
                                        refine gx_aload_n C dX4_personItem_196 (by rfl) (by rfl) ?_
                                        refine gx_iload_n C dX4_personItem_197 (by rfl) (by rfl) ?_
                                        refine gx_iload_n C dX4_personItem_198 (by rfl) (by rfl) ?_
                                        refine gx_callVI (As := [.int kd, .int (nI r)]) (rest := []) C (c_X4_comes E (mq σ B t (qE B t (qE B t (qE B t (qE B t (qE B t (qE B t (qE B t i))))))) 0) K (vM_mq.trans hM : vM (mq σ B t (qE B t (qE B t (qE B t (qE B t (qE B t (qE B t (qE B t i))))))) 0) 50 = K) hO kd (nI r) (by omega)) z_X4_comes ck4 (by rfl) (by rfl) ml_X4_98 (by rfl) (Nat.le_of_ble_eq_true rfl) ⟨Nat.le_of_ble_eq_true rfl, Nat.le_of_ble_eq_true rfl⟩ dX4_personItem_199 (fun r91 σ91 w91 => ?_)
                                        obtain ⟨er91, hM91, hF91⟩ := w91
                                        refine gx_st (st' := [.int (nI (nn K))]) (by rw [er91]) ?_
                                        refine gx_istore (lv2 := [(7, .int (nI (nn K))), (6, .int (-1)), (5, .int 100), (4, .int (qV B t (qE B t (qE B t (qE B t (qE B t (qE B t (qE B t i)))))))), (3, .int (qV B t (qE B t (qE B t (qE B t (qE B t i)))))), (2, .int (nI r)), (0, .ref (eA E 49)), (1, .int kd)]) C dX4_personItem_202 (by decide) rfl ?_
                                        refine gx_aload_n C dX4_personItem_204 (by rfl) (by rfl) ?_
                                        refine gx_iload C dX4_personItem_205 (by rfl) ?_
                                        refine gx_iconst (v := 2) C dX4_personItem_207 (by decide) ?_
                                        refine gx_iload_n C dX4_personItem_208 (by rfl) (by rfl) ?_
                                        refine gx_callVV (As := [.int (nI (nn K)), .int 2, .int (qV B t (qE B t (qE B t (qE B t (qE B t i)))))]) (rest := []) C (c_X4_makes E σ91 (nn K) (by omega) 2 (by omega) (qV B t (qE B t (qE B t (qE B t (qE B t i)))))) z_X4_makes ck4 (by rfl) (by rfl) ml_X4_87 (by rfl) (Nat.le_of_ble_eq_true rfl) ⟨Nat.le_of_ble_eq_true rfl, Nat.le_of_ble_eq_true rfl⟩ dX4_personItem_209 (fun σ93 w93 => ?_)
                                        rw [w93]; clear w93
                                        have hM92 : vM (up2 σ91 50 (15 + 7 * (nn K) + 2) (qV B t (qE B t (qE B t (qE B t (qE B t i)))))) 50 = up2 (adK K kd (nI r)) 3 (nn K) (qV B t (qE B t (qE B t (qE B t (qE B t i))))) := by rw [vM_mk (by omega) (by omega), hM91]
                                        refine gx_aload_n C dX4_personItem_212 (by rfl) (by rfl) ?_
                                        refine gx_iload C dX4_personItem_213 (by rfl) ?_
                                        refine gx_iconst (v := 3) C dX4_personItem_215 (by decide) ?_
                                        refine gx_iload C dX4_personItem_216 (by rfl) ?_
                                        refine gx_callVV (As := [.int (nI (nn K)), .int 3, .int (qV B t (qE B t (qE B t (qE B t (qE B t (qE B t (qE B t i)))))))]) (rest := []) C (c_X4_makes E (up2 σ91 50 (15 + 7 * (nn K) + 2) (qV B t (qE B t (qE B t (qE B t (qE B t i)))))) (nn K) (by omega) 3 (by omega) (qV B t (qE B t (qE B t (qE B t (qE B t (qE B t (qE B t i)))))))) z_X4_makes ck4 (by rfl) (by rfl) ml_X4_87 (by rfl) (Nat.le_of_ble_eq_true rfl) ⟨Nat.le_of_ble_eq_true rfl, Nat.le_of_ble_eq_true rfl⟩ dX4_personItem_218 (fun σ95 w95 => ?_)
                                        rw [w95]; clear w95
                                        have hM94 : vM (up2 (up2 σ91 50 (15 + 7 * (nn K) + 2) (qV B t (qE B t (qE B t (qE B t (qE B t i)))))) 50 (15 + 7 * (nn K) + 3) (qV B t (qE B t (qE B t (qE B t (qE B t (qE B t (qE B t i)))))))) 50 = up2 (up2 (adK K kd (nI r)) 3 (nn K) (qV B t (qE B t (qE B t (qE B t (qE B t i)))))) 4 (nn K) (qV B t (qE B t (qE B t (qE B t (qE B t (qE B t (qE B t i))))))) := by rw [vM_mk (by omega) (by omega), hM92]
                                        refine gx_aload_n C dX4_personItem_221 (by rfl) (by rfl) ?_
                                        refine gx_iload C dX4_personItem_222 (by rfl) ?_
                                        refine gx_iconst (v := 4) C dX4_personItem_224 (by decide) ?_
                                        refine gx_iload C dX4_personItem_225 (by rfl) ?_
                                        refine gx_callVV (As := [.int (nI (nn K)), .int 4, .int 100]) (rest := []) C (c_X4_makes E (up2 (up2 σ91 50 (15 + 7 * (nn K) + 2) (qV B t (qE B t (qE B t (qE B t (qE B t i)))))) 50 (15 + 7 * (nn K) + 3) (qV B t (qE B t (qE B t (qE B t (qE B t (qE B t (qE B t i)))))))) (nn K) (by omega) 4 (by omega) 100) z_X4_makes ck4 (by rfl) (by rfl) ml_X4_87 (by rfl) (Nat.le_of_ble_eq_true rfl) ⟨Nat.le_of_ble_eq_true rfl, Nat.le_of_ble_eq_true rfl⟩ dX4_personItem_227 (fun σ97 w97 => ?_)
                                        rw [w97]; clear w97
                                        have hM96 : vM (up2 (up2 (up2 σ91 50 (15 + 7 * (nn K) + 2) (qV B t (qE B t (qE B t (qE B t (qE B t i)))))) 50 (15 + 7 * (nn K) + 3) (qV B t (qE B t (qE B t (qE B t (qE B t (qE B t (qE B t i)))))))) 50 (15 + 7 * (nn K) + 4) 100) 50 = up2 (up2 (up2 (adK K kd (nI r)) 3 (nn K) (qV B t (qE B t (qE B t (qE B t (qE B t i)))))) 4 (nn K) (qV B t (qE B t (qE B t (qE B t (qE B t (qE B t (qE B t i)))))))) 5 (nn K) 100 := by rw [vM_mk (by omega) (by omega), hM94]
                                        refine gx_aload_n C dX4_personItem_230 (by rfl) (by rfl) ?_
                                        refine gx_iload C dX4_personItem_231 (by rfl) ?_
                                        refine gx_iconst (v := 5) C dX4_personItem_233 (by decide) ?_
                                        refine gx_iload C dX4_personItem_234 (by rfl) ?_
                                        refine gx_callVV (As := [.int (nI (nn K)), .int 5, .int (-1)]) (rest := []) C (c_X4_makes E (up2 (up2 (up2 σ91 50 (15 + 7 * (nn K) + 2) (qV B t (qE B t (qE B t (qE B t (qE B t i)))))) 50 (15 + 7 * (nn K) + 3) (qV B t (qE B t (qE B t (qE B t (qE B t (qE B t (qE B t i)))))))) 50 (15 + 7 * (nn K) + 4) 100) (nn K) (by omega) 5 (by omega) (-1)) z_X4_makes ck4 (by rfl) (by rfl) ml_X4_87 (by rfl) (Nat.le_of_ble_eq_true rfl) ⟨Nat.le_of_ble_eq_true rfl, Nat.le_of_ble_eq_true rfl⟩ dX4_personItem_236 (fun σ99 w99 => ?_)
                                        rw [w99]; clear w99
                                        have hM98 : vM (up2 (up2 (up2 (up2 σ91 50 (15 + 7 * (nn K) + 2) (qV B t (qE B t (qE B t (qE B t (qE B t i)))))) 50 (15 + 7 * (nn K) + 3) (qV B t (qE B t (qE B t (qE B t (qE B t (qE B t (qE B t i)))))))) 50 (15 + 7 * (nn K) + 4) 100) 50 (15 + 7 * (nn K) + 5) (-1)) 50 = up2 (up2 (up2 (up2 (adK K kd (nI r)) 3 (nn K) (qV B t (qE B t (qE B t (qE B t (qE B t i)))))) 4 (nn K) (qV B t (qE B t (qE B t (qE B t (qE B t (qE B t (qE B t i)))))))) 5 (nn K) 100) 6 (nn K) (-1) := by rw [vM_mk (by omega) (by omega), hM96]
                                        have ed1 : dtR B t 13 3 (nn K) 99 (adK K kd (nI r)) (qE B t (qE B t (qE B t i))) = (some (up2 (adK K kd (nI r)) 3 (nn K) (qV B t (qE B t (qE B t (qE B t (qE B t i)))))), qE B t (qE B t (qE B t (qE B t (qE B t i))))) := dt_t hc36 hc39
                                        have ed2 : dtR B t 14 4 (nn K) 3 (up2 (adK K kd (nI r)) 3 (nn K) (qV B t (qE B t (qE B t (qE B t (qE B t i)))))) (qE B t (qE B t (qE B t (qE B t (qE B t i))))) = (some (up2 (up2 (adK K kd (nI r)) 3 (nn K) (qV B t (qE B t (qE B t (qE B t (qE B t i)))))) 4 (nn K) (qV B t (qE B t (qE B t (qE B t (qE B t (qE B t (qE B t i)))))))), qE B t (qE B t (qE B t (qE B t (qE B t (qE B t (qE B t i))))))) := dt_t hc40 hc42
                                        have ed3 : dtR B t 15 5 (nn K) 9999 (up2 (up2 (adK K kd (nI r)) 3 (nn K) (qV B t (qE B t (qE B t (qE B t (qE B t i)))))) 4 (nn K) (qV B t (qE B t (qE B t (qE B t (qE B t (qE B t (qE B t i)))))))) (qE B t (qE B t (qE B t (qE B t (qE B t (qE B t (qE B t i))))))) = (some (up2 (up2 (up2 (adK K kd (nI r)) 3 (nn K) (qV B t (qE B t (qE B t (qE B t (qE B t i)))))) 4 (nn K) (qV B t (qE B t (qE B t (qE B t (qE B t (qE B t (qE B t i)))))))) 5 (nn K) 100), qE B t (qE B t (qE B t (qE B t (qE B t (qE B t (qE B t i))))))) := dt_u hc43 (by rw [up2_up, if_neg (by omega)]; rw [up2_up, if_neg (by omega)]; exact ad_n.2.2.1)
                                        have ed4 : dtR B t 16 6 (nn K) (nI (nn K) - 1) (up2 (up2 (up2 (adK K kd (nI r)) 3 (nn K) (qV B t (qE B t (qE B t (qE B t (qE B t i)))))) 4 (nn K) (qV B t (qE B t (qE B t (qE B t (qE B t (qE B t (qE B t i)))))))) 5 (nn K) 100) (qE B t (qE B t (qE B t (qE B t (qE B t (qE B t (qE B t i))))))) = (some (up2 (up2 (up2 (up2 (adK K kd (nI r)) 3 (nn K) (qV B t (qE B t (qE B t (qE B t (qE B t i)))))) 4 (nn K) (qV B t (qE B t (qE B t (qE B t (qE B t (qE B t (qE B t i)))))))) 5 (nn K) 100) 6 (nn K) (-1)), qE B t (qE B t (qE B t (qE B t (qE B t (qE B t (qE B t i))))))) := dt_u hc75 (by rw [up2_up, if_neg (by omega)]; rw [up2_up, if_neg (by omega)]; rw [up2_up, if_neg (by omega)]; exact ad_n.2.2.2)
                                        exact gx_vret C hr hlk (MTR.yes1 Fm.rf hP (((((F1.rf.tr hF91).up).up).up).up) hM98 (by unfold psR; rw [if_pos ⟨hk0, by omega⟩]; unfold ps1; rw [if_pos hc7]; unfold ps2; rw [er, cr, if_pos ⟨hc35, hS⟩]; unfold psD; simp only [ed1, ed2, ed3, ed4, bdR_s, bdR_n])) dX4_personItem_239
                                      ·
                                        exact absurd h90 (by decide)
                                    ·
                                      exact absurd h89 (by decide)
                                ·
                                  exact absurd h74 (by decide)
                            ·
                              obtain ⟨er42, wa42, wb42⟩ := w42
                              obtain rfl := wb42 hc42
                              refine gx_st (st' := [.int (qV B t (qE B t (qE B t (qE B t (qE B t (qE B t (qE B t i)))))))]) (by rw [er42]) ?_
                              refine gx_goto (tgt := 129) C dX4_personItem_125 (by decide) ?_
                              refine gx_istore (lv2 := [(4, .int (qV B t (qE B t (qE B t (qE B t (qE B t (qE B t (qE B t i)))))))), (3, .int (qV B t (qE B t (qE B t (qE B t (qE B t i)))))), (2, .int (nI r)), (0, .ref (eA E 49)), (1, .int kd)]) C dX4_personItem_129 (by decide) rfl ?_
                              refine gx_aload_n C dX4_personItem_131 (by rfl) (by rfl) ?_
                              refine gx_ldcwS 32 C rfl dX4_personItem_132 ?_
                              refine gx_callVI (As := [.ref (eZ E (100 + 32))]) (rest := []) C (c_X4_takes_b E σ B t hP (qE B t (qE B t (qE B t (qE B t (qE B t (qE B t i)))))) (qE_le (B := B) (qE_le (B := B) (qE_le (B := B) (qE_le (B := B) (qE_le (B := B) (qE_le (B := B) hi)))))) 15 32 (by decide) rfl) z_X4_takes ck4 (by rfl) (by rfl) ml_X4_238 (by rfl) (Nat.le_of_ble_eq_true rfl) ⟨Nat.le_of_ble_eq_true rfl, Nat.le_of_ble_eq_true rfl⟩ dX4_personItem_135 (fun r100 σ100 w100 => ?_)
                              obtain ⟨u1, u2⟩ := w100; rw [u1, u2]; clear u1 u2
                              refine gx_if_eq (tgt := 153) C dX4_personItem_138 (by decide) (fun h101 => ?_) (fun h101 => ?_)
                              ·
                                clear h101
                                refine gx_bipush (v := 100) C dX4_personItem_153 (by decide) ?_
                                refine gx_istore (lv2 := [(5, .int 100), (4, .int (qV B t (qE B t (qE B t (qE B t (qE B t (qE B t (qE B t i)))))))), (3, .int (qV B t (qE B t (qE B t (qE B t (qE B t i)))))), (2, .int (nI r)), (0, .ref (eA E 49)), (1, .int kd)]) C dX4_personItem_155 (by decide) rfl ?_
                                refine gx_aload_n C dX4_personItem_157 (by rfl) (by rfl) ?_
                                refine gx_ldcwS 33 C rfl dX4_personItem_158 ?_
                                refine gx_callVI (As := [.ref (eZ E (100 + 33))]) (rest := []) C (c_X4_takes_b E σ B t hP (qE B t (qE B t (qE B t (qE B t (qE B t (qE B t i)))))) (qE_le (B := B) (qE_le (B := B) (qE_le (B := B) (qE_le (B := B) (qE_le (B := B) (qE_le (B := B) hi)))))) 16 33 (by decide) rfl) z_X4_takes ck4 (by rfl) (by rfl) ml_X4_238 (by rfl) (Nat.le_of_ble_eq_true rfl) ⟨Nat.le_of_ble_eq_true rfl, Nat.le_of_ble_eq_true rfl⟩ dX4_personItem_161 (fun r102 σ102 w102 => ?_)
                                obtain ⟨u1, u2⟩ := w102; rw [u1, u2]; clear u1 u2
                                refine gx_if_eq (tgt := 185) C dX4_personItem_164 (by decide) (fun h103 => ?_) (fun h103 => ?_)
                                ·
                                  clear h103
                                  refine gx_iconst (v := (-1)) C dX4_personItem_185 (by decide) ?_
                                  refine gx_istore (lv2 := [(6, .int (-1)), (5, .int 100), (4, .int (qV B t (qE B t (qE B t (qE B t (qE B t (qE B t (qE B t i)))))))), (3, .int (qV B t (qE B t (qE B t (qE B t (qE B t i)))))), (2, .int (nI r)), (0, .ref (eA E 49)), (1, .int kd)]) C dX4_personItem_186 (by decide) rfl ?_
                                  refine gx_aload_n C dX4_personItem_188 (by rfl) (by rfl) ?_
                                  refine gx_geti (k := 12) C ck4 (by rfl) (by rfl) (by decide) fl_X4_218 dX4_personItem_189 ?_
                                  refine gx_st (st' := [.int 1]) (by rw [mq_12]) ?_
                                  refine gx_if_eq (tgt := 196) C dX4_personItem_192 (by decide) (fun h104 => ?_) (fun h104 => ?_)
                                  ·
                                    exact absurd h104 (by decide)
                                  ·
                                    clear h104
                                    have ed1 : dtR B t 13 3 (nn K) 99 (adK K kd (nI r)) (qE B t (qE B t (qE B t i))) = (some (up2 (adK K kd (nI r)) 3 (nn K) (qV B t (qE B t (qE B t (qE B t (qE B t i)))))), qE B t (qE B t (qE B t (qE B t (qE B t i))))) := dt_t hc36 hc39
                                    have ed2 : dtR B t 14 4 (nn K) 3 (up2 (adK K kd (nI r)) 3 (nn K) (qV B t (qE B t (qE B t (qE B t (qE B t i)))))) (qE B t (qE B t (qE B t (qE B t (qE B t i))))) = (none, qE B t (qE B t (qE B t (qE B t (qE B t (qE B t i)))))) := dt_b hc40 hc42
                                    exact gx_vret C hr hlk (MTR.no Fm.rf hP (by unfold psR; rw [if_pos ⟨hk0, by omega⟩]; unfold ps1; rw [if_pos hc7]; unfold ps2; rw [er, cr, if_pos ⟨hc35, hS⟩]; unfold psD; simp only [ed1, ed2, bdR_s, bdR_n])) dX4_personItem_195
                                ·
                                  exact absurd h103 (by decide)
                              ·
                                exact absurd h101 (by decide)
                        ·
                          obtain ⟨rfl, rfl⟩ := w40.2 hc40
                          refine gx_if_eq (tgt := 128) C dX4_personItem_115 (by decide) (fun h105 => ?_) (fun h105 => ?_)
                          ·
                            clear h105
                            refine gx_iconst (v := 0) C dX4_personItem_128 (by decide) ?_
                            refine gx_istore (lv2 := [(4, .int 0), (3, .int (qV B t (qE B t (qE B t (qE B t (qE B t i)))))), (2, .int (nI r)), (0, .ref (eA E 49)), (1, .int kd)]) C dX4_personItem_129 (by decide) rfl ?_
                            refine gx_aload_n C dX4_personItem_131 (by rfl) (by rfl) ?_
                            refine gx_ldcwS 32 C rfl dX4_personItem_132 ?_
                            refine gx_callVI (As := [.ref (eZ E (100 + 32))]) (rest := []) C (c_X4_takes E σ B t hP (qE B t (qE B t (qE B t (qE B t (qE B t i))))) (qE_le (B := B) (qE_le (B := B) (qE_le (B := B) (qE_le (B := B) (qE_le (B := B) hi))))) 15 32 (by decide) rfl) z_X4_takes ck4 (by rfl) (by rfl) ml_X4_238 (by rfl) (Nat.le_of_ble_eq_true rfl) ⟨Nat.le_of_ble_eq_true rfl, Nat.le_of_ble_eq_true rfl⟩ dX4_personItem_135 (fun r106 σ106 w106 => ?_)
                            by_cases hc106 : qW B t (qE B t (qE B t (qE B t (qE B t (qE B t i))))) 15 = true
                            ·
                              obtain ⟨rfl, rfl⟩ := w106.1 hc106
                              refine gx_if_eq (tgt := 153) C dX4_personItem_138 (by decide) (fun h107 => ?_) (fun h107 => ?_)
                              ·
                                exact absurd h107 (by decide)
                              ·
                                clear h107
                                refine gx_aload_n C dX4_personItem_141 (by rfl) (by rfl) ?_
                                refine gx_iconst (v := 0) C dX4_personItem_142 (by decide) ?_
                                refine gx_sipush (v := 9999) C dX4_personItem_143 (by decide) ?_
                                refine gx_iconst (v := 1) C dX4_personItem_146 (by decide) ?_
                                refine gx_callVI (As := [.int 0, .int 9999, .int 1]) (rest := []) C (c_X4_number E σ B t hP (qE B t (qE B t (qE B t (qE B t (qE B t (qE B t i)))))) (qE_le (B := B) (qE_le (B := B) (qE_le (B := B) (qE_le (B := B) (qE_le (B := B) (qE_le (B := B) hi)))))) 0 9999) z_X4_number ck4 (by rfl) (by rfl) ml_X4_260 (by rfl) (Nat.le_of_ble_eq_true rfl) ⟨Nat.le_of_ble_eq_true rfl, Nat.le_of_ble_eq_true rfl⟩ dX4_personItem_147 (fun r108 σ108 w108 => ?_)
                                by_cases hc108 : qN B t (qE B t (qE B t (qE B t (qE B t (qE B t (qE B t i)))))) 0 9999 = true
                                ·
                                  obtain ⟨er108, wa108, wb108⟩ := w108
                                  obtain rfl := wa108 hc108
                                  refine gx_st (st' := [.int (qV B t (qE B t (qE B t (qE B t (qE B t (qE B t (qE B t i)))))))]) (by rw [er108]) ?_
                                  refine gx_goto (tgt := 155) C dX4_personItem_150 (by decide) ?_
                                  refine gx_istore (lv2 := [(5, .int (qV B t (qE B t (qE B t (qE B t (qE B t (qE B t (qE B t i)))))))), (4, .int 0), (3, .int (qV B t (qE B t (qE B t (qE B t (qE B t i)))))), (2, .int (nI r)), (0, .ref (eA E 49)), (1, .int kd)]) C dX4_personItem_155 (by decide) rfl ?_
                                  refine gx_aload_n C dX4_personItem_157 (by rfl) (by rfl) ?_
                                  refine gx_ldcwS 33 C rfl dX4_personItem_158 ?_
                                  refine gx_callVI (As := [.ref (eZ E (100 + 33))]) (rest := []) C (c_X4_takes E σ B t hP (qE B t (qE B t (qE B t (qE B t (qE B t (qE B t (qE B t i))))))) (qE_le (B := B) (qE_le (B := B) (qE_le (B := B) (qE_le (B := B) (qE_le (B := B) (qE_le (B := B) (qE_le (B := B) hi))))))) 16 33 (by decide) rfl) z_X4_takes ck4 (by rfl) (by rfl) ml_X4_238 (by rfl) (Nat.le_of_ble_eq_true rfl) ⟨Nat.le_of_ble_eq_true rfl, Nat.le_of_ble_eq_true rfl⟩ dX4_personItem_161 (fun r109 σ109 w109 => ?_)
                                  by_cases hc109 : qW B t (qE B t (qE B t (qE B t (qE B t (qE B t (qE B t (qE B t i))))))) 16 = true
                                  ·
                                    obtain ⟨rfl, rfl⟩ := w109.1 hc109
                                    refine gx_if_eq (tgt := 185) C dX4_personItem_164 (by decide) (fun h110 => ?_) (fun h110 => ?_)
                                    ·
                                      exact absurd h110 (by decide)
                                    ·
                                      clear h110
                                      refine gx_aload_n C dX4_personItem_167 (by rfl) (by rfl) ?_
                                      refine gx_iconst (v := 0) C dX4_personItem_168 (by decide) ?_
                                      refine gx_aload_n C dX4_personItem_169 (by rfl) (by rfl) ?_
                                      refine gx_getr (j := 50) (k := 0) C ck4 (by rfl) (by rfl) (by decide) fl_X4_9 dX4_personItem_170 ?_
                                      refine gx_bipush (v := 6) C dX4_personItem_173 (by decide) ?_
                                      refine gx_ialdN (k := 6) C (by rfl) (by rfl) (by decide) (by decide) dX4_personItem_175 ?_
                                      refine gx_st (st' := [.int (nI (nn K)), .int 0, .ref (eA E 49)]) (by rw [mp_n (vM_mq.trans hM : vM (mq σ B t (qE B t (qE B t (qE B t (qE B t (qE B t (qE B t (qE B t (qE B t i)))))))) 0) 50 = K), hO.1.1]) ?_
                                      refine gx_iconst (v := 1) C dX4_personItem_176 (by decide) ?_
                                      refine gx_isub C dX4_personItem_177 ?_
                                      refine gx_iconst (v := 1) C dX4_personItem_178 (by decide) ?_
                                      refine gx_callVI (As := [.int 0, .int ((nI (nn K)) - 1), .int 1]) (rest := []) C (c_X4_number E σ B t hP (qE B t (qE B t (qE B t (qE B t (qE B t (qE B t (qE B t (qE B t i)))))))) (qE_le (B := B) (qE_le (B := B) (qE_le (B := B) (qE_le (B := B) (qE_le (B := B) (qE_le (B := B) (qE_le (B := B) (qE_le (B := B) hi)))))))) 0 ((nI (nn K)) - 1)) z_X4_number ck4 (by rfl) (by rfl) ml_X4_260 (by rfl) (Nat.le_of_ble_eq_true rfl) ⟨Nat.le_of_ble_eq_true rfl, Nat.le_of_ble_eq_true rfl⟩ dX4_personItem_179 (fun r111 σ111 w111 => ?_)
                                      by_cases hc111 : qN B t (qE B t (qE B t (qE B t (qE B t (qE B t (qE B t (qE B t (qE B t i)))))))) 0 ((nI (nn K)) - 1) = true
                                      ·
                                        obtain ⟨er111, wa111, wb111⟩ := w111
                                        obtain rfl := wa111 hc111
                                        refine gx_st (st' := [.int (qV B t (qE B t (qE B t (qE B t (qE B t (qE B t (qE B t (qE B t (qE B t i)))))))))]) (by rw [er111]) ?_
                                        refine gx_goto (tgt := 186) C dX4_personItem_182 (by decide) ?_
                                        refine gx_istore (lv2 := [(6, .int (qV B t (qE B t (qE B t (qE B t (qE B t (qE B t (qE B t (qE B t (qE B t i)))))))))), (5, .int (qV B t (qE B t (qE B t (qE B t (qE B t (qE B t (qE B t i)))))))), (4, .int 0), (3, .int (qV B t (qE B t (qE B t (qE B t (qE B t i)))))), (2, .int (nI r)), (0, .ref (eA E 49)), (1, .int kd)]) C dX4_personItem_186 (by decide) rfl ?_
                                        refine gx_aload_n C dX4_personItem_188 (by rfl) (by rfl) ?_
                                        refine gx_geti (k := 12) C ck4 (by rfl) (by rfl) (by decide) fl_X4_218 dX4_personItem_189 ?_
                                        refine gx_st (st' := [.int 0]) (by rw [mq_12]) ?_
                                        refine gx_if_eq (tgt := 196) C dX4_personItem_192 (by decide) (fun h112 => ?_) (fun h112 => ?_)
                                        ·
                                          clear h112
                                          refine gx_aload_n C dX4_personItem_196 (by rfl) (by rfl) ?_
                                          refine gx_iload_n C dX4_personItem_197 (by rfl) (by rfl) ?_
                                          refine gx_iload_n C dX4_personItem_198 (by rfl) (by rfl) ?_
                                          refine gx_callVI (As := [.int kd, .int (nI r)]) (rest := []) C (c_X4_comes E (mq σ B t (qE B t (qE B t (qE B t (qE B t (qE B t (qE B t (qE B t (qE B t (qE B t i))))))))) 0) K (vM_mq.trans hM : vM (mq σ B t (qE B t (qE B t (qE B t (qE B t (qE B t (qE B t (qE B t (qE B t (qE B t i))))))))) 0) 50 = K) hO kd (nI r) (by omega)) z_X4_comes ck4 (by rfl) (by rfl) ml_X4_98 (by rfl) (Nat.le_of_ble_eq_true rfl) ⟨Nat.le_of_ble_eq_true rfl, Nat.le_of_ble_eq_true rfl⟩ dX4_personItem_199 (fun r113 σ113 w113 => ?_)
                                          obtain ⟨er113, hM113, hF113⟩ := w113
                                          refine gx_st (st' := [.int (nI (nn K))]) (by rw [er113]) ?_
                                          refine gx_istore (lv2 := [(7, .int (nI (nn K))), (6, .int (qV B t (qE B t (qE B t (qE B t (qE B t (qE B t (qE B t (qE B t (qE B t i)))))))))), (5, .int (qV B t (qE B t (qE B t (qE B t (qE B t (qE B t (qE B t i)))))))), (4, .int 0), (3, .int (qV B t (qE B t (qE B t (qE B t (qE B t i)))))), (2, .int (nI r)), (0, .ref (eA E 49)), (1, .int kd)]) C dX4_personItem_202 (by decide) rfl ?_
                                          refine gx_aload_n C dX4_personItem_204 (by rfl) (by rfl) ?_
                                          refine gx_iload C dX4_personItem_205 (by rfl) ?_
                                          refine gx_iconst (v := 2) C dX4_personItem_207 (by decide) ?_
                                          refine gx_iload_n C dX4_personItem_208 (by rfl) (by rfl) ?_
                                          refine gx_callVV (As := [.int (nI (nn K)), .int 2, .int (qV B t (qE B t (qE B t (qE B t (qE B t i)))))]) (rest := []) C (c_X4_makes E σ113 (nn K) (by omega) 2 (by omega) (qV B t (qE B t (qE B t (qE B t (qE B t i)))))) z_X4_makes ck4 (by rfl) (by rfl) ml_X4_87 (by rfl) (Nat.le_of_ble_eq_true rfl) ⟨Nat.le_of_ble_eq_true rfl, Nat.le_of_ble_eq_true rfl⟩ dX4_personItem_209 (fun σ115 w115 => ?_)
                                          rw [w115]; clear w115
                                          have hM114 : vM (up2 σ113 50 (15 + 7 * (nn K) + 2) (qV B t (qE B t (qE B t (qE B t (qE B t i)))))) 50 = up2 (adK K kd (nI r)) 3 (nn K) (qV B t (qE B t (qE B t (qE B t (qE B t i))))) := by rw [vM_mk (by omega) (by omega), hM113]
                                          refine gx_aload_n C dX4_personItem_212 (by rfl) (by rfl) ?_
                                          refine gx_iload C dX4_personItem_213 (by rfl) ?_
                                          refine gx_iconst (v := 3) C dX4_personItem_215 (by decide) ?_
                                          refine gx_iload C dX4_personItem_216 (by rfl) ?_
                                          refine gx_callVV (As := [.int (nI (nn K)), .int 3, .int 0]) (rest := []) C (c_X4_makes E (up2 σ113 50 (15 + 7 * (nn K) + 2) (qV B t (qE B t (qE B t (qE B t (qE B t i)))))) (nn K) (by omega) 3 (by omega) 0) z_X4_makes ck4 (by rfl) (by rfl) ml_X4_87 (by rfl) (Nat.le_of_ble_eq_true rfl) ⟨Nat.le_of_ble_eq_true rfl, Nat.le_of_ble_eq_true rfl⟩ dX4_personItem_218 (fun σ117 w117 => ?_)
                                          rw [w117]; clear w117
                                          have hM116 : vM (up2 (up2 σ113 50 (15 + 7 * (nn K) + 2) (qV B t (qE B t (qE B t (qE B t (qE B t i)))))) 50 (15 + 7 * (nn K) + 3) 0) 50 = up2 (up2 (adK K kd (nI r)) 3 (nn K) (qV B t (qE B t (qE B t (qE B t (qE B t i)))))) 4 (nn K) 0 := by rw [vM_mk (by omega) (by omega), hM114]
                                          refine gx_aload_n C dX4_personItem_221 (by rfl) (by rfl) ?_
                                          refine gx_iload C dX4_personItem_222 (by rfl) ?_
                                          refine gx_iconst (v := 4) C dX4_personItem_224 (by decide) ?_
                                          refine gx_iload C dX4_personItem_225 (by rfl) ?_
                                          refine gx_callVV (As := [.int (nI (nn K)), .int 4, .int (qV B t (qE B t (qE B t (qE B t (qE B t (qE B t (qE B t i)))))))]) (rest := []) C (c_X4_makes E (up2 (up2 σ113 50 (15 + 7 * (nn K) + 2) (qV B t (qE B t (qE B t (qE B t (qE B t i)))))) 50 (15 + 7 * (nn K) + 3) 0) (nn K) (by omega) 4 (by omega) (qV B t (qE B t (qE B t (qE B t (qE B t (qE B t (qE B t i)))))))) z_X4_makes ck4 (by rfl) (by rfl) ml_X4_87 (by rfl) (Nat.le_of_ble_eq_true rfl) ⟨Nat.le_of_ble_eq_true rfl, Nat.le_of_ble_eq_true rfl⟩ dX4_personItem_227 (fun σ119 w119 => ?_)
                                          rw [w119]; clear w119
                                          have hM118 : vM (up2 (up2 (up2 σ113 50 (15 + 7 * (nn K) + 2) (qV B t (qE B t (qE B t (qE B t (qE B t i)))))) 50 (15 + 7 * (nn K) + 3) 0) 50 (15 + 7 * (nn K) + 4) (qV B t (qE B t (qE B t (qE B t (qE B t (qE B t (qE B t i)))))))) 50 = up2 (up2 (up2 (adK K kd (nI r)) 3 (nn K) (qV B t (qE B t (qE B t (qE B t (qE B t i)))))) 4 (nn K) 0) 5 (nn K) (qV B t (qE B t (qE B t (qE B t (qE B t (qE B t (qE B t i))))))) := by rw [vM_mk (by omega) (by omega), hM116]
                                          refine gx_aload_n C dX4_personItem_230 (by rfl) (by rfl) ?_
                                          refine gx_iload C dX4_personItem_231 (by rfl) ?_
                                          refine gx_iconst (v := 5) C dX4_personItem_233 (by decide) ?_
                                          refine gx_iload C dX4_personItem_234 (by rfl) ?_
                                          refine gx_callVV (As := [.int (nI (nn K)), .int 5, .int (qV B t (qE B t (qE B t (qE B t (qE B t (qE B t (qE B t (qE B t (qE B t i)))))))))]) (rest := []) C (c_X4_makes E (up2 (up2 (up2 σ113 50 (15 + 7 * (nn K) + 2) (qV B t (qE B t (qE B t (qE B t (qE B t i)))))) 50 (15 + 7 * (nn K) + 3) 0) 50 (15 + 7 * (nn K) + 4) (qV B t (qE B t (qE B t (qE B t (qE B t (qE B t (qE B t i)))))))) (nn K) (by omega) 5 (by omega) (qV B t (qE B t (qE B t (qE B t (qE B t (qE B t (qE B t (qE B t (qE B t i)))))))))) z_X4_makes ck4 (by rfl) (by rfl) ml_X4_87 (by rfl) (Nat.le_of_ble_eq_true rfl) ⟨Nat.le_of_ble_eq_true rfl, Nat.le_of_ble_eq_true rfl⟩ dX4_personItem_236 (fun σ121 w121 => ?_)
                                          rw [w121]; clear w121
                                          have hM120 : vM (up2 (up2 (up2 (up2 σ113 50 (15 + 7 * (nn K) + 2) (qV B t (qE B t (qE B t (qE B t (qE B t i)))))) 50 (15 + 7 * (nn K) + 3) 0) 50 (15 + 7 * (nn K) + 4) (qV B t (qE B t (qE B t (qE B t (qE B t (qE B t (qE B t i)))))))) 50 (15 + 7 * (nn K) + 5) (qV B t (qE B t (qE B t (qE B t (qE B t (qE B t (qE B t (qE B t (qE B t i)))))))))) 50 = up2 (up2 (up2 (up2 (adK K kd (nI r)) 3 (nn K) (qV B t (qE B t (qE B t (qE B t (qE B t i)))))) 4 (nn K) 0) 5 (nn K) (qV B t (qE B t (qE B t (qE B t (qE B t (qE B t (qE B t i)))))))) 6 (nn K) (qV B t (qE B t (qE B t (qE B t (qE B t (qE B t (qE B t (qE B t (qE B t i))))))))) := by rw [vM_mk (by omega) (by omega), hM118]
                                          have ed1 : dtR B t 13 3 (nn K) 99 (adK K kd (nI r)) (qE B t (qE B t (qE B t i))) = (some (up2 (adK K kd (nI r)) 3 (nn K) (qV B t (qE B t (qE B t (qE B t (qE B t i)))))), qE B t (qE B t (qE B t (qE B t (qE B t i))))) := dt_t hc36 hc39
                                          have ed2 : dtR B t 14 4 (nn K) 3 (up2 (adK K kd (nI r)) 3 (nn K) (qV B t (qE B t (qE B t (qE B t (qE B t i)))))) (qE B t (qE B t (qE B t (qE B t (qE B t i))))) = (some (up2 (up2 (adK K kd (nI r)) 3 (nn K) (qV B t (qE B t (qE B t (qE B t (qE B t i)))))) 4 (nn K) 0), qE B t (qE B t (qE B t (qE B t (qE B t i))))) := dt_u hc40 (by rw [up2_up, if_neg (by omega)]; exact ad_n.2.1)
                                          have ed3 : dtR B t 15 5 (nn K) 9999 (up2 (up2 (adK K kd (nI r)) 3 (nn K) (qV B t (qE B t (qE B t (qE B t (qE B t i)))))) 4 (nn K) 0) (qE B t (qE B t (qE B t (qE B t (qE B t i))))) = (some (up2 (up2 (up2 (adK K kd (nI r)) 3 (nn K) (qV B t (qE B t (qE B t (qE B t (qE B t i)))))) 4 (nn K) 0) 5 (nn K) (qV B t (qE B t (qE B t (qE B t (qE B t (qE B t (qE B t i)))))))), qE B t (qE B t (qE B t (qE B t (qE B t (qE B t (qE B t i))))))) := dt_t hc106 hc108
                                          have ed4 : dtR B t 16 6 (nn K) (nI (nn K) - 1) (up2 (up2 (up2 (adK K kd (nI r)) 3 (nn K) (qV B t (qE B t (qE B t (qE B t (qE B t i)))))) 4 (nn K) 0) 5 (nn K) (qV B t (qE B t (qE B t (qE B t (qE B t (qE B t (qE B t i)))))))) (qE B t (qE B t (qE B t (qE B t (qE B t (qE B t (qE B t i))))))) = (some (up2 (up2 (up2 (up2 (adK K kd (nI r)) 3 (nn K) (qV B t (qE B t (qE B t (qE B t (qE B t i)))))) 4 (nn K) 0) 5 (nn K) (qV B t (qE B t (qE B t (qE B t (qE B t (qE B t (qE B t i)))))))) 6 (nn K) (qV B t (qE B t (qE B t (qE B t (qE B t (qE B t (qE B t (qE B t (qE B t i)))))))))), qE B t (qE B t (qE B t (qE B t (qE B t (qE B t (qE B t (qE B t (qE B t i))))))))) := dt_t hc109 hc111
                                          exact gx_vret C hr hlk (MTR.yes1 Fm.rf hP (((((F1.rf.tr hF113).up).up).up).up) hM120 (by unfold psR; rw [if_pos ⟨hk0, by omega⟩]; unfold ps1; rw [if_pos hc7]; unfold ps2; rw [er, cr, if_pos ⟨hc35, hS⟩]; unfold psD; simp only [ed1, ed2, ed3, ed4, bdR_s, bdR_n])) dX4_personItem_239
                                        ·
                                          exact absurd h112 (by decide)
                                      ·
                                        obtain ⟨er111, wa111, wb111⟩ := w111
                                        obtain rfl := wb111 hc111
                                        refine gx_st (st' := [.int (qV B t (qE B t (qE B t (qE B t (qE B t (qE B t (qE B t (qE B t (qE B t i)))))))))]) (by rw [er111]) ?_
                                        refine gx_goto (tgt := 186) C dX4_personItem_182 (by decide) ?_
                                        refine gx_istore (lv2 := [(6, .int (qV B t (qE B t (qE B t (qE B t (qE B t (qE B t (qE B t (qE B t (qE B t i)))))))))), (5, .int (qV B t (qE B t (qE B t (qE B t (qE B t (qE B t (qE B t i)))))))), (4, .int 0), (3, .int (qV B t (qE B t (qE B t (qE B t (qE B t i)))))), (2, .int (nI r)), (0, .ref (eA E 49)), (1, .int kd)]) C dX4_personItem_186 (by decide) rfl ?_
                                        refine gx_aload_n C dX4_personItem_188 (by rfl) (by rfl) ?_
                                        refine gx_geti (k := 12) C ck4 (by rfl) (by rfl) (by decide) fl_X4_218 dX4_personItem_189 ?_
                                        refine gx_st (st' := [.int 1]) (by rw [mq_12]) ?_
                                        refine gx_if_eq (tgt := 196) C dX4_personItem_192 (by decide) (fun h122 => ?_) (fun h122 => ?_)
                                        ·
                                          exact absurd h122 (by decide)
                                        ·
                                          clear h122
                                          have ed1 : dtR B t 13 3 (nn K) 99 (adK K kd (nI r)) (qE B t (qE B t (qE B t i))) = (some (up2 (adK K kd (nI r)) 3 (nn K) (qV B t (qE B t (qE B t (qE B t (qE B t i)))))), qE B t (qE B t (qE B t (qE B t (qE B t i))))) := dt_t hc36 hc39
                                          have ed2 : dtR B t 14 4 (nn K) 3 (up2 (adK K kd (nI r)) 3 (nn K) (qV B t (qE B t (qE B t (qE B t (qE B t i)))))) (qE B t (qE B t (qE B t (qE B t (qE B t i))))) = (some (up2 (up2 (adK K kd (nI r)) 3 (nn K) (qV B t (qE B t (qE B t (qE B t (qE B t i)))))) 4 (nn K) 0), qE B t (qE B t (qE B t (qE B t (qE B t i))))) := dt_u hc40 (by rw [up2_up, if_neg (by omega)]; exact ad_n.2.1)
                                          have ed3 : dtR B t 15 5 (nn K) 9999 (up2 (up2 (adK K kd (nI r)) 3 (nn K) (qV B t (qE B t (qE B t (qE B t (qE B t i)))))) 4 (nn K) 0) (qE B t (qE B t (qE B t (qE B t (qE B t i))))) = (some (up2 (up2 (up2 (adK K kd (nI r)) 3 (nn K) (qV B t (qE B t (qE B t (qE B t (qE B t i)))))) 4 (nn K) 0) 5 (nn K) (qV B t (qE B t (qE B t (qE B t (qE B t (qE B t (qE B t i)))))))), qE B t (qE B t (qE B t (qE B t (qE B t (qE B t (qE B t i))))))) := dt_t hc106 hc108
                                          have ed4 : dtR B t 16 6 (nn K) (nI (nn K) - 1) (up2 (up2 (up2 (adK K kd (nI r)) 3 (nn K) (qV B t (qE B t (qE B t (qE B t (qE B t i)))))) 4 (nn K) 0) 5 (nn K) (qV B t (qE B t (qE B t (qE B t (qE B t (qE B t (qE B t i)))))))) (qE B t (qE B t (qE B t (qE B t (qE B t (qE B t (qE B t i))))))) = (none, qE B t (qE B t (qE B t (qE B t (qE B t (qE B t (qE B t (qE B t i)))))))) := dt_b hc109 hc111
                                          exact gx_vret C hr hlk (MTR.no Fm.rf hP (by unfold psR; rw [if_pos ⟨hk0, by omega⟩]; unfold ps1; rw [if_pos hc7]; unfold ps2; rw [er, cr, if_pos ⟨hc35, hS⟩]; unfold psD; simp only [ed1, ed2, ed3, ed4, bdR_s, bdR_n])) dX4_personItem_195
                                  ·
                                    obtain ⟨rfl, rfl⟩ := w109.2 hc109
                                    refine gx_if_eq (tgt := 185) C dX4_personItem_164 (by decide) (fun h123 => ?_) (fun h123 => ?_)
                                    ·
                                      clear h123
                                      refine gx_iconst (v := (-1)) C dX4_personItem_185 (by decide) ?_
                                      refine gx_istore (lv2 := [(6, .int (-1)), (5, .int (qV B t (qE B t (qE B t (qE B t (qE B t (qE B t (qE B t i)))))))), (4, .int 0), (3, .int (qV B t (qE B t (qE B t (qE B t (qE B t i)))))), (2, .int (nI r)), (0, .ref (eA E 49)), (1, .int kd)]) C dX4_personItem_186 (by decide) rfl ?_
                                      refine gx_aload_n C dX4_personItem_188 (by rfl) (by rfl) ?_
                                      refine gx_geti (k := 12) C ck4 (by rfl) (by rfl) (by decide) fl_X4_218 dX4_personItem_189 ?_
                                      refine gx_st (st' := [.int 0]) (by rw [mq_12]) ?_
                                      refine gx_if_eq (tgt := 196) C dX4_personItem_192 (by decide) (fun h124 => ?_) (fun h124 => ?_)
                                      ·
                                        clear h124
                                        refine gx_aload_n C dX4_personItem_196 (by rfl) (by rfl) ?_
                                        refine gx_iload_n C dX4_personItem_197 (by rfl) (by rfl) ?_
                                        refine gx_iload_n C dX4_personItem_198 (by rfl) (by rfl) ?_
                                        refine gx_callVI (As := [.int kd, .int (nI r)]) (rest := []) C (c_X4_comes E (mq σ B t (qE B t (qE B t (qE B t (qE B t (qE B t (qE B t (qE B t i))))))) 0) K (vM_mq.trans hM : vM (mq σ B t (qE B t (qE B t (qE B t (qE B t (qE B t (qE B t (qE B t i))))))) 0) 50 = K) hO kd (nI r) (by omega)) z_X4_comes ck4 (by rfl) (by rfl) ml_X4_98 (by rfl) (Nat.le_of_ble_eq_true rfl) ⟨Nat.le_of_ble_eq_true rfl, Nat.le_of_ble_eq_true rfl⟩ dX4_personItem_199 (fun r125 σ125 w125 => ?_)
                                        obtain ⟨er125, hM125, hF125⟩ := w125
                                        refine gx_st (st' := [.int (nI (nn K))]) (by rw [er125]) ?_
                                        refine gx_istore (lv2 := [(7, .int (nI (nn K))), (6, .int (-1)), (5, .int (qV B t (qE B t (qE B t (qE B t (qE B t (qE B t (qE B t i)))))))), (4, .int 0), (3, .int (qV B t (qE B t (qE B t (qE B t (qE B t i)))))), (2, .int (nI r)), (0, .ref (eA E 49)), (1, .int kd)]) C dX4_personItem_202 (by decide) rfl ?_
                                        refine gx_aload_n C dX4_personItem_204 (by rfl) (by rfl) ?_
                                        refine gx_iload C dX4_personItem_205 (by rfl) ?_
                                        refine gx_iconst (v := 2) C dX4_personItem_207 (by decide) ?_
                                        refine gx_iload_n C dX4_personItem_208 (by rfl) (by rfl) ?_
                                        refine gx_callVV (As := [.int (nI (nn K)), .int 2, .int (qV B t (qE B t (qE B t (qE B t (qE B t i)))))]) (rest := []) C (c_X4_makes E σ125 (nn K) (by omega) 2 (by omega) (qV B t (qE B t (qE B t (qE B t (qE B t i)))))) z_X4_makes ck4 (by rfl) (by rfl) ml_X4_87 (by rfl) (Nat.le_of_ble_eq_true rfl) ⟨Nat.le_of_ble_eq_true rfl, Nat.le_of_ble_eq_true rfl⟩ dX4_personItem_209 (fun σ127 w127 => ?_)
                                        rw [w127]; clear w127
                                        have hM126 : vM (up2 σ125 50 (15 + 7 * (nn K) + 2) (qV B t (qE B t (qE B t (qE B t (qE B t i)))))) 50 = up2 (adK K kd (nI r)) 3 (nn K) (qV B t (qE B t (qE B t (qE B t (qE B t i))))) := by rw [vM_mk (by omega) (by omega), hM125]
                                        refine gx_aload_n C dX4_personItem_212 (by rfl) (by rfl) ?_
                                        refine gx_iload C dX4_personItem_213 (by rfl) ?_
                                        refine gx_iconst (v := 3) C dX4_personItem_215 (by decide) ?_
                                        refine gx_iload C dX4_personItem_216 (by rfl) ?_
                                        refine gx_callVV (As := [.int (nI (nn K)), .int 3, .int 0]) (rest := []) C (c_X4_makes E (up2 σ125 50 (15 + 7 * (nn K) + 2) (qV B t (qE B t (qE B t (qE B t (qE B t i)))))) (nn K) (by omega) 3 (by omega) 0) z_X4_makes ck4 (by rfl) (by rfl) ml_X4_87 (by rfl) (Nat.le_of_ble_eq_true rfl) ⟨Nat.le_of_ble_eq_true rfl, Nat.le_of_ble_eq_true rfl⟩ dX4_personItem_218 (fun σ129 w129 => ?_)
                                        rw [w129]; clear w129
                                        have hM128 : vM (up2 (up2 σ125 50 (15 + 7 * (nn K) + 2) (qV B t (qE B t (qE B t (qE B t (qE B t i)))))) 50 (15 + 7 * (nn K) + 3) 0) 50 = up2 (up2 (adK K kd (nI r)) 3 (nn K) (qV B t (qE B t (qE B t (qE B t (qE B t i)))))) 4 (nn K) 0 := by rw [vM_mk (by omega) (by omega), hM126]
                                        refine gx_aload_n C dX4_personItem_221 (by rfl) (by rfl) ?_
                                        refine gx_iload C dX4_personItem_222 (by rfl) ?_
                                        refine gx_iconst (v := 4) C dX4_personItem_224 (by decide) ?_
                                        refine gx_iload C dX4_personItem_225 (by rfl) ?_
                                        refine gx_callVV (As := [.int (nI (nn K)), .int 4, .int (qV B t (qE B t (qE B t (qE B t (qE B t (qE B t (qE B t i)))))))]) (rest := []) C (c_X4_makes E (up2 (up2 σ125 50 (15 + 7 * (nn K) + 2) (qV B t (qE B t (qE B t (qE B t (qE B t i)))))) 50 (15 + 7 * (nn K) + 3) 0) (nn K) (by omega) 4 (by omega) (qV B t (qE B t (qE B t (qE B t (qE B t (qE B t (qE B t i)))))))) z_X4_makes ck4 (by rfl) (by rfl) ml_X4_87 (by rfl) (Nat.le_of_ble_eq_true rfl) ⟨Nat.le_of_ble_eq_true rfl, Nat.le_of_ble_eq_true rfl⟩ dX4_personItem_227 (fun σ131 w131 => ?_)
                                        rw [w131]; clear w131
                                        have hM130 : vM (up2 (up2 (up2 σ125 50 (15 + 7 * (nn K) + 2) (qV B t (qE B t (qE B t (qE B t (qE B t i)))))) 50 (15 + 7 * (nn K) + 3) 0) 50 (15 + 7 * (nn K) + 4) (qV B t (qE B t (qE B t (qE B t (qE B t (qE B t (qE B t i)))))))) 50 = up2 (up2 (up2 (adK K kd (nI r)) 3 (nn K) (qV B t (qE B t (qE B t (qE B t (qE B t i)))))) 4 (nn K) 0) 5 (nn K) (qV B t (qE B t (qE B t (qE B t (qE B t (qE B t (qE B t i))))))) := by rw [vM_mk (by omega) (by omega), hM128]
                                        refine gx_aload_n C dX4_personItem_230 (by rfl) (by rfl) ?_
                                        refine gx_iload C dX4_personItem_231 (by rfl) ?_
                                        refine gx_iconst (v := 5) C dX4_personItem_233 (by decide) ?_
                                        refine gx_iload C dX4_personItem_234 (by rfl) ?_
                                        refine gx_callVV (As := [.int (nI (nn K)), .int 5, .int (-1)]) (rest := []) C (c_X4_makes E (up2 (up2 (up2 σ125 50 (15 + 7 * (nn K) + 2) (qV B t (qE B t (qE B t (qE B t (qE B t i)))))) 50 (15 + 7 * (nn K) + 3) 0) 50 (15 + 7 * (nn K) + 4) (qV B t (qE B t (qE B t (qE B t (qE B t (qE B t (qE B t i)))))))) (nn K) (by omega) 5 (by omega) (-1)) z_X4_makes ck4 (by rfl) (by rfl) ml_X4_87 (by rfl) (Nat.le_of_ble_eq_true rfl) ⟨Nat.le_of_ble_eq_true rfl, Nat.le_of_ble_eq_true rfl⟩ dX4_personItem_236 (fun σ133 w133 => ?_)
                                        rw [w133]; clear w133
                                        have hM132 : vM (up2 (up2 (up2 (up2 σ125 50 (15 + 7 * (nn K) + 2) (qV B t (qE B t (qE B t (qE B t (qE B t i)))))) 50 (15 + 7 * (nn K) + 3) 0) 50 (15 + 7 * (nn K) + 4) (qV B t (qE B t (qE B t (qE B t (qE B t (qE B t (qE B t i)))))))) 50 (15 + 7 * (nn K) + 5) (-1)) 50 = up2 (up2 (up2 (up2 (adK K kd (nI r)) 3 (nn K) (qV B t (qE B t (qE B t (qE B t (qE B t i)))))) 4 (nn K) 0) 5 (nn K) (qV B t (qE B t (qE B t (qE B t (qE B t (qE B t (qE B t i)))))))) 6 (nn K) (-1) := by rw [vM_mk (by omega) (by omega), hM130]
                                        have ed1 : dtR B t 13 3 (nn K) 99 (adK K kd (nI r)) (qE B t (qE B t (qE B t i))) = (some (up2 (adK K kd (nI r)) 3 (nn K) (qV B t (qE B t (qE B t (qE B t (qE B t i)))))), qE B t (qE B t (qE B t (qE B t (qE B t i))))) := dt_t hc36 hc39
                                        have ed2 : dtR B t 14 4 (nn K) 3 (up2 (adK K kd (nI r)) 3 (nn K) (qV B t (qE B t (qE B t (qE B t (qE B t i)))))) (qE B t (qE B t (qE B t (qE B t (qE B t i))))) = (some (up2 (up2 (adK K kd (nI r)) 3 (nn K) (qV B t (qE B t (qE B t (qE B t (qE B t i)))))) 4 (nn K) 0), qE B t (qE B t (qE B t (qE B t (qE B t i))))) := dt_u hc40 (by rw [up2_up, if_neg (by omega)]; exact ad_n.2.1)
                                        have ed3 : dtR B t 15 5 (nn K) 9999 (up2 (up2 (adK K kd (nI r)) 3 (nn K) (qV B t (qE B t (qE B t (qE B t (qE B t i)))))) 4 (nn K) 0) (qE B t (qE B t (qE B t (qE B t (qE B t i))))) = (some (up2 (up2 (up2 (adK K kd (nI r)) 3 (nn K) (qV B t (qE B t (qE B t (qE B t (qE B t i)))))) 4 (nn K) 0) 5 (nn K) (qV B t (qE B t (qE B t (qE B t (qE B t (qE B t (qE B t i)))))))), qE B t (qE B t (qE B t (qE B t (qE B t (qE B t (qE B t i))))))) := dt_t hc106 hc108
                                        have ed4 : dtR B t 16 6 (nn K) (nI (nn K) - 1) (up2 (up2 (up2 (adK K kd (nI r)) 3 (nn K) (qV B t (qE B t (qE B t (qE B t (qE B t i)))))) 4 (nn K) 0) 5 (nn K) (qV B t (qE B t (qE B t (qE B t (qE B t (qE B t (qE B t i)))))))) (qE B t (qE B t (qE B t (qE B t (qE B t (qE B t (qE B t i))))))) = (some (up2 (up2 (up2 (up2 (adK K kd (nI r)) 3 (nn K) (qV B t (qE B t (qE B t (qE B t (qE B t i)))))) 4 (nn K) 0) 5 (nn K) (qV B t (qE B t (qE B t (qE B t (qE B t (qE B t (qE B t i)))))))) 6 (nn K) (-1)), qE B t (qE B t (qE B t (qE B t (qE B t (qE B t (qE B t i))))))) := dt_u hc109 (by rw [up2_up, if_neg (by omega)]; rw [up2_up, if_neg (by omega)]; rw [up2_up, if_neg (by omega)]; exact ad_n.2.2.2)
                                        exact gx_vret C hr hlk (MTR.yes1 Fm.rf hP (((((F1.rf.tr hF125).up).up).up).up) hM132 (by unfold psR; rw [if_pos ⟨hk0, by omega⟩]; unfold ps1; rw [if_pos hc7]; unfold ps2; rw [er, cr, if_pos ⟨hc35, hS⟩]; unfold psD; simp only [ed1, ed2, ed3, ed4, bdR_s, bdR_n])) dX4_personItem_239
                                      ·
                                        exact absurd h124 (by decide)
                                    ·
                                      exact absurd h123 (by decide)
                                ·
                                  obtain ⟨er108, wa108, wb108⟩ := w108
                                  obtain rfl := wb108 hc108
                                  refine gx_st (st' := [.int (qV B t (qE B t (qE B t (qE B t (qE B t (qE B t (qE B t i)))))))]) (by rw [er108]) ?_
                                  refine gx_goto (tgt := 155) C dX4_personItem_150 (by decide) ?_
                                  refine gx_istore (lv2 := [(5, .int (qV B t (qE B t (qE B t (qE B t (qE B t (qE B t (qE B t i)))))))), (4, .int 0), (3, .int (qV B t (qE B t (qE B t (qE B t (qE B t i)))))), (2, .int (nI r)), (0, .ref (eA E 49)), (1, .int kd)]) C dX4_personItem_155 (by decide) rfl ?_
                                  refine gx_aload_n C dX4_personItem_157 (by rfl) (by rfl) ?_
                                  refine gx_ldcwS 33 C rfl dX4_personItem_158 ?_
                                  refine gx_callVI (As := [.ref (eZ E (100 + 33))]) (rest := []) C (c_X4_takes_b E σ B t hP (qE B t (qE B t (qE B t (qE B t (qE B t (qE B t i)))))) (qE_le (B := B) (qE_le (B := B) (qE_le (B := B) (qE_le (B := B) (qE_le (B := B) (qE_le (B := B) hi)))))) 16 33 (by decide) rfl) z_X4_takes ck4 (by rfl) (by rfl) ml_X4_238 (by rfl) (Nat.le_of_ble_eq_true rfl) ⟨Nat.le_of_ble_eq_true rfl, Nat.le_of_ble_eq_true rfl⟩ dX4_personItem_161 (fun r134 σ134 w134 => ?_)
                                  obtain ⟨u1, u2⟩ := w134; rw [u1, u2]; clear u1 u2
                                  refine gx_if_eq (tgt := 185) C dX4_personItem_164 (by decide) (fun h135 => ?_) (fun h135 => ?_)
                                  ·
                                    clear h135
                                    refine gx_iconst (v := (-1)) C dX4_personItem_185 (by decide) ?_
                                    refine gx_istore (lv2 := [(6, .int (-1)), (5, .int (qV B t (qE B t (qE B t (qE B t (qE B t (qE B t (qE B t i)))))))), (4, .int 0), (3, .int (qV B t (qE B t (qE B t (qE B t (qE B t i)))))), (2, .int (nI r)), (0, .ref (eA E 49)), (1, .int kd)]) C dX4_personItem_186 (by decide) rfl ?_
                                    refine gx_aload_n C dX4_personItem_188 (by rfl) (by rfl) ?_
                                    refine gx_geti (k := 12) C ck4 (by rfl) (by rfl) (by decide) fl_X4_218 dX4_personItem_189 ?_
                                    refine gx_st (st' := [.int 1]) (by rw [mq_12]) ?_
                                    refine gx_if_eq (tgt := 196) C dX4_personItem_192 (by decide) (fun h136 => ?_) (fun h136 => ?_)
                                    ·
                                      exact absurd h136 (by decide)
                                    ·
                                      clear h136
                                      have ed1 : dtR B t 13 3 (nn K) 99 (adK K kd (nI r)) (qE B t (qE B t (qE B t i))) = (some (up2 (adK K kd (nI r)) 3 (nn K) (qV B t (qE B t (qE B t (qE B t (qE B t i)))))), qE B t (qE B t (qE B t (qE B t (qE B t i))))) := dt_t hc36 hc39
                                      have ed2 : dtR B t 14 4 (nn K) 3 (up2 (adK K kd (nI r)) 3 (nn K) (qV B t (qE B t (qE B t (qE B t (qE B t i)))))) (qE B t (qE B t (qE B t (qE B t (qE B t i))))) = (some (up2 (up2 (adK K kd (nI r)) 3 (nn K) (qV B t (qE B t (qE B t (qE B t (qE B t i)))))) 4 (nn K) 0), qE B t (qE B t (qE B t (qE B t (qE B t i))))) := dt_u hc40 (by rw [up2_up, if_neg (by omega)]; exact ad_n.2.1)
                                      have ed3 : dtR B t 15 5 (nn K) 9999 (up2 (up2 (adK K kd (nI r)) 3 (nn K) (qV B t (qE B t (qE B t (qE B t (qE B t i)))))) 4 (nn K) 0) (qE B t (qE B t (qE B t (qE B t (qE B t i))))) = (none, qE B t (qE B t (qE B t (qE B t (qE B t (qE B t i)))))) := dt_b hc106 hc108
                                      exact gx_vret C hr hlk (MTR.no Fm.rf hP (by unfold psR; rw [if_pos ⟨hk0, by omega⟩]; unfold ps1; rw [if_pos hc7]; unfold ps2; rw [er, cr, if_pos ⟨hc35, hS⟩]; unfold psD; simp only [ed1, ed2, ed3, bdR_s, bdR_n])) dX4_personItem_195
                                  ·
                                    exact absurd h135 (by decide)
                            ·
                              obtain ⟨rfl, rfl⟩ := w106.2 hc106
                              refine gx_if_eq (tgt := 153) C dX4_personItem_138 (by decide) (fun h137 => ?_) (fun h137 => ?_)
                              ·
                                clear h137
                                refine gx_bipush (v := 100) C dX4_personItem_153 (by decide) ?_
                                refine gx_istore (lv2 := [(5, .int 100), (4, .int 0), (3, .int (qV B t (qE B t (qE B t (qE B t (qE B t i)))))), (2, .int (nI r)), (0, .ref (eA E 49)), (1, .int kd)]) C dX4_personItem_155 (by decide) rfl ?_
                                refine gx_aload_n C dX4_personItem_157 (by rfl) (by rfl) ?_
                                refine gx_ldcwS 33 C rfl dX4_personItem_158 ?_
                                refine gx_callVI (As := [.ref (eZ E (100 + 33))]) (rest := []) C (c_X4_takes E σ B t hP (qE B t (qE B t (qE B t (qE B t (qE B t i))))) (qE_le (B := B) (qE_le (B := B) (qE_le (B := B) (qE_le (B := B) (qE_le (B := B) hi))))) 16 33 (by decide) rfl) z_X4_takes ck4 (by rfl) (by rfl) ml_X4_238 (by rfl) (Nat.le_of_ble_eq_true rfl) ⟨Nat.le_of_ble_eq_true rfl, Nat.le_of_ble_eq_true rfl⟩ dX4_personItem_161 (fun r138 σ138 w138 => ?_)
                                by_cases hc138 : qW B t (qE B t (qE B t (qE B t (qE B t (qE B t i))))) 16 = true
                                ·
                                  obtain ⟨rfl, rfl⟩ := w138.1 hc138
                                  refine gx_if_eq (tgt := 185) C dX4_personItem_164 (by decide) (fun h139 => ?_) (fun h139 => ?_)
                                  ·
                                    exact absurd h139 (by decide)
                                  ·
                                    clear h139
                                    refine gx_aload_n C dX4_personItem_167 (by rfl) (by rfl) ?_
                                    refine gx_iconst (v := 0) C dX4_personItem_168 (by decide) ?_
                                    refine gx_aload_n C dX4_personItem_169 (by rfl) (by rfl) ?_
                                    refine gx_getr (j := 50) (k := 0) C ck4 (by rfl) (by rfl) (by decide) fl_X4_9 dX4_personItem_170 ?_
                                    refine gx_bipush (v := 6) C dX4_personItem_173 (by decide) ?_
                                    refine gx_ialdN (k := 6) C (by rfl) (by rfl) (by decide) (by decide) dX4_personItem_175 ?_
                                    refine gx_st (st' := [.int (nI (nn K)), .int 0, .ref (eA E 49)]) (by rw [mp_n (vM_mq.trans hM : vM (mq σ B t (qE B t (qE B t (qE B t (qE B t (qE B t (qE B t i)))))) 0) 50 = K), hO.1.1]) ?_
                                    refine gx_iconst (v := 1) C dX4_personItem_176 (by decide) ?_
                                    refine gx_isub C dX4_personItem_177 ?_
                                    refine gx_iconst (v := 1) C dX4_personItem_178 (by decide) ?_
                                    refine gx_callVI (As := [.int 0, .int ((nI (nn K)) - 1), .int 1]) (rest := []) C (c_X4_number E σ B t hP (qE B t (qE B t (qE B t (qE B t (qE B t (qE B t i)))))) (qE_le (B := B) (qE_le (B := B) (qE_le (B := B) (qE_le (B := B) (qE_le (B := B) (qE_le (B := B) hi)))))) 0 ((nI (nn K)) - 1)) z_X4_number ck4 (by rfl) (by rfl) ml_X4_260 (by rfl) (Nat.le_of_ble_eq_true rfl) ⟨Nat.le_of_ble_eq_true rfl, Nat.le_of_ble_eq_true rfl⟩ dX4_personItem_179 (fun r140 σ140 w140 => ?_)
                                    by_cases hc140 : qN B t (qE B t (qE B t (qE B t (qE B t (qE B t (qE B t i)))))) 0 ((nI (nn K)) - 1) = true
                                    ·
                                      obtain ⟨er140, wa140, wb140⟩ := w140
                                      obtain rfl := wa140 hc140
                                      refine gx_st (st' := [.int (qV B t (qE B t (qE B t (qE B t (qE B t (qE B t (qE B t i)))))))]) (by rw [er140]) ?_
                                      refine gx_goto (tgt := 186) C dX4_personItem_182 (by decide) ?_
                                      refine gx_istore (lv2 := [(6, .int (qV B t (qE B t (qE B t (qE B t (qE B t (qE B t (qE B t i)))))))), (5, .int 100), (4, .int 0), (3, .int (qV B t (qE B t (qE B t (qE B t (qE B t i)))))), (2, .int (nI r)), (0, .ref (eA E 49)), (1, .int kd)]) C dX4_personItem_186 (by decide) rfl ?_
                                      refine gx_aload_n C dX4_personItem_188 (by rfl) (by rfl) ?_
                                      refine gx_geti (k := 12) C ck4 (by rfl) (by rfl) (by decide) fl_X4_218 dX4_personItem_189 ?_
                                      refine gx_st (st' := [.int 0]) (by rw [mq_12]) ?_
                                      refine gx_if_eq (tgt := 196) C dX4_personItem_192 (by decide) (fun h141 => ?_) (fun h141 => ?_)
                                      ·
                                        clear h141
                                        refine gx_aload_n C dX4_personItem_196 (by rfl) (by rfl) ?_
                                        refine gx_iload_n C dX4_personItem_197 (by rfl) (by rfl) ?_
                                        refine gx_iload_n C dX4_personItem_198 (by rfl) (by rfl) ?_
                                        refine gx_callVI (As := [.int kd, .int (nI r)]) (rest := []) C (c_X4_comes E (mq σ B t (qE B t (qE B t (qE B t (qE B t (qE B t (qE B t (qE B t i))))))) 0) K (vM_mq.trans hM : vM (mq σ B t (qE B t (qE B t (qE B t (qE B t (qE B t (qE B t (qE B t i))))))) 0) 50 = K) hO kd (nI r) (by omega)) z_X4_comes ck4 (by rfl) (by rfl) ml_X4_98 (by rfl) (Nat.le_of_ble_eq_true rfl) ⟨Nat.le_of_ble_eq_true rfl, Nat.le_of_ble_eq_true rfl⟩ dX4_personItem_199 (fun r142 σ142 w142 => ?_)
                                        obtain ⟨er142, hM142, hF142⟩ := w142
                                        refine gx_st (st' := [.int (nI (nn K))]) (by rw [er142]) ?_
                                        refine gx_istore (lv2 := [(7, .int (nI (nn K))), (6, .int (qV B t (qE B t (qE B t (qE B t (qE B t (qE B t (qE B t i)))))))), (5, .int 100), (4, .int 0), (3, .int (qV B t (qE B t (qE B t (qE B t (qE B t i)))))), (2, .int (nI r)), (0, .ref (eA E 49)), (1, .int kd)]) C dX4_personItem_202 (by decide) rfl ?_
                                        refine gx_aload_n C dX4_personItem_204 (by rfl) (by rfl) ?_
                                        refine gx_iload C dX4_personItem_205 (by rfl) ?_
                                        refine gx_iconst (v := 2) C dX4_personItem_207 (by decide) ?_
                                        refine gx_iload_n C dX4_personItem_208 (by rfl) (by rfl) ?_
                                        refine gx_callVV (As := [.int (nI (nn K)), .int 2, .int (qV B t (qE B t (qE B t (qE B t (qE B t i)))))]) (rest := []) C (c_X4_makes E σ142 (nn K) (by omega) 2 (by omega) (qV B t (qE B t (qE B t (qE B t (qE B t i)))))) z_X4_makes ck4 (by rfl) (by rfl) ml_X4_87 (by rfl) (Nat.le_of_ble_eq_true rfl) ⟨Nat.le_of_ble_eq_true rfl, Nat.le_of_ble_eq_true rfl⟩ dX4_personItem_209 (fun σ144 w144 => ?_)
                                        rw [w144]; clear w144
                                        have hM143 : vM (up2 σ142 50 (15 + 7 * (nn K) + 2) (qV B t (qE B t (qE B t (qE B t (qE B t i)))))) 50 = up2 (adK K kd (nI r)) 3 (nn K) (qV B t (qE B t (qE B t (qE B t (qE B t i))))) := by rw [vM_mk (by omega) (by omega), hM142]
                                        refine gx_aload_n C dX4_personItem_212 (by rfl) (by rfl) ?_
                                        refine gx_iload C dX4_personItem_213 (by rfl) ?_
                                        refine gx_iconst (v := 3) C dX4_personItem_215 (by decide) ?_
                                        refine gx_iload C dX4_personItem_216 (by rfl) ?_
                                        refine gx_callVV (As := [.int (nI (nn K)), .int 3, .int 0]) (rest := []) C (c_X4_makes E (up2 σ142 50 (15 + 7 * (nn K) + 2) (qV B t (qE B t (qE B t (qE B t (qE B t i)))))) (nn K) (by omega) 3 (by omega) 0) z_X4_makes ck4 (by rfl) (by rfl) ml_X4_87 (by rfl) (Nat.le_of_ble_eq_true rfl) ⟨Nat.le_of_ble_eq_true rfl, Nat.le_of_ble_eq_true rfl⟩ dX4_personItem_218 (fun σ146 w146 => ?_)
                                        rw [w146]; clear w146
                                        have hM145 : vM (up2 (up2 σ142 50 (15 + 7 * (nn K) + 2) (qV B t (qE B t (qE B t (qE B t (qE B t i)))))) 50 (15 + 7 * (nn K) + 3) 0) 50 = up2 (up2 (adK K kd (nI r)) 3 (nn K) (qV B t (qE B t (qE B t (qE B t (qE B t i)))))) 4 (nn K) 0 := by rw [vM_mk (by omega) (by omega), hM143]
                                        refine gx_aload_n C dX4_personItem_221 (by rfl) (by rfl) ?_
                                        refine gx_iload C dX4_personItem_222 (by rfl) ?_
                                        refine gx_iconst (v := 4) C dX4_personItem_224 (by decide) ?_
                                        refine gx_iload C dX4_personItem_225 (by rfl) ?_
                                        refine gx_callVV (As := [.int (nI (nn K)), .int 4, .int 100]) (rest := []) C (c_X4_makes E (up2 (up2 σ142 50 (15 + 7 * (nn K) + 2) (qV B t (qE B t (qE B t (qE B t (qE B t i)))))) 50 (15 + 7 * (nn K) + 3) 0) (nn K) (by omega) 4 (by omega) 100) z_X4_makes ck4 (by rfl) (by rfl) ml_X4_87 (by rfl) (Nat.le_of_ble_eq_true rfl) ⟨Nat.le_of_ble_eq_true rfl, Nat.le_of_ble_eq_true rfl⟩ dX4_personItem_227 (fun σ148 w148 => ?_)
                                        rw [w148]; clear w148
                                        have hM147 : vM (up2 (up2 (up2 σ142 50 (15 + 7 * (nn K) + 2) (qV B t (qE B t (qE B t (qE B t (qE B t i)))))) 50 (15 + 7 * (nn K) + 3) 0) 50 (15 + 7 * (nn K) + 4) 100) 50 = up2 (up2 (up2 (adK K kd (nI r)) 3 (nn K) (qV B t (qE B t (qE B t (qE B t (qE B t i)))))) 4 (nn K) 0) 5 (nn K) 100 := by rw [vM_mk (by omega) (by omega), hM145]
                                        refine gx_aload_n C dX4_personItem_230 (by rfl) (by rfl) ?_
                                        refine gx_iload C dX4_personItem_231 (by rfl) ?_
                                        refine gx_iconst (v := 5) C dX4_personItem_233 (by decide) ?_
                                        refine gx_iload C dX4_personItem_234 (by rfl) ?_
                                        refine gx_callVV (As := [.int (nI (nn K)), .int 5, .int (qV B t (qE B t (qE B t (qE B t (qE B t (qE B t (qE B t i)))))))]) (rest := []) C (c_X4_makes E (up2 (up2 (up2 σ142 50 (15 + 7 * (nn K) + 2) (qV B t (qE B t (qE B t (qE B t (qE B t i)))))) 50 (15 + 7 * (nn K) + 3) 0) 50 (15 + 7 * (nn K) + 4) 100) (nn K) (by omega) 5 (by omega) (qV B t (qE B t (qE B t (qE B t (qE B t (qE B t (qE B t i)))))))) z_X4_makes ck4 (by rfl) (by rfl) ml_X4_87 (by rfl) (Nat.le_of_ble_eq_true rfl) ⟨Nat.le_of_ble_eq_true rfl, Nat.le_of_ble_eq_true rfl⟩ dX4_personItem_236 (fun σ150 w150 => ?_)
                                        rw [w150]; clear w150
                                        have hM149 : vM (up2 (up2 (up2 (up2 σ142 50 (15 + 7 * (nn K) + 2) (qV B t (qE B t (qE B t (qE B t (qE B t i)))))) 50 (15 + 7 * (nn K) + 3) 0) 50 (15 + 7 * (nn K) + 4) 100) 50 (15 + 7 * (nn K) + 5) (qV B t (qE B t (qE B t (qE B t (qE B t (qE B t (qE B t i)))))))) 50 = up2 (up2 (up2 (up2 (adK K kd (nI r)) 3 (nn K) (qV B t (qE B t (qE B t (qE B t (qE B t i)))))) 4 (nn K) 0) 5 (nn K) 100) 6 (nn K) (qV B t (qE B t (qE B t (qE B t (qE B t (qE B t (qE B t i))))))) := by rw [vM_mk (by omega) (by omega), hM147]
                                        have ed1 : dtR B t 13 3 (nn K) 99 (adK K kd (nI r)) (qE B t (qE B t (qE B t i))) = (some (up2 (adK K kd (nI r)) 3 (nn K) (qV B t (qE B t (qE B t (qE B t (qE B t i)))))), qE B t (qE B t (qE B t (qE B t (qE B t i))))) := dt_t hc36 hc39
                                        have ed2 : dtR B t 14 4 (nn K) 3 (up2 (adK K kd (nI r)) 3 (nn K) (qV B t (qE B t (qE B t (qE B t (qE B t i)))))) (qE B t (qE B t (qE B t (qE B t (qE B t i))))) = (some (up2 (up2 (adK K kd (nI r)) 3 (nn K) (qV B t (qE B t (qE B t (qE B t (qE B t i)))))) 4 (nn K) 0), qE B t (qE B t (qE B t (qE B t (qE B t i))))) := dt_u hc40 (by rw [up2_up, if_neg (by omega)]; exact ad_n.2.1)
                                        have ed3 : dtR B t 15 5 (nn K) 9999 (up2 (up2 (adK K kd (nI r)) 3 (nn K) (qV B t (qE B t (qE B t (qE B t (qE B t i)))))) 4 (nn K) 0) (qE B t (qE B t (qE B t (qE B t (qE B t i))))) = (some (up2 (up2 (up2 (adK K kd (nI r)) 3 (nn K) (qV B t (qE B t (qE B t (qE B t (qE B t i)))))) 4 (nn K) 0) 5 (nn K) 100), qE B t (qE B t (qE B t (qE B t (qE B t i))))) := dt_u hc106 (by rw [up2_up, if_neg (by omega)]; rw [up2_up, if_neg (by omega)]; exact ad_n.2.2.1)
                                        have ed4 : dtR B t 16 6 (nn K) (nI (nn K) - 1) (up2 (up2 (up2 (adK K kd (nI r)) 3 (nn K) (qV B t (qE B t (qE B t (qE B t (qE B t i)))))) 4 (nn K) 0) 5 (nn K) 100) (qE B t (qE B t (qE B t (qE B t (qE B t i))))) = (some (up2 (up2 (up2 (up2 (adK K kd (nI r)) 3 (nn K) (qV B t (qE B t (qE B t (qE B t (qE B t i)))))) 4 (nn K) 0) 5 (nn K) 100) 6 (nn K) (qV B t (qE B t (qE B t (qE B t (qE B t (qE B t (qE B t i)))))))), qE B t (qE B t (qE B t (qE B t (qE B t (qE B t (qE B t i))))))) := dt_t hc138 hc140
                                        exact gx_vret C hr hlk (MTR.yes1 Fm.rf hP (((((F1.rf.tr hF142).up).up).up).up) hM149 (by unfold psR; rw [if_pos ⟨hk0, by omega⟩]; unfold ps1; rw [if_pos hc7]; unfold ps2; rw [er, cr, if_pos ⟨hc35, hS⟩]; unfold psD; simp only [ed1, ed2, ed3, ed4, bdR_s, bdR_n])) dX4_personItem_239
                                      ·
                                        exact absurd h141 (by decide)
                                    ·
                                      obtain ⟨er140, wa140, wb140⟩ := w140
                                      obtain rfl := wb140 hc140
                                      refine gx_st (st' := [.int (qV B t (qE B t (qE B t (qE B t (qE B t (qE B t (qE B t i)))))))]) (by rw [er140]) ?_
                                      refine gx_goto (tgt := 186) C dX4_personItem_182 (by decide) ?_
                                      refine gx_istore (lv2 := [(6, .int (qV B t (qE B t (qE B t (qE B t (qE B t (qE B t (qE B t i)))))))), (5, .int 100), (4, .int 0), (3, .int (qV B t (qE B t (qE B t (qE B t (qE B t i)))))), (2, .int (nI r)), (0, .ref (eA E 49)), (1, .int kd)]) C dX4_personItem_186 (by decide) rfl ?_
                                      refine gx_aload_n C dX4_personItem_188 (by rfl) (by rfl) ?_
                                      refine gx_geti (k := 12) C ck4 (by rfl) (by rfl) (by decide) fl_X4_218 dX4_personItem_189 ?_
                                      refine gx_st (st' := [.int 1]) (by rw [mq_12]) ?_
                                      refine gx_if_eq (tgt := 196) C dX4_personItem_192 (by decide) (fun h151 => ?_) (fun h151 => ?_)
                                      ·
                                        exact absurd h151 (by decide)
                                      ·
                                        clear h151
                                        have ed1 : dtR B t 13 3 (nn K) 99 (adK K kd (nI r)) (qE B t (qE B t (qE B t i))) = (some (up2 (adK K kd (nI r)) 3 (nn K) (qV B t (qE B t (qE B t (qE B t (qE B t i)))))), qE B t (qE B t (qE B t (qE B t (qE B t i))))) := dt_t hc36 hc39
                                        have ed2 : dtR B t 14 4 (nn K) 3 (up2 (adK K kd (nI r)) 3 (nn K) (qV B t (qE B t (qE B t (qE B t (qE B t i)))))) (qE B t (qE B t (qE B t (qE B t (qE B t i))))) = (some (up2 (up2 (adK K kd (nI r)) 3 (nn K) (qV B t (qE B t (qE B t (qE B t (qE B t i)))))) 4 (nn K) 0), qE B t (qE B t (qE B t (qE B t (qE B t i))))) := dt_u hc40 (by rw [up2_up, if_neg (by omega)]; exact ad_n.2.1)
                                        have ed3 : dtR B t 15 5 (nn K) 9999 (up2 (up2 (adK K kd (nI r)) 3 (nn K) (qV B t (qE B t (qE B t (qE B t (qE B t i)))))) 4 (nn K) 0) (qE B t (qE B t (qE B t (qE B t (qE B t i))))) = (some (up2 (up2 (up2 (adK K kd (nI r)) 3 (nn K) (qV B t (qE B t (qE B t (qE B t (qE B t i)))))) 4 (nn K) 0) 5 (nn K) 100), qE B t (qE B t (qE B t (qE B t (qE B t i))))) := dt_u hc106 (by rw [up2_up, if_neg (by omega)]; rw [up2_up, if_neg (by omega)]; exact ad_n.2.2.1)
                                        have ed4 : dtR B t 16 6 (nn K) (nI (nn K) - 1) (up2 (up2 (up2 (adK K kd (nI r)) 3 (nn K) (qV B t (qE B t (qE B t (qE B t (qE B t i)))))) 4 (nn K) 0) 5 (nn K) 100) (qE B t (qE B t (qE B t (qE B t (qE B t i))))) = (none, qE B t (qE B t (qE B t (qE B t (qE B t (qE B t i)))))) := dt_b hc138 hc140
                                        exact gx_vret C hr hlk (MTR.no Fm.rf hP (by unfold psR; rw [if_pos ⟨hk0, by omega⟩]; unfold ps1; rw [if_pos hc7]; unfold ps2; rw [er, cr, if_pos ⟨hc35, hS⟩]; unfold psD; simp only [ed1, ed2, ed3, ed4, bdR_s, bdR_n])) dX4_personItem_195
                                ·
                                  obtain ⟨rfl, rfl⟩ := w138.2 hc138
                                  refine gx_if_eq (tgt := 185) C dX4_personItem_164 (by decide) (fun h152 => ?_) (fun h152 => ?_)
                                  ·
                                    clear h152
                                    refine gx_iconst (v := (-1)) C dX4_personItem_185 (by decide) ?_
                                    refine gx_istore (lv2 := [(6, .int (-1)), (5, .int 100), (4, .int 0), (3, .int (qV B t (qE B t (qE B t (qE B t (qE B t i)))))), (2, .int (nI r)), (0, .ref (eA E 49)), (1, .int kd)]) C dX4_personItem_186 (by decide) rfl ?_
                                    refine gx_aload_n C dX4_personItem_188 (by rfl) (by rfl) ?_
                                    refine gx_geti (k := 12) C ck4 (by rfl) (by rfl) (by decide) fl_X4_218 dX4_personItem_189 ?_
                                    refine gx_st (st' := [.int 0]) (by rw [mq_12]) ?_
                                    refine gx_if_eq (tgt := 196) C dX4_personItem_192 (by decide) (fun h153 => ?_) (fun h153 => ?_)
                                    ·
                                      clear h153
                                      refine gx_aload_n C dX4_personItem_196 (by rfl) (by rfl) ?_
                                      refine gx_iload_n C dX4_personItem_197 (by rfl) (by rfl) ?_
                                      refine gx_iload_n C dX4_personItem_198 (by rfl) (by rfl) ?_
                                      refine gx_callVI (As := [.int kd, .int (nI r)]) (rest := []) C (c_X4_comes E (mq σ B t (qE B t (qE B t (qE B t (qE B t (qE B t i))))) 0) K (vM_mq.trans hM : vM (mq σ B t (qE B t (qE B t (qE B t (qE B t (qE B t i))))) 0) 50 = K) hO kd (nI r) (by omega)) z_X4_comes ck4 (by rfl) (by rfl) ml_X4_98 (by rfl) (Nat.le_of_ble_eq_true rfl) ⟨Nat.le_of_ble_eq_true rfl, Nat.le_of_ble_eq_true rfl⟩ dX4_personItem_199 (fun r154 σ154 w154 => ?_)
                                      obtain ⟨er154, hM154, hF154⟩ := w154
                                      refine gx_st (st' := [.int (nI (nn K))]) (by rw [er154]) ?_
                                      refine gx_istore (lv2 := [(7, .int (nI (nn K))), (6, .int (-1)), (5, .int 100), (4, .int 0), (3, .int (qV B t (qE B t (qE B t (qE B t (qE B t i)))))), (2, .int (nI r)), (0, .ref (eA E 49)), (1, .int kd)]) C dX4_personItem_202 (by decide) rfl ?_
                                      refine gx_aload_n C dX4_personItem_204 (by rfl) (by rfl) ?_
                                      refine gx_iload C dX4_personItem_205 (by rfl) ?_
                                      refine gx_iconst (v := 2) C dX4_personItem_207 (by decide) ?_
                                      refine gx_iload_n C dX4_personItem_208 (by rfl) (by rfl) ?_
                                      refine gx_callVV (As := [.int (nI (nn K)), .int 2, .int (qV B t (qE B t (qE B t (qE B t (qE B t i)))))]) (rest := []) C (c_X4_makes E σ154 (nn K) (by omega) 2 (by omega) (qV B t (qE B t (qE B t (qE B t (qE B t i)))))) z_X4_makes ck4 (by rfl) (by rfl) ml_X4_87 (by rfl) (Nat.le_of_ble_eq_true rfl) ⟨Nat.le_of_ble_eq_true rfl, Nat.le_of_ble_eq_true rfl⟩ dX4_personItem_209 (fun σ156 w156 => ?_)
                                      rw [w156]; clear w156
                                      have hM155 : vM (up2 σ154 50 (15 + 7 * (nn K) + 2) (qV B t (qE B t (qE B t (qE B t (qE B t i)))))) 50 = up2 (adK K kd (nI r)) 3 (nn K) (qV B t (qE B t (qE B t (qE B t (qE B t i))))) := by rw [vM_mk (by omega) (by omega), hM154]
                                      refine gx_aload_n C dX4_personItem_212 (by rfl) (by rfl) ?_
                                      refine gx_iload C dX4_personItem_213 (by rfl) ?_
                                      refine gx_iconst (v := 3) C dX4_personItem_215 (by decide) ?_
                                      refine gx_iload C dX4_personItem_216 (by rfl) ?_
                                      refine gx_callVV (As := [.int (nI (nn K)), .int 3, .int 0]) (rest := []) C (c_X4_makes E (up2 σ154 50 (15 + 7 * (nn K) + 2) (qV B t (qE B t (qE B t (qE B t (qE B t i)))))) (nn K) (by omega) 3 (by omega) 0) z_X4_makes ck4 (by rfl) (by rfl) ml_X4_87 (by rfl) (Nat.le_of_ble_eq_true rfl) ⟨Nat.le_of_ble_eq_true rfl, Nat.le_of_ble_eq_true rfl⟩ dX4_personItem_218 (fun σ158 w158 => ?_)
                                      rw [w158]; clear w158
                                      have hM157 : vM (up2 (up2 σ154 50 (15 + 7 * (nn K) + 2) (qV B t (qE B t (qE B t (qE B t (qE B t i)))))) 50 (15 + 7 * (nn K) + 3) 0) 50 = up2 (up2 (adK K kd (nI r)) 3 (nn K) (qV B t (qE B t (qE B t (qE B t (qE B t i)))))) 4 (nn K) 0 := by rw [vM_mk (by omega) (by omega), hM155]
                                      refine gx_aload_n C dX4_personItem_221 (by rfl) (by rfl) ?_
                                      refine gx_iload C dX4_personItem_222 (by rfl) ?_
                                      refine gx_iconst (v := 4) C dX4_personItem_224 (by decide) ?_
                                      refine gx_iload C dX4_personItem_225 (by rfl) ?_
                                      refine gx_callVV (As := [.int (nI (nn K)), .int 4, .int 100]) (rest := []) C (c_X4_makes E (up2 (up2 σ154 50 (15 + 7 * (nn K) + 2) (qV B t (qE B t (qE B t (qE B t (qE B t i)))))) 50 (15 + 7 * (nn K) + 3) 0) (nn K) (by omega) 4 (by omega) 100) z_X4_makes ck4 (by rfl) (by rfl) ml_X4_87 (by rfl) (Nat.le_of_ble_eq_true rfl) ⟨Nat.le_of_ble_eq_true rfl, Nat.le_of_ble_eq_true rfl⟩ dX4_personItem_227 (fun σ160 w160 => ?_)
                                      rw [w160]; clear w160
                                      have hM159 : vM (up2 (up2 (up2 σ154 50 (15 + 7 * (nn K) + 2) (qV B t (qE B t (qE B t (qE B t (qE B t i)))))) 50 (15 + 7 * (nn K) + 3) 0) 50 (15 + 7 * (nn K) + 4) 100) 50 = up2 (up2 (up2 (adK K kd (nI r)) 3 (nn K) (qV B t (qE B t (qE B t (qE B t (qE B t i)))))) 4 (nn K) 0) 5 (nn K) 100 := by rw [vM_mk (by omega) (by omega), hM157]
                                      refine gx_aload_n C dX4_personItem_230 (by rfl) (by rfl) ?_
                                      refine gx_iload C dX4_personItem_231 (by rfl) ?_
                                      refine gx_iconst (v := 5) C dX4_personItem_233 (by decide) ?_
                                      refine gx_iload C dX4_personItem_234 (by rfl) ?_
                                      refine gx_callVV (As := [.int (nI (nn K)), .int 5, .int (-1)]) (rest := []) C (c_X4_makes E (up2 (up2 (up2 σ154 50 (15 + 7 * (nn K) + 2) (qV B t (qE B t (qE B t (qE B t (qE B t i)))))) 50 (15 + 7 * (nn K) + 3) 0) 50 (15 + 7 * (nn K) + 4) 100) (nn K) (by omega) 5 (by omega) (-1)) z_X4_makes ck4 (by rfl) (by rfl) ml_X4_87 (by rfl) (Nat.le_of_ble_eq_true rfl) ⟨Nat.le_of_ble_eq_true rfl, Nat.le_of_ble_eq_true rfl⟩ dX4_personItem_236 (fun σ162 w162 => ?_)
                                      rw [w162]; clear w162
                                      have hM161 : vM (up2 (up2 (up2 (up2 σ154 50 (15 + 7 * (nn K) + 2) (qV B t (qE B t (qE B t (qE B t (qE B t i)))))) 50 (15 + 7 * (nn K) + 3) 0) 50 (15 + 7 * (nn K) + 4) 100) 50 (15 + 7 * (nn K) + 5) (-1)) 50 = up2 (up2 (up2 (up2 (adK K kd (nI r)) 3 (nn K) (qV B t (qE B t (qE B t (qE B t (qE B t i)))))) 4 (nn K) 0) 5 (nn K) 100) 6 (nn K) (-1) := by rw [vM_mk (by omega) (by omega), hM159]
                                      have ed1 : dtR B t 13 3 (nn K) 99 (adK K kd (nI r)) (qE B t (qE B t (qE B t i))) = (some (up2 (adK K kd (nI r)) 3 (nn K) (qV B t (qE B t (qE B t (qE B t (qE B t i)))))), qE B t (qE B t (qE B t (qE B t (qE B t i))))) := dt_t hc36 hc39
                                      have ed2 : dtR B t 14 4 (nn K) 3 (up2 (adK K kd (nI r)) 3 (nn K) (qV B t (qE B t (qE B t (qE B t (qE B t i)))))) (qE B t (qE B t (qE B t (qE B t (qE B t i))))) = (some (up2 (up2 (adK K kd (nI r)) 3 (nn K) (qV B t (qE B t (qE B t (qE B t (qE B t i)))))) 4 (nn K) 0), qE B t (qE B t (qE B t (qE B t (qE B t i))))) := dt_u hc40 (by rw [up2_up, if_neg (by omega)]; exact ad_n.2.1)
                                      have ed3 : dtR B t 15 5 (nn K) 9999 (up2 (up2 (adK K kd (nI r)) 3 (nn K) (qV B t (qE B t (qE B t (qE B t (qE B t i)))))) 4 (nn K) 0) (qE B t (qE B t (qE B t (qE B t (qE B t i))))) = (some (up2 (up2 (up2 (adK K kd (nI r)) 3 (nn K) (qV B t (qE B t (qE B t (qE B t (qE B t i)))))) 4 (nn K) 0) 5 (nn K) 100), qE B t (qE B t (qE B t (qE B t (qE B t i))))) := dt_u hc106 (by rw [up2_up, if_neg (by omega)]; rw [up2_up, if_neg (by omega)]; exact ad_n.2.2.1)
                                      have ed4 : dtR B t 16 6 (nn K) (nI (nn K) - 1) (up2 (up2 (up2 (adK K kd (nI r)) 3 (nn K) (qV B t (qE B t (qE B t (qE B t (qE B t i)))))) 4 (nn K) 0) 5 (nn K) 100) (qE B t (qE B t (qE B t (qE B t (qE B t i))))) = (some (up2 (up2 (up2 (up2 (adK K kd (nI r)) 3 (nn K) (qV B t (qE B t (qE B t (qE B t (qE B t i)))))) 4 (nn K) 0) 5 (nn K) 100) 6 (nn K) (-1)), qE B t (qE B t (qE B t (qE B t (qE B t i))))) := dt_u hc138 (by rw [up2_up, if_neg (by omega)]; rw [up2_up, if_neg (by omega)]; rw [up2_up, if_neg (by omega)]; exact ad_n.2.2.2)
                                      exact gx_vret C hr hlk (MTR.yes1 Fm.rf hP (((((F1.rf.tr hF154).up).up).up).up) hM161 (by unfold psR; rw [if_pos ⟨hk0, by omega⟩]; unfold ps1; rw [if_pos hc7]; unfold ps2; rw [er, cr, if_pos ⟨hc35, hS⟩]; unfold psD; simp only [ed1, ed2, ed3, ed4, bdR_s, bdR_n])) dX4_personItem_239
                                    ·
                                      exact absurd h153 (by decide)
                                  ·
                                    exact absurd h152 (by decide)
                              ·
                                exact absurd h137 (by decide)
                          ·
                            exact absurd h105 (by decide)
                      ·
                        obtain ⟨er39, wa39, wb39⟩ := w39
                        obtain rfl := wb39 hc39
                        refine gx_st (st' := [.int (qV B t (qE B t (qE B t (qE B t (qE B t i)))))]) (by rw [er39]) ?_
                        refine gx_goto (tgt := 107) C dX4_personItem_102 (by decide) ?_
                        refine gx_istore_n (lv2 := [(3, .int (qV B t (qE B t (qE B t (qE B t (qE B t i)))))), (2, .int (nI r)), (0, .ref (eA E 49)), (1, .int kd)]) C dX4_personItem_107 (by rfl) (by decide) rfl ?_
                        refine gx_aload_n C dX4_personItem_108 (by rfl) (by rfl) ?_
                        refine gx_ldcwS 31 C rfl dX4_personItem_109 ?_
                        refine gx_callVI (As := [.ref (eZ E (100 + 31))]) (rest := []) C (c_X4_takes_b E σ B t hP (qE B t (qE B t (qE B t (qE B t i)))) (qE_le (B := B) (qE_le (B := B) (qE_le (B := B) (qE_le (B := B) hi)))) 14 31 (by decide) rfl) z_X4_takes ck4 (by rfl) (by rfl) ml_X4_238 (by rfl) (Nat.le_of_ble_eq_true rfl) ⟨Nat.le_of_ble_eq_true rfl, Nat.le_of_ble_eq_true rfl⟩ dX4_personItem_112 (fun r163 σ163 w163 => ?_)
                        obtain ⟨u1, u2⟩ := w163; rw [u1, u2]; clear u1 u2
                        refine gx_if_eq (tgt := 128) C dX4_personItem_115 (by decide) (fun h164 => ?_) (fun h164 => ?_)
                        ·
                          clear h164
                          refine gx_iconst (v := 0) C dX4_personItem_128 (by decide) ?_
                          refine gx_istore (lv2 := [(4, .int 0), (3, .int (qV B t (qE B t (qE B t (qE B t (qE B t i)))))), (2, .int (nI r)), (0, .ref (eA E 49)), (1, .int kd)]) C dX4_personItem_129 (by decide) rfl ?_
                          refine gx_aload_n C dX4_personItem_131 (by rfl) (by rfl) ?_
                          refine gx_ldcwS 32 C rfl dX4_personItem_132 ?_
                          refine gx_callVI (As := [.ref (eZ E (100 + 32))]) (rest := []) C (c_X4_takes_b E σ B t hP (qE B t (qE B t (qE B t (qE B t i)))) (qE_le (B := B) (qE_le (B := B) (qE_le (B := B) (qE_le (B := B) hi)))) 15 32 (by decide) rfl) z_X4_takes ck4 (by rfl) (by rfl) ml_X4_238 (by rfl) (Nat.le_of_ble_eq_true rfl) ⟨Nat.le_of_ble_eq_true rfl, Nat.le_of_ble_eq_true rfl⟩ dX4_personItem_135 (fun r165 σ165 w165 => ?_)
                          obtain ⟨u1, u2⟩ := w165; rw [u1, u2]; clear u1 u2
                          refine gx_if_eq (tgt := 153) C dX4_personItem_138 (by decide) (fun h166 => ?_) (fun h166 => ?_)
                          ·
                            clear h166
                            refine gx_bipush (v := 100) C dX4_personItem_153 (by decide) ?_
                            refine gx_istore (lv2 := [(5, .int 100), (4, .int 0), (3, .int (qV B t (qE B t (qE B t (qE B t (qE B t i)))))), (2, .int (nI r)), (0, .ref (eA E 49)), (1, .int kd)]) C dX4_personItem_155 (by decide) rfl ?_
                            refine gx_aload_n C dX4_personItem_157 (by rfl) (by rfl) ?_
                            refine gx_ldcwS 33 C rfl dX4_personItem_158 ?_
                            refine gx_callVI (As := [.ref (eZ E (100 + 33))]) (rest := []) C (c_X4_takes_b E σ B t hP (qE B t (qE B t (qE B t (qE B t i)))) (qE_le (B := B) (qE_le (B := B) (qE_le (B := B) (qE_le (B := B) hi)))) 16 33 (by decide) rfl) z_X4_takes ck4 (by rfl) (by rfl) ml_X4_238 (by rfl) (Nat.le_of_ble_eq_true rfl) ⟨Nat.le_of_ble_eq_true rfl, Nat.le_of_ble_eq_true rfl⟩ dX4_personItem_161 (fun r167 σ167 w167 => ?_)
                            obtain ⟨u1, u2⟩ := w167; rw [u1, u2]; clear u1 u2
                            refine gx_if_eq (tgt := 185) C dX4_personItem_164 (by decide) (fun h168 => ?_) (fun h168 => ?_)
                            ·
                              clear h168
                              refine gx_iconst (v := (-1)) C dX4_personItem_185 (by decide) ?_
                              refine gx_istore (lv2 := [(6, .int (-1)), (5, .int 100), (4, .int 0), (3, .int (qV B t (qE B t (qE B t (qE B t (qE B t i)))))), (2, .int (nI r)), (0, .ref (eA E 49)), (1, .int kd)]) C dX4_personItem_186 (by decide) rfl ?_
                              refine gx_aload_n C dX4_personItem_188 (by rfl) (by rfl) ?_
                              refine gx_geti (k := 12) C ck4 (by rfl) (by rfl) (by decide) fl_X4_218 dX4_personItem_189 ?_
                              refine gx_st (st' := [.int 1]) (by rw [mq_12]) ?_
                              refine gx_if_eq (tgt := 196) C dX4_personItem_192 (by decide) (fun h169 => ?_) (fun h169 => ?_)
                              ·
                                exact absurd h169 (by decide)
                              ·
                                clear h169
                                have ed1 : dtR B t 13 3 (nn K) 99 (adK K kd (nI r)) (qE B t (qE B t (qE B t i))) = (none, qE B t (qE B t (qE B t (qE B t i)))) := dt_b hc36 hc39
                                exact gx_vret C hr hlk (MTR.no Fm.rf hP (by unfold psR; rw [if_pos ⟨hk0, by omega⟩]; unfold ps1; rw [if_pos hc7]; unfold ps2; rw [er, cr, if_pos ⟨hc35, hS⟩]; unfold psD; simp only [ed1, bdR_s, bdR_n])) dX4_personItem_195
                            ·
                              exact absurd h168 (by decide)
                          ·
                            exact absurd h166 (by decide)
                        ·
                          exact absurd h164 (by decide)
                  ·
                    obtain ⟨rfl, rfl⟩ := w36.2 hc36
                    refine gx_if_eq (tgt := 105) C dX4_personItem_91 (by decide) (fun h170 => ?_) (fun h170 => ?_)
                    ·
                      clear h170
                      refine gx_bipush (v := 30) C dX4_personItem_105 (by decide) ?_
                      refine gx_istore_n (lv2 := [(3, .int 30), (2, .int (nI r)), (0, .ref (eA E 49)), (1, .int kd)]) C dX4_personItem_107 (by rfl) (by decide) rfl ?_
                      refine gx_aload_n C dX4_personItem_108 (by rfl) (by rfl) ?_
                      refine gx_ldcwS 31 C rfl dX4_personItem_109 ?_
                      refine gx_callVI (As := [.ref (eZ E (100 + 31))]) (rest := []) C (c_X4_takes E σ B t hP (qE B t (qE B t (qE B t i))) (qE_le (B := B) (qE_le (B := B) (qE_le (B := B) hi))) 14 31 (by decide) rfl) z_X4_takes ck4 (by rfl) (by rfl) ml_X4_238 (by rfl) (Nat.le_of_ble_eq_true rfl) ⟨Nat.le_of_ble_eq_true rfl, Nat.le_of_ble_eq_true rfl⟩ dX4_personItem_112 (fun r171 σ171 w171 => ?_)
                      by_cases hc171 : qW B t (qE B t (qE B t (qE B t i))) 14 = true
                      ·
                        obtain ⟨rfl, rfl⟩ := w171.1 hc171
                        refine gx_if_eq (tgt := 128) C dX4_personItem_115 (by decide) (fun h172 => ?_) (fun h172 => ?_)
                        ·
                          exact absurd h172 (by decide)
                        ·
                          clear h172
                          refine gx_aload_n C dX4_personItem_118 (by rfl) (by rfl) ?_
                          refine gx_iconst (v := 0) C dX4_personItem_119 (by decide) ?_
                          refine gx_iconst (v := 3) C dX4_personItem_120 (by decide) ?_
                          refine gx_iconst (v := 1) C dX4_personItem_121 (by decide) ?_
                          refine gx_callVI (As := [.int 0, .int 3, .int 1]) (rest := []) C (c_X4_number E σ B t hP (qE B t (qE B t (qE B t (qE B t i)))) (qE_le (B := B) (qE_le (B := B) (qE_le (B := B) (qE_le (B := B) hi)))) 0 3) z_X4_number ck4 (by rfl) (by rfl) ml_X4_260 (by rfl) (Nat.le_of_ble_eq_true rfl) ⟨Nat.le_of_ble_eq_true rfl, Nat.le_of_ble_eq_true rfl⟩ dX4_personItem_122 (fun r173 σ173 w173 => ?_)
                          by_cases hc173 : qN B t (qE B t (qE B t (qE B t (qE B t i)))) 0 3 = true
                          ·
                            obtain ⟨er173, wa173, wb173⟩ := w173
                            obtain rfl := wa173 hc173
                            refine gx_st (st' := [.int (qV B t (qE B t (qE B t (qE B t (qE B t i)))))]) (by rw [er173]) ?_
                            refine gx_goto (tgt := 129) C dX4_personItem_125 (by decide) ?_
                            refine gx_istore (lv2 := [(4, .int (qV B t (qE B t (qE B t (qE B t (qE B t i)))))), (3, .int 30), (2, .int (nI r)), (0, .ref (eA E 49)), (1, .int kd)]) C dX4_personItem_129 (by decide) rfl ?_
                            refine gx_aload_n C dX4_personItem_131 (by rfl) (by rfl) ?_
                            refine gx_ldcwS 32 C rfl dX4_personItem_132 ?_
                            refine gx_callVI (As := [.ref (eZ E (100 + 32))]) (rest := []) C (c_X4_takes E σ B t hP (qE B t (qE B t (qE B t (qE B t (qE B t i))))) (qE_le (B := B) (qE_le (B := B) (qE_le (B := B) (qE_le (B := B) (qE_le (B := B) hi))))) 15 32 (by decide) rfl) z_X4_takes ck4 (by rfl) (by rfl) ml_X4_238 (by rfl) (Nat.le_of_ble_eq_true rfl) ⟨Nat.le_of_ble_eq_true rfl, Nat.le_of_ble_eq_true rfl⟩ dX4_personItem_135 (fun r174 σ174 w174 => ?_)
                            by_cases hc174 : qW B t (qE B t (qE B t (qE B t (qE B t (qE B t i))))) 15 = true
                            ·
                              obtain ⟨rfl, rfl⟩ := w174.1 hc174
                              refine gx_if_eq (tgt := 153) C dX4_personItem_138 (by decide) (fun h175 => ?_) (fun h175 => ?_)
                              ·
                                exact absurd h175 (by decide)
                              ·
                                clear h175
                                refine gx_aload_n C dX4_personItem_141 (by rfl) (by rfl) ?_
                                refine gx_iconst (v := 0) C dX4_personItem_142 (by decide) ?_
                                refine gx_sipush (v := 9999) C dX4_personItem_143 (by decide) ?_
                                refine gx_iconst (v := 1) C dX4_personItem_146 (by decide) ?_
                                refine gx_callVI (As := [.int 0, .int 9999, .int 1]) (rest := []) C (c_X4_number E σ B t hP (qE B t (qE B t (qE B t (qE B t (qE B t (qE B t i)))))) (qE_le (B := B) (qE_le (B := B) (qE_le (B := B) (qE_le (B := B) (qE_le (B := B) (qE_le (B := B) hi)))))) 0 9999) z_X4_number ck4 (by rfl) (by rfl) ml_X4_260 (by rfl) (Nat.le_of_ble_eq_true rfl) ⟨Nat.le_of_ble_eq_true rfl, Nat.le_of_ble_eq_true rfl⟩ dX4_personItem_147 (fun r176 σ176 w176 => ?_)
                                by_cases hc176 : qN B t (qE B t (qE B t (qE B t (qE B t (qE B t (qE B t i)))))) 0 9999 = true
                                ·
                                  obtain ⟨er176, wa176, wb176⟩ := w176
                                  obtain rfl := wa176 hc176
                                  refine gx_st (st' := [.int (qV B t (qE B t (qE B t (qE B t (qE B t (qE B t (qE B t i)))))))]) (by rw [er176]) ?_
                                  refine gx_goto (tgt := 155) C dX4_personItem_150 (by decide) ?_
                                  refine gx_istore (lv2 := [(5, .int (qV B t (qE B t (qE B t (qE B t (qE B t (qE B t (qE B t i)))))))), (4, .int (qV B t (qE B t (qE B t (qE B t (qE B t i)))))), (3, .int 30), (2, .int (nI r)), (0, .ref (eA E 49)), (1, .int kd)]) C dX4_personItem_155 (by decide) rfl ?_
                                  refine gx_aload_n C dX4_personItem_157 (by rfl) (by rfl) ?_
                                  refine gx_ldcwS 33 C rfl dX4_personItem_158 ?_
                                  refine gx_callVI (As := [.ref (eZ E (100 + 33))]) (rest := []) C (c_X4_takes E σ B t hP (qE B t (qE B t (qE B t (qE B t (qE B t (qE B t (qE B t i))))))) (qE_le (B := B) (qE_le (B := B) (qE_le (B := B) (qE_le (B := B) (qE_le (B := B) (qE_le (B := B) (qE_le (B := B) hi))))))) 16 33 (by decide) rfl) z_X4_takes ck4 (by rfl) (by rfl) ml_X4_238 (by rfl) (Nat.le_of_ble_eq_true rfl) ⟨Nat.le_of_ble_eq_true rfl, Nat.le_of_ble_eq_true rfl⟩ dX4_personItem_161 (fun r177 σ177 w177 => ?_)
                                  by_cases hc177 : qW B t (qE B t (qE B t (qE B t (qE B t (qE B t (qE B t (qE B t i))))))) 16 = true
                                  ·
                                    obtain ⟨rfl, rfl⟩ := w177.1 hc177
                                    refine gx_if_eq (tgt := 185) C dX4_personItem_164 (by decide) (fun h178 => ?_) (fun h178 => ?_)
                                    ·
                                      exact absurd h178 (by decide)
                                    ·
                                      clear h178
                                      refine gx_aload_n C dX4_personItem_167 (by rfl) (by rfl) ?_
                                      refine gx_iconst (v := 0) C dX4_personItem_168 (by decide) ?_
                                      refine gx_aload_n C dX4_personItem_169 (by rfl) (by rfl) ?_
                                      refine gx_getr (j := 50) (k := 0) C ck4 (by rfl) (by rfl) (by decide) fl_X4_9 dX4_personItem_170 ?_
                                      refine gx_bipush (v := 6) C dX4_personItem_173 (by decide) ?_
                                      refine gx_ialdN (k := 6) C (by rfl) (by rfl) (by decide) (by decide) dX4_personItem_175 ?_
                                      refine gx_st (st' := [.int (nI (nn K)), .int 0, .ref (eA E 49)]) (by rw [mp_n (vM_mq.trans hM : vM (mq σ B t (qE B t (qE B t (qE B t (qE B t (qE B t (qE B t (qE B t (qE B t i)))))))) 0) 50 = K), hO.1.1]) ?_
                                      refine gx_iconst (v := 1) C dX4_personItem_176 (by decide) ?_
                                      refine gx_isub C dX4_personItem_177 ?_
                                      refine gx_iconst (v := 1) C dX4_personItem_178 (by decide) ?_
                                      refine gx_callVI (As := [.int 0, .int ((nI (nn K)) - 1), .int 1]) (rest := []) C (c_X4_number E σ B t hP (qE B t (qE B t (qE B t (qE B t (qE B t (qE B t (qE B t (qE B t i)))))))) (qE_le (B := B) (qE_le (B := B) (qE_le (B := B) (qE_le (B := B) (qE_le (B := B) (qE_le (B := B) (qE_le (B := B) (qE_le (B := B) hi)))))))) 0 ((nI (nn K)) - 1)) z_X4_number ck4 (by rfl) (by rfl) ml_X4_260 (by rfl) (Nat.le_of_ble_eq_true rfl) ⟨Nat.le_of_ble_eq_true rfl, Nat.le_of_ble_eq_true rfl⟩ dX4_personItem_179 (fun r179 σ179 w179 => ?_)
                                      by_cases hc179 : qN B t (qE B t (qE B t (qE B t (qE B t (qE B t (qE B t (qE B t (qE B t i)))))))) 0 ((nI (nn K)) - 1) = true
                                      ·
                                        obtain ⟨er179, wa179, wb179⟩ := w179
                                        obtain rfl := wa179 hc179
                                        refine gx_st (st' := [.int (qV B t (qE B t (qE B t (qE B t (qE B t (qE B t (qE B t (qE B t (qE B t i)))))))))]) (by rw [er179]) ?_
                                        refine gx_goto (tgt := 186) C dX4_personItem_182 (by decide) ?_
                                        refine gx_istore (lv2 := [(6, .int (qV B t (qE B t (qE B t (qE B t (qE B t (qE B t (qE B t (qE B t (qE B t i)))))))))), (5, .int (qV B t (qE B t (qE B t (qE B t (qE B t (qE B t (qE B t i)))))))), (4, .int (qV B t (qE B t (qE B t (qE B t (qE B t i)))))), (3, .int 30), (2, .int (nI r)), (0, .ref (eA E 49)), (1, .int kd)]) C dX4_personItem_186 (by decide) rfl ?_
                                        refine gx_aload_n C dX4_personItem_188 (by rfl) (by rfl) ?_
                                        refine gx_geti (k := 12) C ck4 (by rfl) (by rfl) (by decide) fl_X4_218 dX4_personItem_189 ?_
                                        refine gx_st (st' := [.int 0]) (by rw [mq_12]) ?_
                                        refine gx_if_eq (tgt := 196) C dX4_personItem_192 (by decide) (fun h180 => ?_) (fun h180 => ?_)
                                        ·
                                          clear h180
                                          refine gx_aload_n C dX4_personItem_196 (by rfl) (by rfl) ?_
                                          refine gx_iload_n C dX4_personItem_197 (by rfl) (by rfl) ?_
                                          refine gx_iload_n C dX4_personItem_198 (by rfl) (by rfl) ?_
                                          refine gx_callVI (As := [.int kd, .int (nI r)]) (rest := []) C (c_X4_comes E (mq σ B t (qE B t (qE B t (qE B t (qE B t (qE B t (qE B t (qE B t (qE B t (qE B t i))))))))) 0) K (vM_mq.trans hM : vM (mq σ B t (qE B t (qE B t (qE B t (qE B t (qE B t (qE B t (qE B t (qE B t (qE B t i))))))))) 0) 50 = K) hO kd (nI r) (by omega)) z_X4_comes ck4 (by rfl) (by rfl) ml_X4_98 (by rfl) (Nat.le_of_ble_eq_true rfl) ⟨Nat.le_of_ble_eq_true rfl, Nat.le_of_ble_eq_true rfl⟩ dX4_personItem_199 (fun r181 σ181 w181 => ?_)
                                          obtain ⟨er181, hM181, hF181⟩ := w181
                                          refine gx_st (st' := [.int (nI (nn K))]) (by rw [er181]) ?_
                                          refine gx_istore (lv2 := [(7, .int (nI (nn K))), (6, .int (qV B t (qE B t (qE B t (qE B t (qE B t (qE B t (qE B t (qE B t (qE B t i)))))))))), (5, .int (qV B t (qE B t (qE B t (qE B t (qE B t (qE B t (qE B t i)))))))), (4, .int (qV B t (qE B t (qE B t (qE B t (qE B t i)))))), (3, .int 30), (2, .int (nI r)), (0, .ref (eA E 49)), (1, .int kd)]) C dX4_personItem_202 (by decide) rfl ?_
                                          refine gx_aload_n C dX4_personItem_204 (by rfl) (by rfl) ?_
                                          refine gx_iload C dX4_personItem_205 (by rfl) ?_
                                          refine gx_iconst (v := 2) C dX4_personItem_207 (by decide) ?_
                                          refine gx_iload_n C dX4_personItem_208 (by rfl) (by rfl) ?_
                                          refine gx_callVV (As := [.int (nI (nn K)), .int 2, .int 30]) (rest := []) C (c_X4_makes E σ181 (nn K) (by omega) 2 (by omega) 30) z_X4_makes ck4 (by rfl) (by rfl) ml_X4_87 (by rfl) (Nat.le_of_ble_eq_true rfl) ⟨Nat.le_of_ble_eq_true rfl, Nat.le_of_ble_eq_true rfl⟩ dX4_personItem_209 (fun σ183 w183 => ?_)
                                          rw [w183]; clear w183
                                          have hM182 : vM (up2 σ181 50 (15 + 7 * (nn K) + 2) 30) 50 = up2 (adK K kd (nI r)) 3 (nn K) 30 := by rw [vM_mk (by omega) (by omega), hM181]
                                          refine gx_aload_n C dX4_personItem_212 (by rfl) (by rfl) ?_
                                          refine gx_iload C dX4_personItem_213 (by rfl) ?_
                                          refine gx_iconst (v := 3) C dX4_personItem_215 (by decide) ?_
                                          refine gx_iload C dX4_personItem_216 (by rfl) ?_
                                          refine gx_callVV (As := [.int (nI (nn K)), .int 3, .int (qV B t (qE B t (qE B t (qE B t (qE B t i)))))]) (rest := []) C (c_X4_makes E (up2 σ181 50 (15 + 7 * (nn K) + 2) 30) (nn K) (by omega) 3 (by omega) (qV B t (qE B t (qE B t (qE B t (qE B t i)))))) z_X4_makes ck4 (by rfl) (by rfl) ml_X4_87 (by rfl) (Nat.le_of_ble_eq_true rfl) ⟨Nat.le_of_ble_eq_true rfl, Nat.le_of_ble_eq_true rfl⟩ dX4_personItem_218 (fun σ185 w185 => ?_)
                                          rw [w185]; clear w185
                                          have hM184 : vM (up2 (up2 σ181 50 (15 + 7 * (nn K) + 2) 30) 50 (15 + 7 * (nn K) + 3) (qV B t (qE B t (qE B t (qE B t (qE B t i)))))) 50 = up2 (up2 (adK K kd (nI r)) 3 (nn K) 30) 4 (nn K) (qV B t (qE B t (qE B t (qE B t (qE B t i))))) := by rw [vM_mk (by omega) (by omega), hM182]
                                          refine gx_aload_n C dX4_personItem_221 (by rfl) (by rfl) ?_
                                          refine gx_iload C dX4_personItem_222 (by rfl) ?_
                                          refine gx_iconst (v := 4) C dX4_personItem_224 (by decide) ?_
                                          refine gx_iload C dX4_personItem_225 (by rfl) ?_
                                          refine gx_callVV (As := [.int (nI (nn K)), .int 4, .int (qV B t (qE B t (qE B t (qE B t (qE B t (qE B t (qE B t i)))))))]) (rest := []) C (c_X4_makes E (up2 (up2 σ181 50 (15 + 7 * (nn K) + 2) 30) 50 (15 + 7 * (nn K) + 3) (qV B t (qE B t (qE B t (qE B t (qE B t i)))))) (nn K) (by omega) 4 (by omega) (qV B t (qE B t (qE B t (qE B t (qE B t (qE B t (qE B t i)))))))) z_X4_makes ck4 (by rfl) (by rfl) ml_X4_87 (by rfl) (Nat.le_of_ble_eq_true rfl) ⟨Nat.le_of_ble_eq_true rfl, Nat.le_of_ble_eq_true rfl⟩ dX4_personItem_227 (fun σ187 w187 => ?_)
                                          rw [w187]; clear w187
                                          have hM186 : vM (up2 (up2 (up2 σ181 50 (15 + 7 * (nn K) + 2) 30) 50 (15 + 7 * (nn K) + 3) (qV B t (qE B t (qE B t (qE B t (qE B t i)))))) 50 (15 + 7 * (nn K) + 4) (qV B t (qE B t (qE B t (qE B t (qE B t (qE B t (qE B t i)))))))) 50 = up2 (up2 (up2 (adK K kd (nI r)) 3 (nn K) 30) 4 (nn K) (qV B t (qE B t (qE B t (qE B t (qE B t i)))))) 5 (nn K) (qV B t (qE B t (qE B t (qE B t (qE B t (qE B t (qE B t i))))))) := by rw [vM_mk (by omega) (by omega), hM184]
                                          refine gx_aload_n C dX4_personItem_230 (by rfl) (by rfl) ?_
                                          refine gx_iload C dX4_personItem_231 (by rfl) ?_
                                          refine gx_iconst (v := 5) C dX4_personItem_233 (by decide) ?_
                                          refine gx_iload C dX4_personItem_234 (by rfl) ?_
                                          refine gx_callVV (As := [.int (nI (nn K)), .int 5, .int (qV B t (qE B t (qE B t (qE B t (qE B t (qE B t (qE B t (qE B t (qE B t i)))))))))]) (rest := []) C (c_X4_makes E (up2 (up2 (up2 σ181 50 (15 + 7 * (nn K) + 2) 30) 50 (15 + 7 * (nn K) + 3) (qV B t (qE B t (qE B t (qE B t (qE B t i)))))) 50 (15 + 7 * (nn K) + 4) (qV B t (qE B t (qE B t (qE B t (qE B t (qE B t (qE B t i)))))))) (nn K) (by omega) 5 (by omega) (qV B t (qE B t (qE B t (qE B t (qE B t (qE B t (qE B t (qE B t (qE B t i)))))))))) z_X4_makes ck4 (by rfl) (by rfl) ml_X4_87 (by rfl) (Nat.le_of_ble_eq_true rfl) ⟨Nat.le_of_ble_eq_true rfl, Nat.le_of_ble_eq_true rfl⟩ dX4_personItem_236 (fun σ189 w189 => ?_)
                                          rw [w189]; clear w189
                                          have hM188 : vM (up2 (up2 (up2 (up2 σ181 50 (15 + 7 * (nn K) + 2) 30) 50 (15 + 7 * (nn K) + 3) (qV B t (qE B t (qE B t (qE B t (qE B t i)))))) 50 (15 + 7 * (nn K) + 4) (qV B t (qE B t (qE B t (qE B t (qE B t (qE B t (qE B t i)))))))) 50 (15 + 7 * (nn K) + 5) (qV B t (qE B t (qE B t (qE B t (qE B t (qE B t (qE B t (qE B t (qE B t i)))))))))) 50 = up2 (up2 (up2 (up2 (adK K kd (nI r)) 3 (nn K) 30) 4 (nn K) (qV B t (qE B t (qE B t (qE B t (qE B t i)))))) 5 (nn K) (qV B t (qE B t (qE B t (qE B t (qE B t (qE B t (qE B t i)))))))) 6 (nn K) (qV B t (qE B t (qE B t (qE B t (qE B t (qE B t (qE B t (qE B t (qE B t i))))))))) := by rw [vM_mk (by omega) (by omega), hM186]
                                          have ed1 : dtR B t 13 3 (nn K) 99 (adK K kd (nI r)) (qE B t (qE B t (qE B t i))) = (some (up2 (adK K kd (nI r)) 3 (nn K) 30), qE B t (qE B t (qE B t i))) := dt_u hc36 (by exact ad_n.1)
                                          have ed2 : dtR B t 14 4 (nn K) 3 (up2 (adK K kd (nI r)) 3 (nn K) 30) (qE B t (qE B t (qE B t i))) = (some (up2 (up2 (adK K kd (nI r)) 3 (nn K) 30) 4 (nn K) (qV B t (qE B t (qE B t (qE B t (qE B t i)))))), qE B t (qE B t (qE B t (qE B t (qE B t i))))) := dt_t hc171 hc173
                                          have ed3 : dtR B t 15 5 (nn K) 9999 (up2 (up2 (adK K kd (nI r)) 3 (nn K) 30) 4 (nn K) (qV B t (qE B t (qE B t (qE B t (qE B t i)))))) (qE B t (qE B t (qE B t (qE B t (qE B t i))))) = (some (up2 (up2 (up2 (adK K kd (nI r)) 3 (nn K) 30) 4 (nn K) (qV B t (qE B t (qE B t (qE B t (qE B t i)))))) 5 (nn K) (qV B t (qE B t (qE B t (qE B t (qE B t (qE B t (qE B t i)))))))), qE B t (qE B t (qE B t (qE B t (qE B t (qE B t (qE B t i))))))) := dt_t hc174 hc176
                                          have ed4 : dtR B t 16 6 (nn K) (nI (nn K) - 1) (up2 (up2 (up2 (adK K kd (nI r)) 3 (nn K) 30) 4 (nn K) (qV B t (qE B t (qE B t (qE B t (qE B t i)))))) 5 (nn K) (qV B t (qE B t (qE B t (qE B t (qE B t (qE B t (qE B t i)))))))) (qE B t (qE B t (qE B t (qE B t (qE B t (qE B t (qE B t i))))))) = (some (up2 (up2 (up2 (up2 (adK K kd (nI r)) 3 (nn K) 30) 4 (nn K) (qV B t (qE B t (qE B t (qE B t (qE B t i)))))) 5 (nn K) (qV B t (qE B t (qE B t (qE B t (qE B t (qE B t (qE B t i)))))))) 6 (nn K) (qV B t (qE B t (qE B t (qE B t (qE B t (qE B t (qE B t (qE B t (qE B t i)))))))))), qE B t (qE B t (qE B t (qE B t (qE B t (qE B t (qE B t (qE B t (qE B t i))))))))) := dt_t hc177 hc179
                                          exact gx_vret C hr hlk (MTR.yes1 Fm.rf hP (((((F1.rf.tr hF181).up).up).up).up) hM188 (by unfold psR; rw [if_pos ⟨hk0, by omega⟩]; unfold ps1; rw [if_pos hc7]; unfold ps2; rw [er, cr, if_pos ⟨hc35, hS⟩]; unfold psD; simp only [ed1, ed2, ed3, ed4, bdR_s, bdR_n])) dX4_personItem_239
                                        ·
                                          exact absurd h180 (by decide)
                                      ·
                                        obtain ⟨er179, wa179, wb179⟩ := w179
                                        obtain rfl := wb179 hc179
                                        refine gx_st (st' := [.int (qV B t (qE B t (qE B t (qE B t (qE B t (qE B t (qE B t (qE B t (qE B t i)))))))))]) (by rw [er179]) ?_
                                        refine gx_goto (tgt := 186) C dX4_personItem_182 (by decide) ?_
                                        refine gx_istore (lv2 := [(6, .int (qV B t (qE B t (qE B t (qE B t (qE B t (qE B t (qE B t (qE B t (qE B t i)))))))))), (5, .int (qV B t (qE B t (qE B t (qE B t (qE B t (qE B t (qE B t i)))))))), (4, .int (qV B t (qE B t (qE B t (qE B t (qE B t i)))))), (3, .int 30), (2, .int (nI r)), (0, .ref (eA E 49)), (1, .int kd)]) C dX4_personItem_186 (by decide) rfl ?_
                                        refine gx_aload_n C dX4_personItem_188 (by rfl) (by rfl) ?_
                                        refine gx_geti (k := 12) C ck4 (by rfl) (by rfl) (by decide) fl_X4_218 dX4_personItem_189 ?_
                                        refine gx_st (st' := [.int 1]) (by rw [mq_12]) ?_
                                        refine gx_if_eq (tgt := 196) C dX4_personItem_192 (by decide) (fun h190 => ?_) (fun h190 => ?_)
                                        ·
                                          exact absurd h190 (by decide)
                                        ·
                                          clear h190
                                          have ed1 : dtR B t 13 3 (nn K) 99 (adK K kd (nI r)) (qE B t (qE B t (qE B t i))) = (some (up2 (adK K kd (nI r)) 3 (nn K) 30), qE B t (qE B t (qE B t i))) := dt_u hc36 (by exact ad_n.1)
                                          have ed2 : dtR B t 14 4 (nn K) 3 (up2 (adK K kd (nI r)) 3 (nn K) 30) (qE B t (qE B t (qE B t i))) = (some (up2 (up2 (adK K kd (nI r)) 3 (nn K) 30) 4 (nn K) (qV B t (qE B t (qE B t (qE B t (qE B t i)))))), qE B t (qE B t (qE B t (qE B t (qE B t i))))) := dt_t hc171 hc173
                                          have ed3 : dtR B t 15 5 (nn K) 9999 (up2 (up2 (adK K kd (nI r)) 3 (nn K) 30) 4 (nn K) (qV B t (qE B t (qE B t (qE B t (qE B t i)))))) (qE B t (qE B t (qE B t (qE B t (qE B t i))))) = (some (up2 (up2 (up2 (adK K kd (nI r)) 3 (nn K) 30) 4 (nn K) (qV B t (qE B t (qE B t (qE B t (qE B t i)))))) 5 (nn K) (qV B t (qE B t (qE B t (qE B t (qE B t (qE B t (qE B t i)))))))), qE B t (qE B t (qE B t (qE B t (qE B t (qE B t (qE B t i))))))) := dt_t hc174 hc176
                                          have ed4 : dtR B t 16 6 (nn K) (nI (nn K) - 1) (up2 (up2 (up2 (adK K kd (nI r)) 3 (nn K) 30) 4 (nn K) (qV B t (qE B t (qE B t (qE B t (qE B t i)))))) 5 (nn K) (qV B t (qE B t (qE B t (qE B t (qE B t (qE B t (qE B t i)))))))) (qE B t (qE B t (qE B t (qE B t (qE B t (qE B t (qE B t i))))))) = (none, qE B t (qE B t (qE B t (qE B t (qE B t (qE B t (qE B t (qE B t i)))))))) := dt_b hc177 hc179
                                          exact gx_vret C hr hlk (MTR.no Fm.rf hP (by unfold psR; rw [if_pos ⟨hk0, by omega⟩]; unfold ps1; rw [if_pos hc7]; unfold ps2; rw [er, cr, if_pos ⟨hc35, hS⟩]; unfold psD; simp only [ed1, ed2, ed3, ed4, bdR_s, bdR_n])) dX4_personItem_195
                                  ·
                                    obtain ⟨rfl, rfl⟩ := w177.2 hc177
                                    refine gx_if_eq (tgt := 185) C dX4_personItem_164 (by decide) (fun h191 => ?_) (fun h191 => ?_)
                                    ·
                                      clear h191
                                      refine gx_iconst (v := (-1)) C dX4_personItem_185 (by decide) ?_
                                      refine gx_istore (lv2 := [(6, .int (-1)), (5, .int (qV B t (qE B t (qE B t (qE B t (qE B t (qE B t (qE B t i)))))))), (4, .int (qV B t (qE B t (qE B t (qE B t (qE B t i)))))), (3, .int 30), (2, .int (nI r)), (0, .ref (eA E 49)), (1, .int kd)]) C dX4_personItem_186 (by decide) rfl ?_
                                      refine gx_aload_n C dX4_personItem_188 (by rfl) (by rfl) ?_
                                      refine gx_geti (k := 12) C ck4 (by rfl) (by rfl) (by decide) fl_X4_218 dX4_personItem_189 ?_
                                      refine gx_st (st' := [.int 0]) (by rw [mq_12]) ?_
                                      refine gx_if_eq (tgt := 196) C dX4_personItem_192 (by decide) (fun h192 => ?_) (fun h192 => ?_)
                                      ·
                                        clear h192
                                        refine gx_aload_n C dX4_personItem_196 (by rfl) (by rfl) ?_
                                        refine gx_iload_n C dX4_personItem_197 (by rfl) (by rfl) ?_
                                        refine gx_iload_n C dX4_personItem_198 (by rfl) (by rfl) ?_
                                        refine gx_callVI (As := [.int kd, .int (nI r)]) (rest := []) C (c_X4_comes E (mq σ B t (qE B t (qE B t (qE B t (qE B t (qE B t (qE B t (qE B t i))))))) 0) K (vM_mq.trans hM : vM (mq σ B t (qE B t (qE B t (qE B t (qE B t (qE B t (qE B t (qE B t i))))))) 0) 50 = K) hO kd (nI r) (by omega)) z_X4_comes ck4 (by rfl) (by rfl) ml_X4_98 (by rfl) (Nat.le_of_ble_eq_true rfl) ⟨Nat.le_of_ble_eq_true rfl, Nat.le_of_ble_eq_true rfl⟩ dX4_personItem_199 (fun r193 σ193 w193 => ?_)
                                        obtain ⟨er193, hM193, hF193⟩ := w193
                                        refine gx_st (st' := [.int (nI (nn K))]) (by rw [er193]) ?_
                                        refine gx_istore (lv2 := [(7, .int (nI (nn K))), (6, .int (-1)), (5, .int (qV B t (qE B t (qE B t (qE B t (qE B t (qE B t (qE B t i)))))))), (4, .int (qV B t (qE B t (qE B t (qE B t (qE B t i)))))), (3, .int 30), (2, .int (nI r)), (0, .ref (eA E 49)), (1, .int kd)]) C dX4_personItem_202 (by decide) rfl ?_
                                        refine gx_aload_n C dX4_personItem_204 (by rfl) (by rfl) ?_
                                        refine gx_iload C dX4_personItem_205 (by rfl) ?_
                                        refine gx_iconst (v := 2) C dX4_personItem_207 (by decide) ?_
                                        refine gx_iload_n C dX4_personItem_208 (by rfl) (by rfl) ?_
                                        refine gx_callVV (As := [.int (nI (nn K)), .int 2, .int 30]) (rest := []) C (c_X4_makes E σ193 (nn K) (by omega) 2 (by omega) 30) z_X4_makes ck4 (by rfl) (by rfl) ml_X4_87 (by rfl) (Nat.le_of_ble_eq_true rfl) ⟨Nat.le_of_ble_eq_true rfl, Nat.le_of_ble_eq_true rfl⟩ dX4_personItem_209 (fun σ195 w195 => ?_)
                                        rw [w195]; clear w195
                                        have hM194 : vM (up2 σ193 50 (15 + 7 * (nn K) + 2) 30) 50 = up2 (adK K kd (nI r)) 3 (nn K) 30 := by rw [vM_mk (by omega) (by omega), hM193]
                                        refine gx_aload_n C dX4_personItem_212 (by rfl) (by rfl) ?_
                                        refine gx_iload C dX4_personItem_213 (by rfl) ?_
                                        refine gx_iconst (v := 3) C dX4_personItem_215 (by decide) ?_
                                        refine gx_iload C dX4_personItem_216 (by rfl) ?_
                                        refine gx_callVV (As := [.int (nI (nn K)), .int 3, .int (qV B t (qE B t (qE B t (qE B t (qE B t i)))))]) (rest := []) C (c_X4_makes E (up2 σ193 50 (15 + 7 * (nn K) + 2) 30) (nn K) (by omega) 3 (by omega) (qV B t (qE B t (qE B t (qE B t (qE B t i)))))) z_X4_makes ck4 (by rfl) (by rfl) ml_X4_87 (by rfl) (Nat.le_of_ble_eq_true rfl) ⟨Nat.le_of_ble_eq_true rfl, Nat.le_of_ble_eq_true rfl⟩ dX4_personItem_218 (fun σ197 w197 => ?_)
                                        rw [w197]; clear w197
                                        have hM196 : vM (up2 (up2 σ193 50 (15 + 7 * (nn K) + 2) 30) 50 (15 + 7 * (nn K) + 3) (qV B t (qE B t (qE B t (qE B t (qE B t i)))))) 50 = up2 (up2 (adK K kd (nI r)) 3 (nn K) 30) 4 (nn K) (qV B t (qE B t (qE B t (qE B t (qE B t i))))) := by rw [vM_mk (by omega) (by omega), hM194]
                                        refine gx_aload_n C dX4_personItem_221 (by rfl) (by rfl) ?_
                                        refine gx_iload C dX4_personItem_222 (by rfl) ?_
                                        refine gx_iconst (v := 4) C dX4_personItem_224 (by decide) ?_
                                        refine gx_iload C dX4_personItem_225 (by rfl) ?_
                                        refine gx_callVV (As := [.int (nI (nn K)), .int 4, .int (qV B t (qE B t (qE B t (qE B t (qE B t (qE B t (qE B t i)))))))]) (rest := []) C (c_X4_makes E (up2 (up2 σ193 50 (15 + 7 * (nn K) + 2) 30) 50 (15 + 7 * (nn K) + 3) (qV B t (qE B t (qE B t (qE B t (qE B t i)))))) (nn K) (by omega) 4 (by omega) (qV B t (qE B t (qE B t (qE B t (qE B t (qE B t (qE B t i)))))))) z_X4_makes ck4 (by rfl) (by rfl) ml_X4_87 (by rfl) (Nat.le_of_ble_eq_true rfl) ⟨Nat.le_of_ble_eq_true rfl, Nat.le_of_ble_eq_true rfl⟩ dX4_personItem_227 (fun σ199 w199 => ?_)
                                        rw [w199]; clear w199
                                        have hM198 : vM (up2 (up2 (up2 σ193 50 (15 + 7 * (nn K) + 2) 30) 50 (15 + 7 * (nn K) + 3) (qV B t (qE B t (qE B t (qE B t (qE B t i)))))) 50 (15 + 7 * (nn K) + 4) (qV B t (qE B t (qE B t (qE B t (qE B t (qE B t (qE B t i)))))))) 50 = up2 (up2 (up2 (adK K kd (nI r)) 3 (nn K) 30) 4 (nn K) (qV B t (qE B t (qE B t (qE B t (qE B t i)))))) 5 (nn K) (qV B t (qE B t (qE B t (qE B t (qE B t (qE B t (qE B t i))))))) := by rw [vM_mk (by omega) (by omega), hM196]
                                        refine gx_aload_n C dX4_personItem_230 (by rfl) (by rfl) ?_
                                        refine gx_iload C dX4_personItem_231 (by rfl) ?_
                                        refine gx_iconst (v := 5) C dX4_personItem_233 (by decide) ?_
                                        refine gx_iload C dX4_personItem_234 (by rfl) ?_
                                        refine gx_callVV (As := [.int (nI (nn K)), .int 5, .int (-1)]) (rest := []) C (c_X4_makes E (up2 (up2 (up2 σ193 50 (15 + 7 * (nn K) + 2) 30) 50 (15 + 7 * (nn K) + 3) (qV B t (qE B t (qE B t (qE B t (qE B t i)))))) 50 (15 + 7 * (nn K) + 4) (qV B t (qE B t (qE B t (qE B t (qE B t (qE B t (qE B t i)))))))) (nn K) (by omega) 5 (by omega) (-1)) z_X4_makes ck4 (by rfl) (by rfl) ml_X4_87 (by rfl) (Nat.le_of_ble_eq_true rfl) ⟨Nat.le_of_ble_eq_true rfl, Nat.le_of_ble_eq_true rfl⟩ dX4_personItem_236 (fun σ201 w201 => ?_)
                                        rw [w201]; clear w201
                                        have hM200 : vM (up2 (up2 (up2 (up2 σ193 50 (15 + 7 * (nn K) + 2) 30) 50 (15 + 7 * (nn K) + 3) (qV B t (qE B t (qE B t (qE B t (qE B t i)))))) 50 (15 + 7 * (nn K) + 4) (qV B t (qE B t (qE B t (qE B t (qE B t (qE B t (qE B t i)))))))) 50 (15 + 7 * (nn K) + 5) (-1)) 50 = up2 (up2 (up2 (up2 (adK K kd (nI r)) 3 (nn K) 30) 4 (nn K) (qV B t (qE B t (qE B t (qE B t (qE B t i)))))) 5 (nn K) (qV B t (qE B t (qE B t (qE B t (qE B t (qE B t (qE B t i)))))))) 6 (nn K) (-1) := by rw [vM_mk (by omega) (by omega), hM198]
                                        have ed1 : dtR B t 13 3 (nn K) 99 (adK K kd (nI r)) (qE B t (qE B t (qE B t i))) = (some (up2 (adK K kd (nI r)) 3 (nn K) 30), qE B t (qE B t (qE B t i))) := dt_u hc36 (by exact ad_n.1)
                                        have ed2 : dtR B t 14 4 (nn K) 3 (up2 (adK K kd (nI r)) 3 (nn K) 30) (qE B t (qE B t (qE B t i))) = (some (up2 (up2 (adK K kd (nI r)) 3 (nn K) 30) 4 (nn K) (qV B t (qE B t (qE B t (qE B t (qE B t i)))))), qE B t (qE B t (qE B t (qE B t (qE B t i))))) := dt_t hc171 hc173
                                        have ed3 : dtR B t 15 5 (nn K) 9999 (up2 (up2 (adK K kd (nI r)) 3 (nn K) 30) 4 (nn K) (qV B t (qE B t (qE B t (qE B t (qE B t i)))))) (qE B t (qE B t (qE B t (qE B t (qE B t i))))) = (some (up2 (up2 (up2 (adK K kd (nI r)) 3 (nn K) 30) 4 (nn K) (qV B t (qE B t (qE B t (qE B t (qE B t i)))))) 5 (nn K) (qV B t (qE B t (qE B t (qE B t (qE B t (qE B t (qE B t i)))))))), qE B t (qE B t (qE B t (qE B t (qE B t (qE B t (qE B t i))))))) := dt_t hc174 hc176
                                        have ed4 : dtR B t 16 6 (nn K) (nI (nn K) - 1) (up2 (up2 (up2 (adK K kd (nI r)) 3 (nn K) 30) 4 (nn K) (qV B t (qE B t (qE B t (qE B t (qE B t i)))))) 5 (nn K) (qV B t (qE B t (qE B t (qE B t (qE B t (qE B t (qE B t i)))))))) (qE B t (qE B t (qE B t (qE B t (qE B t (qE B t (qE B t i))))))) = (some (up2 (up2 (up2 (up2 (adK K kd (nI r)) 3 (nn K) 30) 4 (nn K) (qV B t (qE B t (qE B t (qE B t (qE B t i)))))) 5 (nn K) (qV B t (qE B t (qE B t (qE B t (qE B t (qE B t (qE B t i)))))))) 6 (nn K) (-1)), qE B t (qE B t (qE B t (qE B t (qE B t (qE B t (qE B t i))))))) := dt_u hc177 (by rw [up2_up, if_neg (by omega)]; rw [up2_up, if_neg (by omega)]; rw [up2_up, if_neg (by omega)]; exact ad_n.2.2.2)
                                        exact gx_vret C hr hlk (MTR.yes1 Fm.rf hP (((((F1.rf.tr hF193).up).up).up).up) hM200 (by unfold psR; rw [if_pos ⟨hk0, by omega⟩]; unfold ps1; rw [if_pos hc7]; unfold ps2; rw [er, cr, if_pos ⟨hc35, hS⟩]; unfold psD; simp only [ed1, ed2, ed3, ed4, bdR_s, bdR_n])) dX4_personItem_239
                                      ·
                                        exact absurd h192 (by decide)
                                    ·
                                      exact absurd h191 (by decide)
                                ·
                                  obtain ⟨er176, wa176, wb176⟩ := w176
                                  obtain rfl := wb176 hc176
                                  refine gx_st (st' := [.int (qV B t (qE B t (qE B t (qE B t (qE B t (qE B t (qE B t i)))))))]) (by rw [er176]) ?_
                                  refine gx_goto (tgt := 155) C dX4_personItem_150 (by decide) ?_
                                  refine gx_istore (lv2 := [(5, .int (qV B t (qE B t (qE B t (qE B t (qE B t (qE B t (qE B t i)))))))), (4, .int (qV B t (qE B t (qE B t (qE B t (qE B t i)))))), (3, .int 30), (2, .int (nI r)), (0, .ref (eA E 49)), (1, .int kd)]) C dX4_personItem_155 (by decide) rfl ?_
                                  refine gx_aload_n C dX4_personItem_157 (by rfl) (by rfl) ?_
                                  refine gx_ldcwS 33 C rfl dX4_personItem_158 ?_
                                  refine gx_callVI (As := [.ref (eZ E (100 + 33))]) (rest := []) C (c_X4_takes_b E σ B t hP (qE B t (qE B t (qE B t (qE B t (qE B t (qE B t i)))))) (qE_le (B := B) (qE_le (B := B) (qE_le (B := B) (qE_le (B := B) (qE_le (B := B) (qE_le (B := B) hi)))))) 16 33 (by decide) rfl) z_X4_takes ck4 (by rfl) (by rfl) ml_X4_238 (by rfl) (Nat.le_of_ble_eq_true rfl) ⟨Nat.le_of_ble_eq_true rfl, Nat.le_of_ble_eq_true rfl⟩ dX4_personItem_161 (fun r202 σ202 w202 => ?_)
                                  obtain ⟨u1, u2⟩ := w202; rw [u1, u2]; clear u1 u2
                                  refine gx_if_eq (tgt := 185) C dX4_personItem_164 (by decide) (fun h203 => ?_) (fun h203 => ?_)
                                  ·
                                    clear h203
                                    refine gx_iconst (v := (-1)) C dX4_personItem_185 (by decide) ?_
                                    refine gx_istore (lv2 := [(6, .int (-1)), (5, .int (qV B t (qE B t (qE B t (qE B t (qE B t (qE B t (qE B t i)))))))), (4, .int (qV B t (qE B t (qE B t (qE B t (qE B t i)))))), (3, .int 30), (2, .int (nI r)), (0, .ref (eA E 49)), (1, .int kd)]) C dX4_personItem_186 (by decide) rfl ?_
                                    refine gx_aload_n C dX4_personItem_188 (by rfl) (by rfl) ?_
                                    refine gx_geti (k := 12) C ck4 (by rfl) (by rfl) (by decide) fl_X4_218 dX4_personItem_189 ?_
                                    refine gx_st (st' := [.int 1]) (by rw [mq_12]) ?_
                                    refine gx_if_eq (tgt := 196) C dX4_personItem_192 (by decide) (fun h204 => ?_) (fun h204 => ?_)
                                    ·
                                      exact absurd h204 (by decide)
                                    ·
                                      clear h204
                                      have ed1 : dtR B t 13 3 (nn K) 99 (adK K kd (nI r)) (qE B t (qE B t (qE B t i))) = (some (up2 (adK K kd (nI r)) 3 (nn K) 30), qE B t (qE B t (qE B t i))) := dt_u hc36 (by exact ad_n.1)
                                      have ed2 : dtR B t 14 4 (nn K) 3 (up2 (adK K kd (nI r)) 3 (nn K) 30) (qE B t (qE B t (qE B t i))) = (some (up2 (up2 (adK K kd (nI r)) 3 (nn K) 30) 4 (nn K) (qV B t (qE B t (qE B t (qE B t (qE B t i)))))), qE B t (qE B t (qE B t (qE B t (qE B t i))))) := dt_t hc171 hc173
                                      have ed3 : dtR B t 15 5 (nn K) 9999 (up2 (up2 (adK K kd (nI r)) 3 (nn K) 30) 4 (nn K) (qV B t (qE B t (qE B t (qE B t (qE B t i)))))) (qE B t (qE B t (qE B t (qE B t (qE B t i))))) = (none, qE B t (qE B t (qE B t (qE B t (qE B t (qE B t i)))))) := dt_b hc174 hc176
                                      exact gx_vret C hr hlk (MTR.no Fm.rf hP (by unfold psR; rw [if_pos ⟨hk0, by omega⟩]; unfold ps1; rw [if_pos hc7]; unfold ps2; rw [er, cr, if_pos ⟨hc35, hS⟩]; unfold psD; simp only [ed1, ed2, ed3, bdR_s, bdR_n])) dX4_personItem_195
                                  ·
                                    exact absurd h203 (by decide)
                            ·
                              obtain ⟨rfl, rfl⟩ := w174.2 hc174
                              refine gx_if_eq (tgt := 153) C dX4_personItem_138 (by decide) (fun h205 => ?_) (fun h205 => ?_)
                              ·
                                clear h205
                                refine gx_bipush (v := 100) C dX4_personItem_153 (by decide) ?_
                                refine gx_istore (lv2 := [(5, .int 100), (4, .int (qV B t (qE B t (qE B t (qE B t (qE B t i)))))), (3, .int 30), (2, .int (nI r)), (0, .ref (eA E 49)), (1, .int kd)]) C dX4_personItem_155 (by decide) rfl ?_
                                refine gx_aload_n C dX4_personItem_157 (by rfl) (by rfl) ?_
                                refine gx_ldcwS 33 C rfl dX4_personItem_158 ?_
                                refine gx_callVI (As := [.ref (eZ E (100 + 33))]) (rest := []) C (c_X4_takes E σ B t hP (qE B t (qE B t (qE B t (qE B t (qE B t i))))) (qE_le (B := B) (qE_le (B := B) (qE_le (B := B) (qE_le (B := B) (qE_le (B := B) hi))))) 16 33 (by decide) rfl) z_X4_takes ck4 (by rfl) (by rfl) ml_X4_238 (by rfl) (Nat.le_of_ble_eq_true rfl) ⟨Nat.le_of_ble_eq_true rfl, Nat.le_of_ble_eq_true rfl⟩ dX4_personItem_161 (fun r206 σ206 w206 => ?_)
                                by_cases hc206 : qW B t (qE B t (qE B t (qE B t (qE B t (qE B t i))))) 16 = true
                                ·
                                  obtain ⟨rfl, rfl⟩ := w206.1 hc206
                                  refine gx_if_eq (tgt := 185) C dX4_personItem_164 (by decide) (fun h207 => ?_) (fun h207 => ?_)
                                  ·
                                    exact absurd h207 (by decide)
                                  ·
                                    clear h207
                                    refine gx_aload_n C dX4_personItem_167 (by rfl) (by rfl) ?_
                                    refine gx_iconst (v := 0) C dX4_personItem_168 (by decide) ?_
                                    refine gx_aload_n C dX4_personItem_169 (by rfl) (by rfl) ?_
                                    refine gx_getr (j := 50) (k := 0) C ck4 (by rfl) (by rfl) (by decide) fl_X4_9 dX4_personItem_170 ?_
                                    refine gx_bipush (v := 6) C dX4_personItem_173 (by decide) ?_
                                    refine gx_ialdN (k := 6) C (by rfl) (by rfl) (by decide) (by decide) dX4_personItem_175 ?_
                                    refine gx_st (st' := [.int (nI (nn K)), .int 0, .ref (eA E 49)]) (by rw [mp_n (vM_mq.trans hM : vM (mq σ B t (qE B t (qE B t (qE B t (qE B t (qE B t (qE B t i)))))) 0) 50 = K), hO.1.1]) ?_
                                    refine gx_iconst (v := 1) C dX4_personItem_176 (by decide) ?_
                                    refine gx_isub C dX4_personItem_177 ?_
                                    refine gx_iconst (v := 1) C dX4_personItem_178 (by decide) ?_
                                    refine gx_callVI (As := [.int 0, .int ((nI (nn K)) - 1), .int 1]) (rest := []) C (c_X4_number E σ B t hP (qE B t (qE B t (qE B t (qE B t (qE B t (qE B t i)))))) (qE_le (B := B) (qE_le (B := B) (qE_le (B := B) (qE_le (B := B) (qE_le (B := B) (qE_le (B := B) hi)))))) 0 ((nI (nn K)) - 1)) z_X4_number ck4 (by rfl) (by rfl) ml_X4_260 (by rfl) (Nat.le_of_ble_eq_true rfl) ⟨Nat.le_of_ble_eq_true rfl, Nat.le_of_ble_eq_true rfl⟩ dX4_personItem_179 (fun r208 σ208 w208 => ?_)
                                    by_cases hc208 : qN B t (qE B t (qE B t (qE B t (qE B t (qE B t (qE B t i)))))) 0 ((nI (nn K)) - 1) = true
                                    ·
                                      obtain ⟨er208, wa208, wb208⟩ := w208
                                      obtain rfl := wa208 hc208
                                      refine gx_st (st' := [.int (qV B t (qE B t (qE B t (qE B t (qE B t (qE B t (qE B t i)))))))]) (by rw [er208]) ?_
                                      refine gx_goto (tgt := 186) C dX4_personItem_182 (by decide) ?_
                                      refine gx_istore (lv2 := [(6, .int (qV B t (qE B t (qE B t (qE B t (qE B t (qE B t (qE B t i)))))))), (5, .int 100), (4, .int (qV B t (qE B t (qE B t (qE B t (qE B t i)))))), (3, .int 30), (2, .int (nI r)), (0, .ref (eA E 49)), (1, .int kd)]) C dX4_personItem_186 (by decide) rfl ?_
                                      refine gx_aload_n C dX4_personItem_188 (by rfl) (by rfl) ?_
                                      refine gx_geti (k := 12) C ck4 (by rfl) (by rfl) (by decide) fl_X4_218 dX4_personItem_189 ?_
                                      refine gx_st (st' := [.int 0]) (by rw [mq_12]) ?_
                                      refine gx_if_eq (tgt := 196) C dX4_personItem_192 (by decide) (fun h209 => ?_) (fun h209 => ?_)
                                      ·
                                        clear h209
                                        refine gx_aload_n C dX4_personItem_196 (by rfl) (by rfl) ?_
                                        refine gx_iload_n C dX4_personItem_197 (by rfl) (by rfl) ?_
                                        refine gx_iload_n C dX4_personItem_198 (by rfl) (by rfl) ?_
                                        refine gx_callVI (As := [.int kd, .int (nI r)]) (rest := []) C (c_X4_comes E (mq σ B t (qE B t (qE B t (qE B t (qE B t (qE B t (qE B t (qE B t i))))))) 0) K (vM_mq.trans hM : vM (mq σ B t (qE B t (qE B t (qE B t (qE B t (qE B t (qE B t (qE B t i))))))) 0) 50 = K) hO kd (nI r) (by omega)) z_X4_comes ck4 (by rfl) (by rfl) ml_X4_98 (by rfl) (Nat.le_of_ble_eq_true rfl) ⟨Nat.le_of_ble_eq_true rfl, Nat.le_of_ble_eq_true rfl⟩ dX4_personItem_199 (fun r210 σ210 w210 => ?_)
                                        obtain ⟨er210, hM210, hF210⟩ := w210
                                        refine gx_st (st' := [.int (nI (nn K))]) (by rw [er210]) ?_
                                        refine gx_istore (lv2 := [(7, .int (nI (nn K))), (6, .int (qV B t (qE B t (qE B t (qE B t (qE B t (qE B t (qE B t i)))))))), (5, .int 100), (4, .int (qV B t (qE B t (qE B t (qE B t (qE B t i)))))), (3, .int 30), (2, .int (nI r)), (0, .ref (eA E 49)), (1, .int kd)]) C dX4_personItem_202 (by decide) rfl ?_
                                        refine gx_aload_n C dX4_personItem_204 (by rfl) (by rfl) ?_
                                        refine gx_iload C dX4_personItem_205 (by rfl) ?_
                                        refine gx_iconst (v := 2) C dX4_personItem_207 (by decide) ?_
                                        refine gx_iload_n C dX4_personItem_208 (by rfl) (by rfl) ?_
                                        refine gx_callVV (As := [.int (nI (nn K)), .int 2, .int 30]) (rest := []) C (c_X4_makes E σ210 (nn K) (by omega) 2 (by omega) 30) z_X4_makes ck4 (by rfl) (by rfl) ml_X4_87 (by rfl) (Nat.le_of_ble_eq_true rfl) ⟨Nat.le_of_ble_eq_true rfl, Nat.le_of_ble_eq_true rfl⟩ dX4_personItem_209 (fun σ212 w212 => ?_)
                                        rw [w212]; clear w212
                                        have hM211 : vM (up2 σ210 50 (15 + 7 * (nn K) + 2) 30) 50 = up2 (adK K kd (nI r)) 3 (nn K) 30 := by rw [vM_mk (by omega) (by omega), hM210]
                                        refine gx_aload_n C dX4_personItem_212 (by rfl) (by rfl) ?_
                                        refine gx_iload C dX4_personItem_213 (by rfl) ?_
                                        refine gx_iconst (v := 3) C dX4_personItem_215 (by decide) ?_
                                        refine gx_iload C dX4_personItem_216 (by rfl) ?_
                                        refine gx_callVV (As := [.int (nI (nn K)), .int 3, .int (qV B t (qE B t (qE B t (qE B t (qE B t i)))))]) (rest := []) C (c_X4_makes E (up2 σ210 50 (15 + 7 * (nn K) + 2) 30) (nn K) (by omega) 3 (by omega) (qV B t (qE B t (qE B t (qE B t (qE B t i)))))) z_X4_makes ck4 (by rfl) (by rfl) ml_X4_87 (by rfl) (Nat.le_of_ble_eq_true rfl) ⟨Nat.le_of_ble_eq_true rfl, Nat.le_of_ble_eq_true rfl⟩ dX4_personItem_218 (fun σ214 w214 => ?_)
                                        rw [w214]; clear w214
                                        have hM213 : vM (up2 (up2 σ210 50 (15 + 7 * (nn K) + 2) 30) 50 (15 + 7 * (nn K) + 3) (qV B t (qE B t (qE B t (qE B t (qE B t i)))))) 50 = up2 (up2 (adK K kd (nI r)) 3 (nn K) 30) 4 (nn K) (qV B t (qE B t (qE B t (qE B t (qE B t i))))) := by rw [vM_mk (by omega) (by omega), hM211]
                                        refine gx_aload_n C dX4_personItem_221 (by rfl) (by rfl) ?_
                                        refine gx_iload C dX4_personItem_222 (by rfl) ?_
                                        refine gx_iconst (v := 4) C dX4_personItem_224 (by decide) ?_
                                        refine gx_iload C dX4_personItem_225 (by rfl) ?_
                                        refine gx_callVV (As := [.int (nI (nn K)), .int 4, .int 100]) (rest := []) C (c_X4_makes E (up2 (up2 σ210 50 (15 + 7 * (nn K) + 2) 30) 50 (15 + 7 * (nn K) + 3) (qV B t (qE B t (qE B t (qE B t (qE B t i)))))) (nn K) (by omega) 4 (by omega) 100) z_X4_makes ck4 (by rfl) (by rfl) ml_X4_87 (by rfl) (Nat.le_of_ble_eq_true rfl) ⟨Nat.le_of_ble_eq_true rfl, Nat.le_of_ble_eq_true rfl⟩ dX4_personItem_227 (fun σ216 w216 => ?_)
                                        rw [w216]; clear w216
                                        have hM215 : vM (up2 (up2 (up2 σ210 50 (15 + 7 * (nn K) + 2) 30) 50 (15 + 7 * (nn K) + 3) (qV B t (qE B t (qE B t (qE B t (qE B t i)))))) 50 (15 + 7 * (nn K) + 4) 100) 50 = up2 (up2 (up2 (adK K kd (nI r)) 3 (nn K) 30) 4 (nn K) (qV B t (qE B t (qE B t (qE B t (qE B t i)))))) 5 (nn K) 100 := by rw [vM_mk (by omega) (by omega), hM213]
                                        refine gx_aload_n C dX4_personItem_230 (by rfl) (by rfl) ?_
                                        refine gx_iload C dX4_personItem_231 (by rfl) ?_
                                        refine gx_iconst (v := 5) C dX4_personItem_233 (by decide) ?_
                                        refine gx_iload C dX4_personItem_234 (by rfl) ?_
                                        refine gx_callVV (As := [.int (nI (nn K)), .int 5, .int (qV B t (qE B t (qE B t (qE B t (qE B t (qE B t (qE B t i)))))))]) (rest := []) C (c_X4_makes E (up2 (up2 (up2 σ210 50 (15 + 7 * (nn K) + 2) 30) 50 (15 + 7 * (nn K) + 3) (qV B t (qE B t (qE B t (qE B t (qE B t i)))))) 50 (15 + 7 * (nn K) + 4) 100) (nn K) (by omega) 5 (by omega) (qV B t (qE B t (qE B t (qE B t (qE B t (qE B t (qE B t i)))))))) z_X4_makes ck4 (by rfl) (by rfl) ml_X4_87 (by rfl) (Nat.le_of_ble_eq_true rfl) ⟨Nat.le_of_ble_eq_true rfl, Nat.le_of_ble_eq_true rfl⟩ dX4_personItem_236 (fun σ218 w218 => ?_)
                                        rw [w218]; clear w218
                                        have hM217 : vM (up2 (up2 (up2 (up2 σ210 50 (15 + 7 * (nn K) + 2) 30) 50 (15 + 7 * (nn K) + 3) (qV B t (qE B t (qE B t (qE B t (qE B t i)))))) 50 (15 + 7 * (nn K) + 4) 100) 50 (15 + 7 * (nn K) + 5) (qV B t (qE B t (qE B t (qE B t (qE B t (qE B t (qE B t i)))))))) 50 = up2 (up2 (up2 (up2 (adK K kd (nI r)) 3 (nn K) 30) 4 (nn K) (qV B t (qE B t (qE B t (qE B t (qE B t i)))))) 5 (nn K) 100) 6 (nn K) (qV B t (qE B t (qE B t (qE B t (qE B t (qE B t (qE B t i))))))) := by rw [vM_mk (by omega) (by omega), hM215]
                                        have ed1 : dtR B t 13 3 (nn K) 99 (adK K kd (nI r)) (qE B t (qE B t (qE B t i))) = (some (up2 (adK K kd (nI r)) 3 (nn K) 30), qE B t (qE B t (qE B t i))) := dt_u hc36 (by exact ad_n.1)
                                        have ed2 : dtR B t 14 4 (nn K) 3 (up2 (adK K kd (nI r)) 3 (nn K) 30) (qE B t (qE B t (qE B t i))) = (some (up2 (up2 (adK K kd (nI r)) 3 (nn K) 30) 4 (nn K) (qV B t (qE B t (qE B t (qE B t (qE B t i)))))), qE B t (qE B t (qE B t (qE B t (qE B t i))))) := dt_t hc171 hc173
                                        have ed3 : dtR B t 15 5 (nn K) 9999 (up2 (up2 (adK K kd (nI r)) 3 (nn K) 30) 4 (nn K) (qV B t (qE B t (qE B t (qE B t (qE B t i)))))) (qE B t (qE B t (qE B t (qE B t (qE B t i))))) = (some (up2 (up2 (up2 (adK K kd (nI r)) 3 (nn K) 30) 4 (nn K) (qV B t (qE B t (qE B t (qE B t (qE B t i)))))) 5 (nn K) 100), qE B t (qE B t (qE B t (qE B t (qE B t i))))) := dt_u hc174 (by rw [up2_up, if_neg (by omega)]; rw [up2_up, if_neg (by omega)]; exact ad_n.2.2.1)
                                        have ed4 : dtR B t 16 6 (nn K) (nI (nn K) - 1) (up2 (up2 (up2 (adK K kd (nI r)) 3 (nn K) 30) 4 (nn K) (qV B t (qE B t (qE B t (qE B t (qE B t i)))))) 5 (nn K) 100) (qE B t (qE B t (qE B t (qE B t (qE B t i))))) = (some (up2 (up2 (up2 (up2 (adK K kd (nI r)) 3 (nn K) 30) 4 (nn K) (qV B t (qE B t (qE B t (qE B t (qE B t i)))))) 5 (nn K) 100) 6 (nn K) (qV B t (qE B t (qE B t (qE B t (qE B t (qE B t (qE B t i)))))))), qE B t (qE B t (qE B t (qE B t (qE B t (qE B t (qE B t i))))))) := dt_t hc206 hc208
                                        exact gx_vret C hr hlk (MTR.yes1 Fm.rf hP (((((F1.rf.tr hF210).up).up).up).up) hM217 (by unfold psR; rw [if_pos ⟨hk0, by omega⟩]; unfold ps1; rw [if_pos hc7]; unfold ps2; rw [er, cr, if_pos ⟨hc35, hS⟩]; unfold psD; simp only [ed1, ed2, ed3, ed4, bdR_s, bdR_n])) dX4_personItem_239
                                      ·
                                        exact absurd h209 (by decide)
                                    ·
                                      obtain ⟨er208, wa208, wb208⟩ := w208
                                      obtain rfl := wb208 hc208
                                      refine gx_st (st' := [.int (qV B t (qE B t (qE B t (qE B t (qE B t (qE B t (qE B t i)))))))]) (by rw [er208]) ?_
                                      refine gx_goto (tgt := 186) C dX4_personItem_182 (by decide) ?_
                                      refine gx_istore (lv2 := [(6, .int (qV B t (qE B t (qE B t (qE B t (qE B t (qE B t (qE B t i)))))))), (5, .int 100), (4, .int (qV B t (qE B t (qE B t (qE B t (qE B t i)))))), (3, .int 30), (2, .int (nI r)), (0, .ref (eA E 49)), (1, .int kd)]) C dX4_personItem_186 (by decide) rfl ?_
                                      refine gx_aload_n C dX4_personItem_188 (by rfl) (by rfl) ?_
                                      refine gx_geti (k := 12) C ck4 (by rfl) (by rfl) (by decide) fl_X4_218 dX4_personItem_189 ?_
                                      refine gx_st (st' := [.int 1]) (by rw [mq_12]) ?_
                                      refine gx_if_eq (tgt := 196) C dX4_personItem_192 (by decide) (fun h219 => ?_) (fun h219 => ?_)
                                      ·
                                        exact absurd h219 (by decide)
                                      ·
                                        clear h219
                                        have ed1 : dtR B t 13 3 (nn K) 99 (adK K kd (nI r)) (qE B t (qE B t (qE B t i))) = (some (up2 (adK K kd (nI r)) 3 (nn K) 30), qE B t (qE B t (qE B t i))) := dt_u hc36 (by exact ad_n.1)
                                        have ed2 : dtR B t 14 4 (nn K) 3 (up2 (adK K kd (nI r)) 3 (nn K) 30) (qE B t (qE B t (qE B t i))) = (some (up2 (up2 (adK K kd (nI r)) 3 (nn K) 30) 4 (nn K) (qV B t (qE B t (qE B t (qE B t (qE B t i)))))), qE B t (qE B t (qE B t (qE B t (qE B t i))))) := dt_t hc171 hc173
                                        have ed3 : dtR B t 15 5 (nn K) 9999 (up2 (up2 (adK K kd (nI r)) 3 (nn K) 30) 4 (nn K) (qV B t (qE B t (qE B t (qE B t (qE B t i)))))) (qE B t (qE B t (qE B t (qE B t (qE B t i))))) = (some (up2 (up2 (up2 (adK K kd (nI r)) 3 (nn K) 30) 4 (nn K) (qV B t (qE B t (qE B t (qE B t (qE B t i)))))) 5 (nn K) 100), qE B t (qE B t (qE B t (qE B t (qE B t i))))) := dt_u hc174 (by rw [up2_up, if_neg (by omega)]; rw [up2_up, if_neg (by omega)]; exact ad_n.2.2.1)
                                        have ed4 : dtR B t 16 6 (nn K) (nI (nn K) - 1) (up2 (up2 (up2 (adK K kd (nI r)) 3 (nn K) 30) 4 (nn K) (qV B t (qE B t (qE B t (qE B t (qE B t i)))))) 5 (nn K) 100) (qE B t (qE B t (qE B t (qE B t (qE B t i))))) = (none, qE B t (qE B t (qE B t (qE B t (qE B t (qE B t i)))))) := dt_b hc206 hc208
                                        exact gx_vret C hr hlk (MTR.no Fm.rf hP (by unfold psR; rw [if_pos ⟨hk0, by omega⟩]; unfold ps1; rw [if_pos hc7]; unfold ps2; rw [er, cr, if_pos ⟨hc35, hS⟩]; unfold psD; simp only [ed1, ed2, ed3, ed4, bdR_s, bdR_n])) dX4_personItem_195
                                ·
                                  obtain ⟨rfl, rfl⟩ := w206.2 hc206
                                  refine gx_if_eq (tgt := 185) C dX4_personItem_164 (by decide) (fun h220 => ?_) (fun h220 => ?_)
                                  ·
                                    clear h220
                                    refine gx_iconst (v := (-1)) C dX4_personItem_185 (by decide) ?_
                                    refine gx_istore (lv2 := [(6, .int (-1)), (5, .int 100), (4, .int (qV B t (qE B t (qE B t (qE B t (qE B t i)))))), (3, .int 30), (2, .int (nI r)), (0, .ref (eA E 49)), (1, .int kd)]) C dX4_personItem_186 (by decide) rfl ?_
                                    refine gx_aload_n C dX4_personItem_188 (by rfl) (by rfl) ?_
                                    refine gx_geti (k := 12) C ck4 (by rfl) (by rfl) (by decide) fl_X4_218 dX4_personItem_189 ?_
                                    refine gx_st (st' := [.int 0]) (by rw [mq_12]) ?_
                                    refine gx_if_eq (tgt := 196) C dX4_personItem_192 (by decide) (fun h221 => ?_) (fun h221 => ?_)
                                    ·
                                      clear h221
                                      refine gx_aload_n C dX4_personItem_196 (by rfl) (by rfl) ?_
                                      refine gx_iload_n C dX4_personItem_197 (by rfl) (by rfl) ?_
                                      refine gx_iload_n C dX4_personItem_198 (by rfl) (by rfl) ?_
                                      refine gx_callVI (As := [.int kd, .int (nI r)]) (rest := []) C (c_X4_comes E (mq σ B t (qE B t (qE B t (qE B t (qE B t (qE B t i))))) 0) K (vM_mq.trans hM : vM (mq σ B t (qE B t (qE B t (qE B t (qE B t (qE B t i))))) 0) 50 = K) hO kd (nI r) (by omega)) z_X4_comes ck4 (by rfl) (by rfl) ml_X4_98 (by rfl) (Nat.le_of_ble_eq_true rfl) ⟨Nat.le_of_ble_eq_true rfl, Nat.le_of_ble_eq_true rfl⟩ dX4_personItem_199 (fun r222 σ222 w222 => ?_)
                                      obtain ⟨er222, hM222, hF222⟩ := w222
                                      refine gx_st (st' := [.int (nI (nn K))]) (by rw [er222]) ?_
                                      refine gx_istore (lv2 := [(7, .int (nI (nn K))), (6, .int (-1)), (5, .int 100), (4, .int (qV B t (qE B t (qE B t (qE B t (qE B t i)))))), (3, .int 30), (2, .int (nI r)), (0, .ref (eA E 49)), (1, .int kd)]) C dX4_personItem_202 (by decide) rfl ?_
                                      refine gx_aload_n C dX4_personItem_204 (by rfl) (by rfl) ?_
                                      refine gx_iload C dX4_personItem_205 (by rfl) ?_
                                      refine gx_iconst (v := 2) C dX4_personItem_207 (by decide) ?_
                                      refine gx_iload_n C dX4_personItem_208 (by rfl) (by rfl) ?_
                                      refine gx_callVV (As := [.int (nI (nn K)), .int 2, .int 30]) (rest := []) C (c_X4_makes E σ222 (nn K) (by omega) 2 (by omega) 30) z_X4_makes ck4 (by rfl) (by rfl) ml_X4_87 (by rfl) (Nat.le_of_ble_eq_true rfl) ⟨Nat.le_of_ble_eq_true rfl, Nat.le_of_ble_eq_true rfl⟩ dX4_personItem_209 (fun σ224 w224 => ?_)
                                      rw [w224]; clear w224
                                      have hM223 : vM (up2 σ222 50 (15 + 7 * (nn K) + 2) 30) 50 = up2 (adK K kd (nI r)) 3 (nn K) 30 := by rw [vM_mk (by omega) (by omega), hM222]
                                      refine gx_aload_n C dX4_personItem_212 (by rfl) (by rfl) ?_
                                      refine gx_iload C dX4_personItem_213 (by rfl) ?_
                                      refine gx_iconst (v := 3) C dX4_personItem_215 (by decide) ?_
                                      refine gx_iload C dX4_personItem_216 (by rfl) ?_
                                      refine gx_callVV (As := [.int (nI (nn K)), .int 3, .int (qV B t (qE B t (qE B t (qE B t (qE B t i)))))]) (rest := []) C (c_X4_makes E (up2 σ222 50 (15 + 7 * (nn K) + 2) 30) (nn K) (by omega) 3 (by omega) (qV B t (qE B t (qE B t (qE B t (qE B t i)))))) z_X4_makes ck4 (by rfl) (by rfl) ml_X4_87 (by rfl) (Nat.le_of_ble_eq_true rfl) ⟨Nat.le_of_ble_eq_true rfl, Nat.le_of_ble_eq_true rfl⟩ dX4_personItem_218 (fun σ226 w226 => ?_)
                                      rw [w226]; clear w226
                                      have hM225 : vM (up2 (up2 σ222 50 (15 + 7 * (nn K) + 2) 30) 50 (15 + 7 * (nn K) + 3) (qV B t (qE B t (qE B t (qE B t (qE B t i)))))) 50 = up2 (up2 (adK K kd (nI r)) 3 (nn K) 30) 4 (nn K) (qV B t (qE B t (qE B t (qE B t (qE B t i))))) := by rw [vM_mk (by omega) (by omega), hM223]
                                      refine gx_aload_n C dX4_personItem_221 (by rfl) (by rfl) ?_
                                      refine gx_iload C dX4_personItem_222 (by rfl) ?_
                                      refine gx_iconst (v := 4) C dX4_personItem_224 (by decide) ?_
                                      refine gx_iload C dX4_personItem_225 (by rfl) ?_
                                      refine gx_callVV (As := [.int (nI (nn K)), .int 4, .int 100]) (rest := []) C (c_X4_makes E (up2 (up2 σ222 50 (15 + 7 * (nn K) + 2) 30) 50 (15 + 7 * (nn K) + 3) (qV B t (qE B t (qE B t (qE B t (qE B t i)))))) (nn K) (by omega) 4 (by omega) 100) z_X4_makes ck4 (by rfl) (by rfl) ml_X4_87 (by rfl) (Nat.le_of_ble_eq_true rfl) ⟨Nat.le_of_ble_eq_true rfl, Nat.le_of_ble_eq_true rfl⟩ dX4_personItem_227 (fun σ228 w228 => ?_)
                                      rw [w228]; clear w228
                                      have hM227 : vM (up2 (up2 (up2 σ222 50 (15 + 7 * (nn K) + 2) 30) 50 (15 + 7 * (nn K) + 3) (qV B t (qE B t (qE B t (qE B t (qE B t i)))))) 50 (15 + 7 * (nn K) + 4) 100) 50 = up2 (up2 (up2 (adK K kd (nI r)) 3 (nn K) 30) 4 (nn K) (qV B t (qE B t (qE B t (qE B t (qE B t i)))))) 5 (nn K) 100 := by rw [vM_mk (by omega) (by omega), hM225]
                                      refine gx_aload_n C dX4_personItem_230 (by rfl) (by rfl) ?_
                                      refine gx_iload C dX4_personItem_231 (by rfl) ?_
                                      refine gx_iconst (v := 5) C dX4_personItem_233 (by decide) ?_
                                      refine gx_iload C dX4_personItem_234 (by rfl) ?_
                                      refine gx_callVV (As := [.int (nI (nn K)), .int 5, .int (-1)]) (rest := []) C (c_X4_makes E (up2 (up2 (up2 σ222 50 (15 + 7 * (nn K) + 2) 30) 50 (15 + 7 * (nn K) + 3) (qV B t (qE B t (qE B t (qE B t (qE B t i)))))) 50 (15 + 7 * (nn K) + 4) 100) (nn K) (by omega) 5 (by omega) (-1)) z_X4_makes ck4 (by rfl) (by rfl) ml_X4_87 (by rfl) (Nat.le_of_ble_eq_true rfl) ⟨Nat.le_of_ble_eq_true rfl, Nat.le_of_ble_eq_true rfl⟩ dX4_personItem_236 (fun σ230 w230 => ?_)
                                      rw [w230]; clear w230
                                      have hM229 : vM (up2 (up2 (up2 (up2 σ222 50 (15 + 7 * (nn K) + 2) 30) 50 (15 + 7 * (nn K) + 3) (qV B t (qE B t (qE B t (qE B t (qE B t i)))))) 50 (15 + 7 * (nn K) + 4) 100) 50 (15 + 7 * (nn K) + 5) (-1)) 50 = up2 (up2 (up2 (up2 (adK K kd (nI r)) 3 (nn K) 30) 4 (nn K) (qV B t (qE B t (qE B t (qE B t (qE B t i)))))) 5 (nn K) 100) 6 (nn K) (-1) := by rw [vM_mk (by omega) (by omega), hM227]
                                      have ed1 : dtR B t 13 3 (nn K) 99 (adK K kd (nI r)) (qE B t (qE B t (qE B t i))) = (some (up2 (adK K kd (nI r)) 3 (nn K) 30), qE B t (qE B t (qE B t i))) := dt_u hc36 (by exact ad_n.1)
                                      have ed2 : dtR B t 14 4 (nn K) 3 (up2 (adK K kd (nI r)) 3 (nn K) 30) (qE B t (qE B t (qE B t i))) = (some (up2 (up2 (adK K kd (nI r)) 3 (nn K) 30) 4 (nn K) (qV B t (qE B t (qE B t (qE B t (qE B t i)))))), qE B t (qE B t (qE B t (qE B t (qE B t i))))) := dt_t hc171 hc173
                                      have ed3 : dtR B t 15 5 (nn K) 9999 (up2 (up2 (adK K kd (nI r)) 3 (nn K) 30) 4 (nn K) (qV B t (qE B t (qE B t (qE B t (qE B t i)))))) (qE B t (qE B t (qE B t (qE B t (qE B t i))))) = (some (up2 (up2 (up2 (adK K kd (nI r)) 3 (nn K) 30) 4 (nn K) (qV B t (qE B t (qE B t (qE B t (qE B t i)))))) 5 (nn K) 100), qE B t (qE B t (qE B t (qE B t (qE B t i))))) := dt_u hc174 (by rw [up2_up, if_neg (by omega)]; rw [up2_up, if_neg (by omega)]; exact ad_n.2.2.1)
                                      have ed4 : dtR B t 16 6 (nn K) (nI (nn K) - 1) (up2 (up2 (up2 (adK K kd (nI r)) 3 (nn K) 30) 4 (nn K) (qV B t (qE B t (qE B t (qE B t (qE B t i)))))) 5 (nn K) 100) (qE B t (qE B t (qE B t (qE B t (qE B t i))))) = (some (up2 (up2 (up2 (up2 (adK K kd (nI r)) 3 (nn K) 30) 4 (nn K) (qV B t (qE B t (qE B t (qE B t (qE B t i)))))) 5 (nn K) 100) 6 (nn K) (-1)), qE B t (qE B t (qE B t (qE B t (qE B t i))))) := dt_u hc206 (by rw [up2_up, if_neg (by omega)]; rw [up2_up, if_neg (by omega)]; rw [up2_up, if_neg (by omega)]; exact ad_n.2.2.2)
                                      exact gx_vret C hr hlk (MTR.yes1 Fm.rf hP (((((F1.rf.tr hF222).up).up).up).up) hM229 (by unfold psR; rw [if_pos ⟨hk0, by omega⟩]; unfold ps1; rw [if_pos hc7]; unfold ps2; rw [er, cr, if_pos ⟨hc35, hS⟩]; unfold psD; simp only [ed1, ed2, ed3, ed4, bdR_s, bdR_n])) dX4_personItem_239
                                    ·
                                      exact absurd h221 (by decide)
                                  ·
                                    exact absurd h220 (by decide)
                              ·
                                exact absurd h205 (by decide)
                          ·
                            obtain ⟨er173, wa173, wb173⟩ := w173
                            obtain rfl := wb173 hc173
                            refine gx_st (st' := [.int (qV B t (qE B t (qE B t (qE B t (qE B t i)))))]) (by rw [er173]) ?_
                            refine gx_goto (tgt := 129) C dX4_personItem_125 (by decide) ?_
                            refine gx_istore (lv2 := [(4, .int (qV B t (qE B t (qE B t (qE B t (qE B t i)))))), (3, .int 30), (2, .int (nI r)), (0, .ref (eA E 49)), (1, .int kd)]) C dX4_personItem_129 (by decide) rfl ?_
                            refine gx_aload_n C dX4_personItem_131 (by rfl) (by rfl) ?_
                            refine gx_ldcwS 32 C rfl dX4_personItem_132 ?_
                            refine gx_callVI (As := [.ref (eZ E (100 + 32))]) (rest := []) C (c_X4_takes_b E σ B t hP (qE B t (qE B t (qE B t (qE B t i)))) (qE_le (B := B) (qE_le (B := B) (qE_le (B := B) (qE_le (B := B) hi)))) 15 32 (by decide) rfl) z_X4_takes ck4 (by rfl) (by rfl) ml_X4_238 (by rfl) (Nat.le_of_ble_eq_true rfl) ⟨Nat.le_of_ble_eq_true rfl, Nat.le_of_ble_eq_true rfl⟩ dX4_personItem_135 (fun r231 σ231 w231 => ?_)
                            obtain ⟨u1, u2⟩ := w231; rw [u1, u2]; clear u1 u2
                            refine gx_if_eq (tgt := 153) C dX4_personItem_138 (by decide) (fun h232 => ?_) (fun h232 => ?_)
                            ·
                              clear h232
                              refine gx_bipush (v := 100) C dX4_personItem_153 (by decide) ?_
                              refine gx_istore (lv2 := [(5, .int 100), (4, .int (qV B t (qE B t (qE B t (qE B t (qE B t i)))))), (3, .int 30), (2, .int (nI r)), (0, .ref (eA E 49)), (1, .int kd)]) C dX4_personItem_155 (by decide) rfl ?_
                              refine gx_aload_n C dX4_personItem_157 (by rfl) (by rfl) ?_
                              refine gx_ldcwS 33 C rfl dX4_personItem_158 ?_
                              refine gx_callVI (As := [.ref (eZ E (100 + 33))]) (rest := []) C (c_X4_takes_b E σ B t hP (qE B t (qE B t (qE B t (qE B t i)))) (qE_le (B := B) (qE_le (B := B) (qE_le (B := B) (qE_le (B := B) hi)))) 16 33 (by decide) rfl) z_X4_takes ck4 (by rfl) (by rfl) ml_X4_238 (by rfl) (Nat.le_of_ble_eq_true rfl) ⟨Nat.le_of_ble_eq_true rfl, Nat.le_of_ble_eq_true rfl⟩ dX4_personItem_161 (fun r233 σ233 w233 => ?_)
                              obtain ⟨u1, u2⟩ := w233; rw [u1, u2]; clear u1 u2
                              refine gx_if_eq (tgt := 185) C dX4_personItem_164 (by decide) (fun h234 => ?_) (fun h234 => ?_)
                              ·
                                clear h234
                                refine gx_iconst (v := (-1)) C dX4_personItem_185 (by decide) ?_
                                refine gx_istore (lv2 := [(6, .int (-1)), (5, .int 100), (4, .int (qV B t (qE B t (qE B t (qE B t (qE B t i)))))), (3, .int 30), (2, .int (nI r)), (0, .ref (eA E 49)), (1, .int kd)]) C dX4_personItem_186 (by decide) rfl ?_
                                refine gx_aload_n C dX4_personItem_188 (by rfl) (by rfl) ?_
                                refine gx_geti (k := 12) C ck4 (by rfl) (by rfl) (by decide) fl_X4_218 dX4_personItem_189 ?_
                                refine gx_st (st' := [.int 1]) (by rw [mq_12]) ?_
                                refine gx_if_eq (tgt := 196) C dX4_personItem_192 (by decide) (fun h235 => ?_) (fun h235 => ?_)
                                ·
                                  exact absurd h235 (by decide)
                                ·
                                  clear h235
                                  have ed1 : dtR B t 13 3 (nn K) 99 (adK K kd (nI r)) (qE B t (qE B t (qE B t i))) = (some (up2 (adK K kd (nI r)) 3 (nn K) 30), qE B t (qE B t (qE B t i))) := dt_u hc36 (by exact ad_n.1)
                                  have ed2 : dtR B t 14 4 (nn K) 3 (up2 (adK K kd (nI r)) 3 (nn K) 30) (qE B t (qE B t (qE B t i))) = (none, qE B t (qE B t (qE B t (qE B t i)))) := dt_b hc171 hc173
                                  exact gx_vret C hr hlk (MTR.no Fm.rf hP (by unfold psR; rw [if_pos ⟨hk0, by omega⟩]; unfold ps1; rw [if_pos hc7]; unfold ps2; rw [er, cr, if_pos ⟨hc35, hS⟩]; unfold psD; simp only [ed1, ed2, bdR_s, bdR_n])) dX4_personItem_195
                              ·
                                exact absurd h234 (by decide)
                            ·
                              exact absurd h232 (by decide)
                      ·
                        obtain ⟨rfl, rfl⟩ := w171.2 hc171
                        refine gx_if_eq (tgt := 128) C dX4_personItem_115 (by decide) (fun h236 => ?_) (fun h236 => ?_)
                        ·
                          clear h236
                          refine gx_iconst (v := 0) C dX4_personItem_128 (by decide) ?_
                          refine gx_istore (lv2 := [(4, .int 0), (3, .int 30), (2, .int (nI r)), (0, .ref (eA E 49)), (1, .int kd)]) C dX4_personItem_129 (by decide) rfl ?_
                          refine gx_aload_n C dX4_personItem_131 (by rfl) (by rfl) ?_
                          refine gx_ldcwS 32 C rfl dX4_personItem_132 ?_
                          refine gx_callVI (As := [.ref (eZ E (100 + 32))]) (rest := []) C (c_X4_takes E σ B t hP (qE B t (qE B t (qE B t i))) (qE_le (B := B) (qE_le (B := B) (qE_le (B := B) hi))) 15 32 (by decide) rfl) z_X4_takes ck4 (by rfl) (by rfl) ml_X4_238 (by rfl) (Nat.le_of_ble_eq_true rfl) ⟨Nat.le_of_ble_eq_true rfl, Nat.le_of_ble_eq_true rfl⟩ dX4_personItem_135 (fun r237 σ237 w237 => ?_)
                          by_cases hc237 : qW B t (qE B t (qE B t (qE B t i))) 15 = true
                          ·
                            obtain ⟨rfl, rfl⟩ := w237.1 hc237
                            refine gx_if_eq (tgt := 153) C dX4_personItem_138 (by decide) (fun h238 => ?_) (fun h238 => ?_)
                            ·
                              exact absurd h238 (by decide)
                            ·
                              clear h238
                              refine gx_aload_n C dX4_personItem_141 (by rfl) (by rfl) ?_
                              refine gx_iconst (v := 0) C dX4_personItem_142 (by decide) ?_
                              refine gx_sipush (v := 9999) C dX4_personItem_143 (by decide) ?_
                              refine gx_iconst (v := 1) C dX4_personItem_146 (by decide) ?_
                              refine gx_callVI (As := [.int 0, .int 9999, .int 1]) (rest := []) C (c_X4_number E σ B t hP (qE B t (qE B t (qE B t (qE B t i)))) (qE_le (B := B) (qE_le (B := B) (qE_le (B := B) (qE_le (B := B) hi)))) 0 9999) z_X4_number ck4 (by rfl) (by rfl) ml_X4_260 (by rfl) (Nat.le_of_ble_eq_true rfl) ⟨Nat.le_of_ble_eq_true rfl, Nat.le_of_ble_eq_true rfl⟩ dX4_personItem_147 (fun r239 σ239 w239 => ?_)
                              by_cases hc239 : qN B t (qE B t (qE B t (qE B t (qE B t i)))) 0 9999 = true
                              ·
                                obtain ⟨er239, wa239, wb239⟩ := w239
                                obtain rfl := wa239 hc239
                                refine gx_st (st' := [.int (qV B t (qE B t (qE B t (qE B t (qE B t i)))))]) (by rw [er239]) ?_
                                refine gx_goto (tgt := 155) C dX4_personItem_150 (by decide) ?_
                                refine gx_istore (lv2 := [(5, .int (qV B t (qE B t (qE B t (qE B t (qE B t i)))))), (4, .int 0), (3, .int 30), (2, .int (nI r)), (0, .ref (eA E 49)), (1, .int kd)]) C dX4_personItem_155 (by decide) rfl ?_
                                refine gx_aload_n C dX4_personItem_157 (by rfl) (by rfl) ?_
                                refine gx_ldcwS 33 C rfl dX4_personItem_158 ?_
                                refine gx_callVI (As := [.ref (eZ E (100 + 33))]) (rest := []) C (c_X4_takes E σ B t hP (qE B t (qE B t (qE B t (qE B t (qE B t i))))) (qE_le (B := B) (qE_le (B := B) (qE_le (B := B) (qE_le (B := B) (qE_le (B := B) hi))))) 16 33 (by decide) rfl) z_X4_takes ck4 (by rfl) (by rfl) ml_X4_238 (by rfl) (Nat.le_of_ble_eq_true rfl) ⟨Nat.le_of_ble_eq_true rfl, Nat.le_of_ble_eq_true rfl⟩ dX4_personItem_161 (fun r240 σ240 w240 => ?_)
                                by_cases hc240 : qW B t (qE B t (qE B t (qE B t (qE B t (qE B t i))))) 16 = true
                                ·
                                  obtain ⟨rfl, rfl⟩ := w240.1 hc240
                                  refine gx_if_eq (tgt := 185) C dX4_personItem_164 (by decide) (fun h241 => ?_) (fun h241 => ?_)
                                  ·
                                    exact absurd h241 (by decide)
                                  ·
                                    clear h241
                                    refine gx_aload_n C dX4_personItem_167 (by rfl) (by rfl) ?_
                                    refine gx_iconst (v := 0) C dX4_personItem_168 (by decide) ?_
                                    refine gx_aload_n C dX4_personItem_169 (by rfl) (by rfl) ?_
                                    refine gx_getr (j := 50) (k := 0) C ck4 (by rfl) (by rfl) (by decide) fl_X4_9 dX4_personItem_170 ?_
                                    refine gx_bipush (v := 6) C dX4_personItem_173 (by decide) ?_
                                    refine gx_ialdN (k := 6) C (by rfl) (by rfl) (by decide) (by decide) dX4_personItem_175 ?_
                                    refine gx_st (st' := [.int (nI (nn K)), .int 0, .ref (eA E 49)]) (by rw [mp_n (vM_mq.trans hM : vM (mq σ B t (qE B t (qE B t (qE B t (qE B t (qE B t (qE B t i)))))) 0) 50 = K), hO.1.1]) ?_
                                    refine gx_iconst (v := 1) C dX4_personItem_176 (by decide) ?_
                                    refine gx_isub C dX4_personItem_177 ?_
                                    refine gx_iconst (v := 1) C dX4_personItem_178 (by decide) ?_
                                    refine gx_callVI (As := [.int 0, .int ((nI (nn K)) - 1), .int 1]) (rest := []) C (c_X4_number E σ B t hP (qE B t (qE B t (qE B t (qE B t (qE B t (qE B t i)))))) (qE_le (B := B) (qE_le (B := B) (qE_le (B := B) (qE_le (B := B) (qE_le (B := B) (qE_le (B := B) hi)))))) 0 ((nI (nn K)) - 1)) z_X4_number ck4 (by rfl) (by rfl) ml_X4_260 (by rfl) (Nat.le_of_ble_eq_true rfl) ⟨Nat.le_of_ble_eq_true rfl, Nat.le_of_ble_eq_true rfl⟩ dX4_personItem_179 (fun r242 σ242 w242 => ?_)
                                    by_cases hc242 : qN B t (qE B t (qE B t (qE B t (qE B t (qE B t (qE B t i)))))) 0 ((nI (nn K)) - 1) = true
                                    ·
                                      obtain ⟨er242, wa242, wb242⟩ := w242
                                      obtain rfl := wa242 hc242
                                      refine gx_st (st' := [.int (qV B t (qE B t (qE B t (qE B t (qE B t (qE B t (qE B t i)))))))]) (by rw [er242]) ?_
                                      refine gx_goto (tgt := 186) C dX4_personItem_182 (by decide) ?_
                                      refine gx_istore (lv2 := [(6, .int (qV B t (qE B t (qE B t (qE B t (qE B t (qE B t (qE B t i)))))))), (5, .int (qV B t (qE B t (qE B t (qE B t (qE B t i)))))), (4, .int 0), (3, .int 30), (2, .int (nI r)), (0, .ref (eA E 49)), (1, .int kd)]) C dX4_personItem_186 (by decide) rfl ?_
                                      refine gx_aload_n C dX4_personItem_188 (by rfl) (by rfl) ?_
                                      refine gx_geti (k := 12) C ck4 (by rfl) (by rfl) (by decide) fl_X4_218 dX4_personItem_189 ?_
                                      refine gx_st (st' := [.int 0]) (by rw [mq_12]) ?_
                                      refine gx_if_eq (tgt := 196) C dX4_personItem_192 (by decide) (fun h243 => ?_) (fun h243 => ?_)
                                      ·
                                        clear h243
                                        refine gx_aload_n C dX4_personItem_196 (by rfl) (by rfl) ?_
                                        refine gx_iload_n C dX4_personItem_197 (by rfl) (by rfl) ?_
                                        refine gx_iload_n C dX4_personItem_198 (by rfl) (by rfl) ?_
                                        refine gx_callVI (As := [.int kd, .int (nI r)]) (rest := []) C (c_X4_comes E (mq σ B t (qE B t (qE B t (qE B t (qE B t (qE B t (qE B t (qE B t i))))))) 0) K (vM_mq.trans hM : vM (mq σ B t (qE B t (qE B t (qE B t (qE B t (qE B t (qE B t (qE B t i))))))) 0) 50 = K) hO kd (nI r) (by omega)) z_X4_comes ck4 (by rfl) (by rfl) ml_X4_98 (by rfl) (Nat.le_of_ble_eq_true rfl) ⟨Nat.le_of_ble_eq_true rfl, Nat.le_of_ble_eq_true rfl⟩ dX4_personItem_199 (fun r244 σ244 w244 => ?_)
                                        obtain ⟨er244, hM244, hF244⟩ := w244
                                        refine gx_st (st' := [.int (nI (nn K))]) (by rw [er244]) ?_
                                        refine gx_istore (lv2 := [(7, .int (nI (nn K))), (6, .int (qV B t (qE B t (qE B t (qE B t (qE B t (qE B t (qE B t i)))))))), (5, .int (qV B t (qE B t (qE B t (qE B t (qE B t i)))))), (4, .int 0), (3, .int 30), (2, .int (nI r)), (0, .ref (eA E 49)), (1, .int kd)]) C dX4_personItem_202 (by decide) rfl ?_
                                        refine gx_aload_n C dX4_personItem_204 (by rfl) (by rfl) ?_
                                        refine gx_iload C dX4_personItem_205 (by rfl) ?_
                                        refine gx_iconst (v := 2) C dX4_personItem_207 (by decide) ?_
                                        refine gx_iload_n C dX4_personItem_208 (by rfl) (by rfl) ?_
                                        refine gx_callVV (As := [.int (nI (nn K)), .int 2, .int 30]) (rest := []) C (c_X4_makes E σ244 (nn K) (by omega) 2 (by omega) 30) z_X4_makes ck4 (by rfl) (by rfl) ml_X4_87 (by rfl) (Nat.le_of_ble_eq_true rfl) ⟨Nat.le_of_ble_eq_true rfl, Nat.le_of_ble_eq_true rfl⟩ dX4_personItem_209 (fun σ246 w246 => ?_)
                                        rw [w246]; clear w246
                                        have hM245 : vM (up2 σ244 50 (15 + 7 * (nn K) + 2) 30) 50 = up2 (adK K kd (nI r)) 3 (nn K) 30 := by rw [vM_mk (by omega) (by omega), hM244]
                                        refine gx_aload_n C dX4_personItem_212 (by rfl) (by rfl) ?_
                                        refine gx_iload C dX4_personItem_213 (by rfl) ?_
                                        refine gx_iconst (v := 3) C dX4_personItem_215 (by decide) ?_
                                        refine gx_iload C dX4_personItem_216 (by rfl) ?_
                                        refine gx_callVV (As := [.int (nI (nn K)), .int 3, .int 0]) (rest := []) C (c_X4_makes E (up2 σ244 50 (15 + 7 * (nn K) + 2) 30) (nn K) (by omega) 3 (by omega) 0) z_X4_makes ck4 (by rfl) (by rfl) ml_X4_87 (by rfl) (Nat.le_of_ble_eq_true rfl) ⟨Nat.le_of_ble_eq_true rfl, Nat.le_of_ble_eq_true rfl⟩ dX4_personItem_218 (fun σ248 w248 => ?_)
                                        rw [w248]; clear w248
                                        have hM247 : vM (up2 (up2 σ244 50 (15 + 7 * (nn K) + 2) 30) 50 (15 + 7 * (nn K) + 3) 0) 50 = up2 (up2 (adK K kd (nI r)) 3 (nn K) 30) 4 (nn K) 0 := by rw [vM_mk (by omega) (by omega), hM245]
                                        refine gx_aload_n C dX4_personItem_221 (by rfl) (by rfl) ?_
                                        refine gx_iload C dX4_personItem_222 (by rfl) ?_
                                        refine gx_iconst (v := 4) C dX4_personItem_224 (by decide) ?_
                                        refine gx_iload C dX4_personItem_225 (by rfl) ?_
                                        refine gx_callVV (As := [.int (nI (nn K)), .int 4, .int (qV B t (qE B t (qE B t (qE B t (qE B t i)))))]) (rest := []) C (c_X4_makes E (up2 (up2 σ244 50 (15 + 7 * (nn K) + 2) 30) 50 (15 + 7 * (nn K) + 3) 0) (nn K) (by omega) 4 (by omega) (qV B t (qE B t (qE B t (qE B t (qE B t i)))))) z_X4_makes ck4 (by rfl) (by rfl) ml_X4_87 (by rfl) (Nat.le_of_ble_eq_true rfl) ⟨Nat.le_of_ble_eq_true rfl, Nat.le_of_ble_eq_true rfl⟩ dX4_personItem_227 (fun σ250 w250 => ?_)
                                        rw [w250]; clear w250
                                        have hM249 : vM (up2 (up2 (up2 σ244 50 (15 + 7 * (nn K) + 2) 30) 50 (15 + 7 * (nn K) + 3) 0) 50 (15 + 7 * (nn K) + 4) (qV B t (qE B t (qE B t (qE B t (qE B t i)))))) 50 = up2 (up2 (up2 (adK K kd (nI r)) 3 (nn K) 30) 4 (nn K) 0) 5 (nn K) (qV B t (qE B t (qE B t (qE B t (qE B t i))))) := by rw [vM_mk (by omega) (by omega), hM247]
                                        refine gx_aload_n C dX4_personItem_230 (by rfl) (by rfl) ?_
                                        refine gx_iload C dX4_personItem_231 (by rfl) ?_
                                        refine gx_iconst (v := 5) C dX4_personItem_233 (by decide) ?_
                                        refine gx_iload C dX4_personItem_234 (by rfl) ?_
                                        refine gx_callVV (As := [.int (nI (nn K)), .int 5, .int (qV B t (qE B t (qE B t (qE B t (qE B t (qE B t (qE B t i)))))))]) (rest := []) C (c_X4_makes E (up2 (up2 (up2 σ244 50 (15 + 7 * (nn K) + 2) 30) 50 (15 + 7 * (nn K) + 3) 0) 50 (15 + 7 * (nn K) + 4) (qV B t (qE B t (qE B t (qE B t (qE B t i)))))) (nn K) (by omega) 5 (by omega) (qV B t (qE B t (qE B t (qE B t (qE B t (qE B t (qE B t i)))))))) z_X4_makes ck4 (by rfl) (by rfl) ml_X4_87 (by rfl) (Nat.le_of_ble_eq_true rfl) ⟨Nat.le_of_ble_eq_true rfl, Nat.le_of_ble_eq_true rfl⟩ dX4_personItem_236 (fun σ252 w252 => ?_)
                                        rw [w252]; clear w252
                                        have hM251 : vM (up2 (up2 (up2 (up2 σ244 50 (15 + 7 * (nn K) + 2) 30) 50 (15 + 7 * (nn K) + 3) 0) 50 (15 + 7 * (nn K) + 4) (qV B t (qE B t (qE B t (qE B t (qE B t i)))))) 50 (15 + 7 * (nn K) + 5) (qV B t (qE B t (qE B t (qE B t (qE B t (qE B t (qE B t i)))))))) 50 = up2 (up2 (up2 (up2 (adK K kd (nI r)) 3 (nn K) 30) 4 (nn K) 0) 5 (nn K) (qV B t (qE B t (qE B t (qE B t (qE B t i)))))) 6 (nn K) (qV B t (qE B t (qE B t (qE B t (qE B t (qE B t (qE B t i))))))) := by rw [vM_mk (by omega) (by omega), hM249]
                                        have ed1 : dtR B t 13 3 (nn K) 99 (adK K kd (nI r)) (qE B t (qE B t (qE B t i))) = (some (up2 (adK K kd (nI r)) 3 (nn K) 30), qE B t (qE B t (qE B t i))) := dt_u hc36 (by exact ad_n.1)
                                        have ed2 : dtR B t 14 4 (nn K) 3 (up2 (adK K kd (nI r)) 3 (nn K) 30) (qE B t (qE B t (qE B t i))) = (some (up2 (up2 (adK K kd (nI r)) 3 (nn K) 30) 4 (nn K) 0), qE B t (qE B t (qE B t i))) := dt_u hc171 (by rw [up2_up, if_neg (by omega)]; exact ad_n.2.1)
                                        have ed3 : dtR B t 15 5 (nn K) 9999 (up2 (up2 (adK K kd (nI r)) 3 (nn K) 30) 4 (nn K) 0) (qE B t (qE B t (qE B t i))) = (some (up2 (up2 (up2 (adK K kd (nI r)) 3 (nn K) 30) 4 (nn K) 0) 5 (nn K) (qV B t (qE B t (qE B t (qE B t (qE B t i)))))), qE B t (qE B t (qE B t (qE B t (qE B t i))))) := dt_t hc237 hc239
                                        have ed4 : dtR B t 16 6 (nn K) (nI (nn K) - 1) (up2 (up2 (up2 (adK K kd (nI r)) 3 (nn K) 30) 4 (nn K) 0) 5 (nn K) (qV B t (qE B t (qE B t (qE B t (qE B t i)))))) (qE B t (qE B t (qE B t (qE B t (qE B t i))))) = (some (up2 (up2 (up2 (up2 (adK K kd (nI r)) 3 (nn K) 30) 4 (nn K) 0) 5 (nn K) (qV B t (qE B t (qE B t (qE B t (qE B t i)))))) 6 (nn K) (qV B t (qE B t (qE B t (qE B t (qE B t (qE B t (qE B t i)))))))), qE B t (qE B t (qE B t (qE B t (qE B t (qE B t (qE B t i))))))) := dt_t hc240 hc242
                                        exact gx_vret C hr hlk (MTR.yes1 Fm.rf hP (((((F1.rf.tr hF244).up).up).up).up) hM251 (by unfold psR; rw [if_pos ⟨hk0, by omega⟩]; unfold ps1; rw [if_pos hc7]; unfold ps2; rw [er, cr, if_pos ⟨hc35, hS⟩]; unfold psD; simp only [ed1, ed2, ed3, ed4, bdR_s, bdR_n])) dX4_personItem_239
                                      ·
                                        exact absurd h243 (by decide)
                                    ·
                                      obtain ⟨er242, wa242, wb242⟩ := w242
                                      obtain rfl := wb242 hc242
                                      refine gx_st (st' := [.int (qV B t (qE B t (qE B t (qE B t (qE B t (qE B t (qE B t i)))))))]) (by rw [er242]) ?_
                                      refine gx_goto (tgt := 186) C dX4_personItem_182 (by decide) ?_
                                      refine gx_istore (lv2 := [(6, .int (qV B t (qE B t (qE B t (qE B t (qE B t (qE B t (qE B t i)))))))), (5, .int (qV B t (qE B t (qE B t (qE B t (qE B t i)))))), (4, .int 0), (3, .int 30), (2, .int (nI r)), (0, .ref (eA E 49)), (1, .int kd)]) C dX4_personItem_186 (by decide) rfl ?_
                                      refine gx_aload_n C dX4_personItem_188 (by rfl) (by rfl) ?_
                                      refine gx_geti (k := 12) C ck4 (by rfl) (by rfl) (by decide) fl_X4_218 dX4_personItem_189 ?_
                                      refine gx_st (st' := [.int 1]) (by rw [mq_12]) ?_
                                      refine gx_if_eq (tgt := 196) C dX4_personItem_192 (by decide) (fun h253 => ?_) (fun h253 => ?_)
                                      ·
                                        exact absurd h253 (by decide)
                                      ·
                                        clear h253
                                        have ed1 : dtR B t 13 3 (nn K) 99 (adK K kd (nI r)) (qE B t (qE B t (qE B t i))) = (some (up2 (adK K kd (nI r)) 3 (nn K) 30), qE B t (qE B t (qE B t i))) := dt_u hc36 (by exact ad_n.1)
                                        have ed2 : dtR B t 14 4 (nn K) 3 (up2 (adK K kd (nI r)) 3 (nn K) 30) (qE B t (qE B t (qE B t i))) = (some (up2 (up2 (adK K kd (nI r)) 3 (nn K) 30) 4 (nn K) 0), qE B t (qE B t (qE B t i))) := dt_u hc171 (by rw [up2_up, if_neg (by omega)]; exact ad_n.2.1)
                                        have ed3 : dtR B t 15 5 (nn K) 9999 (up2 (up2 (adK K kd (nI r)) 3 (nn K) 30) 4 (nn K) 0) (qE B t (qE B t (qE B t i))) = (some (up2 (up2 (up2 (adK K kd (nI r)) 3 (nn K) 30) 4 (nn K) 0) 5 (nn K) (qV B t (qE B t (qE B t (qE B t (qE B t i)))))), qE B t (qE B t (qE B t (qE B t (qE B t i))))) := dt_t hc237 hc239
                                        have ed4 : dtR B t 16 6 (nn K) (nI (nn K) - 1) (up2 (up2 (up2 (adK K kd (nI r)) 3 (nn K) 30) 4 (nn K) 0) 5 (nn K) (qV B t (qE B t (qE B t (qE B t (qE B t i)))))) (qE B t (qE B t (qE B t (qE B t (qE B t i))))) = (none, qE B t (qE B t (qE B t (qE B t (qE B t (qE B t i)))))) := dt_b hc240 hc242
                                        exact gx_vret C hr hlk (MTR.no Fm.rf hP (by unfold psR; rw [if_pos ⟨hk0, by omega⟩]; unfold ps1; rw [if_pos hc7]; unfold ps2; rw [er, cr, if_pos ⟨hc35, hS⟩]; unfold psD; simp only [ed1, ed2, ed3, ed4, bdR_s, bdR_n])) dX4_personItem_195
                                ·
                                  obtain ⟨rfl, rfl⟩ := w240.2 hc240
                                  refine gx_if_eq (tgt := 185) C dX4_personItem_164 (by decide) (fun h254 => ?_) (fun h254 => ?_)
                                  ·
                                    clear h254
                                    refine gx_iconst (v := (-1)) C dX4_personItem_185 (by decide) ?_
                                    refine gx_istore (lv2 := [(6, .int (-1)), (5, .int (qV B t (qE B t (qE B t (qE B t (qE B t i)))))), (4, .int 0), (3, .int 30), (2, .int (nI r)), (0, .ref (eA E 49)), (1, .int kd)]) C dX4_personItem_186 (by decide) rfl ?_
                                    refine gx_aload_n C dX4_personItem_188 (by rfl) (by rfl) ?_
                                    refine gx_geti (k := 12) C ck4 (by rfl) (by rfl) (by decide) fl_X4_218 dX4_personItem_189 ?_
                                    refine gx_st (st' := [.int 0]) (by rw [mq_12]) ?_
                                    refine gx_if_eq (tgt := 196) C dX4_personItem_192 (by decide) (fun h255 => ?_) (fun h255 => ?_)
                                    ·
                                      clear h255
                                      refine gx_aload_n C dX4_personItem_196 (by rfl) (by rfl) ?_
                                      refine gx_iload_n C dX4_personItem_197 (by rfl) (by rfl) ?_
                                      refine gx_iload_n C dX4_personItem_198 (by rfl) (by rfl) ?_
                                      refine gx_callVI (As := [.int kd, .int (nI r)]) (rest := []) C (c_X4_comes E (mq σ B t (qE B t (qE B t (qE B t (qE B t (qE B t i))))) 0) K (vM_mq.trans hM : vM (mq σ B t (qE B t (qE B t (qE B t (qE B t (qE B t i))))) 0) 50 = K) hO kd (nI r) (by omega)) z_X4_comes ck4 (by rfl) (by rfl) ml_X4_98 (by rfl) (Nat.le_of_ble_eq_true rfl) ⟨Nat.le_of_ble_eq_true rfl, Nat.le_of_ble_eq_true rfl⟩ dX4_personItem_199 (fun r256 σ256 w256 => ?_)
                                      obtain ⟨er256, hM256, hF256⟩ := w256
                                      refine gx_st (st' := [.int (nI (nn K))]) (by rw [er256]) ?_
                                      refine gx_istore (lv2 := [(7, .int (nI (nn K))), (6, .int (-1)), (5, .int (qV B t (qE B t (qE B t (qE B t (qE B t i)))))), (4, .int 0), (3, .int 30), (2, .int (nI r)), (0, .ref (eA E 49)), (1, .int kd)]) C dX4_personItem_202 (by decide) rfl ?_
                                      refine gx_aload_n C dX4_personItem_204 (by rfl) (by rfl) ?_
                                      refine gx_iload C dX4_personItem_205 (by rfl) ?_
                                      refine gx_iconst (v := 2) C dX4_personItem_207 (by decide) ?_
                                      refine gx_iload_n C dX4_personItem_208 (by rfl) (by rfl) ?_
                                      refine gx_callVV (As := [.int (nI (nn K)), .int 2, .int 30]) (rest := []) C (c_X4_makes E σ256 (nn K) (by omega) 2 (by omega) 30) z_X4_makes ck4 (by rfl) (by rfl) ml_X4_87 (by rfl) (Nat.le_of_ble_eq_true rfl) ⟨Nat.le_of_ble_eq_true rfl, Nat.le_of_ble_eq_true rfl⟩ dX4_personItem_209 (fun σ258 w258 => ?_)
                                      rw [w258]; clear w258
                                      have hM257 : vM (up2 σ256 50 (15 + 7 * (nn K) + 2) 30) 50 = up2 (adK K kd (nI r)) 3 (nn K) 30 := by rw [vM_mk (by omega) (by omega), hM256]
                                      refine gx_aload_n C dX4_personItem_212 (by rfl) (by rfl) ?_
                                      refine gx_iload C dX4_personItem_213 (by rfl) ?_
                                      refine gx_iconst (v := 3) C dX4_personItem_215 (by decide) ?_
                                      refine gx_iload C dX4_personItem_216 (by rfl) ?_
                                      refine gx_callVV (As := [.int (nI (nn K)), .int 3, .int 0]) (rest := []) C (c_X4_makes E (up2 σ256 50 (15 + 7 * (nn K) + 2) 30) (nn K) (by omega) 3 (by omega) 0) z_X4_makes ck4 (by rfl) (by rfl) ml_X4_87 (by rfl) (Nat.le_of_ble_eq_true rfl) ⟨Nat.le_of_ble_eq_true rfl, Nat.le_of_ble_eq_true rfl⟩ dX4_personItem_218 (fun σ260 w260 => ?_)
                                      rw [w260]; clear w260
                                      have hM259 : vM (up2 (up2 σ256 50 (15 + 7 * (nn K) + 2) 30) 50 (15 + 7 * (nn K) + 3) 0) 50 = up2 (up2 (adK K kd (nI r)) 3 (nn K) 30) 4 (nn K) 0 := by rw [vM_mk (by omega) (by omega), hM257]
                                      refine gx_aload_n C dX4_personItem_221 (by rfl) (by rfl) ?_
                                      refine gx_iload C dX4_personItem_222 (by rfl) ?_
                                      refine gx_iconst (v := 4) C dX4_personItem_224 (by decide) ?_
                                      refine gx_iload C dX4_personItem_225 (by rfl) ?_
                                      refine gx_callVV (As := [.int (nI (nn K)), .int 4, .int (qV B t (qE B t (qE B t (qE B t (qE B t i)))))]) (rest := []) C (c_X4_makes E (up2 (up2 σ256 50 (15 + 7 * (nn K) + 2) 30) 50 (15 + 7 * (nn K) + 3) 0) (nn K) (by omega) 4 (by omega) (qV B t (qE B t (qE B t (qE B t (qE B t i)))))) z_X4_makes ck4 (by rfl) (by rfl) ml_X4_87 (by rfl) (Nat.le_of_ble_eq_true rfl) ⟨Nat.le_of_ble_eq_true rfl, Nat.le_of_ble_eq_true rfl⟩ dX4_personItem_227 (fun σ262 w262 => ?_)
                                      rw [w262]; clear w262
                                      have hM261 : vM (up2 (up2 (up2 σ256 50 (15 + 7 * (nn K) + 2) 30) 50 (15 + 7 * (nn K) + 3) 0) 50 (15 + 7 * (nn K) + 4) (qV B t (qE B t (qE B t (qE B t (qE B t i)))))) 50 = up2 (up2 (up2 (adK K kd (nI r)) 3 (nn K) 30) 4 (nn K) 0) 5 (nn K) (qV B t (qE B t (qE B t (qE B t (qE B t i))))) := by rw [vM_mk (by omega) (by omega), hM259]
                                      refine gx_aload_n C dX4_personItem_230 (by rfl) (by rfl) ?_
                                      refine gx_iload C dX4_personItem_231 (by rfl) ?_
                                      refine gx_iconst (v := 5) C dX4_personItem_233 (by decide) ?_
                                      refine gx_iload C dX4_personItem_234 (by rfl) ?_
                                      refine gx_callVV (As := [.int (nI (nn K)), .int 5, .int (-1)]) (rest := []) C (c_X4_makes E (up2 (up2 (up2 σ256 50 (15 + 7 * (nn K) + 2) 30) 50 (15 + 7 * (nn K) + 3) 0) 50 (15 + 7 * (nn K) + 4) (qV B t (qE B t (qE B t (qE B t (qE B t i)))))) (nn K) (by omega) 5 (by omega) (-1)) z_X4_makes ck4 (by rfl) (by rfl) ml_X4_87 (by rfl) (Nat.le_of_ble_eq_true rfl) ⟨Nat.le_of_ble_eq_true rfl, Nat.le_of_ble_eq_true rfl⟩ dX4_personItem_236 (fun σ264 w264 => ?_)
                                      rw [w264]; clear w264
                                      have hM263 : vM (up2 (up2 (up2 (up2 σ256 50 (15 + 7 * (nn K) + 2) 30) 50 (15 + 7 * (nn K) + 3) 0) 50 (15 + 7 * (nn K) + 4) (qV B t (qE B t (qE B t (qE B t (qE B t i)))))) 50 (15 + 7 * (nn K) + 5) (-1)) 50 = up2 (up2 (up2 (up2 (adK K kd (nI r)) 3 (nn K) 30) 4 (nn K) 0) 5 (nn K) (qV B t (qE B t (qE B t (qE B t (qE B t i)))))) 6 (nn K) (-1) := by rw [vM_mk (by omega) (by omega), hM261]
                                      have ed1 : dtR B t 13 3 (nn K) 99 (adK K kd (nI r)) (qE B t (qE B t (qE B t i))) = (some (up2 (adK K kd (nI r)) 3 (nn K) 30), qE B t (qE B t (qE B t i))) := dt_u hc36 (by exact ad_n.1)
                                      have ed2 : dtR B t 14 4 (nn K) 3 (up2 (adK K kd (nI r)) 3 (nn K) 30) (qE B t (qE B t (qE B t i))) = (some (up2 (up2 (adK K kd (nI r)) 3 (nn K) 30) 4 (nn K) 0), qE B t (qE B t (qE B t i))) := dt_u hc171 (by rw [up2_up, if_neg (by omega)]; exact ad_n.2.1)
                                      have ed3 : dtR B t 15 5 (nn K) 9999 (up2 (up2 (adK K kd (nI r)) 3 (nn K) 30) 4 (nn K) 0) (qE B t (qE B t (qE B t i))) = (some (up2 (up2 (up2 (adK K kd (nI r)) 3 (nn K) 30) 4 (nn K) 0) 5 (nn K) (qV B t (qE B t (qE B t (qE B t (qE B t i)))))), qE B t (qE B t (qE B t (qE B t (qE B t i))))) := dt_t hc237 hc239
                                      have ed4 : dtR B t 16 6 (nn K) (nI (nn K) - 1) (up2 (up2 (up2 (adK K kd (nI r)) 3 (nn K) 30) 4 (nn K) 0) 5 (nn K) (qV B t (qE B t (qE B t (qE B t (qE B t i)))))) (qE B t (qE B t (qE B t (qE B t (qE B t i))))) = (some (up2 (up2 (up2 (up2 (adK K kd (nI r)) 3 (nn K) 30) 4 (nn K) 0) 5 (nn K) (qV B t (qE B t (qE B t (qE B t (qE B t i)))))) 6 (nn K) (-1)), qE B t (qE B t (qE B t (qE B t (qE B t i))))) := dt_u hc240 (by rw [up2_up, if_neg (by omega)]; rw [up2_up, if_neg (by omega)]; rw [up2_up, if_neg (by omega)]; exact ad_n.2.2.2)
                                      exact gx_vret C hr hlk (MTR.yes1 Fm.rf hP (((((F1.rf.tr hF256).up).up).up).up) hM263 (by unfold psR; rw [if_pos ⟨hk0, by omega⟩]; unfold ps1; rw [if_pos hc7]; unfold ps2; rw [er, cr, if_pos ⟨hc35, hS⟩]; unfold psD; simp only [ed1, ed2, ed3, ed4, bdR_s, bdR_n])) dX4_personItem_239
                                    ·
                                      exact absurd h255 (by decide)
                                  ·
                                    exact absurd h254 (by decide)
                              ·
                                obtain ⟨er239, wa239, wb239⟩ := w239
                                obtain rfl := wb239 hc239
                                refine gx_st (st' := [.int (qV B t (qE B t (qE B t (qE B t (qE B t i)))))]) (by rw [er239]) ?_
                                refine gx_goto (tgt := 155) C dX4_personItem_150 (by decide) ?_
                                refine gx_istore (lv2 := [(5, .int (qV B t (qE B t (qE B t (qE B t (qE B t i)))))), (4, .int 0), (3, .int 30), (2, .int (nI r)), (0, .ref (eA E 49)), (1, .int kd)]) C dX4_personItem_155 (by decide) rfl ?_
                                refine gx_aload_n C dX4_personItem_157 (by rfl) (by rfl) ?_
                                refine gx_ldcwS 33 C rfl dX4_personItem_158 ?_
                                refine gx_callVI (As := [.ref (eZ E (100 + 33))]) (rest := []) C (c_X4_takes_b E σ B t hP (qE B t (qE B t (qE B t (qE B t i)))) (qE_le (B := B) (qE_le (B := B) (qE_le (B := B) (qE_le (B := B) hi)))) 16 33 (by decide) rfl) z_X4_takes ck4 (by rfl) (by rfl) ml_X4_238 (by rfl) (Nat.le_of_ble_eq_true rfl) ⟨Nat.le_of_ble_eq_true rfl, Nat.le_of_ble_eq_true rfl⟩ dX4_personItem_161 (fun r265 σ265 w265 => ?_)
                                obtain ⟨u1, u2⟩ := w265; rw [u1, u2]; clear u1 u2
                                refine gx_if_eq (tgt := 185) C dX4_personItem_164 (by decide) (fun h266 => ?_) (fun h266 => ?_)
                                ·
                                  clear h266
                                  refine gx_iconst (v := (-1)) C dX4_personItem_185 (by decide) ?_
                                  refine gx_istore (lv2 := [(6, .int (-1)), (5, .int (qV B t (qE B t (qE B t (qE B t (qE B t i)))))), (4, .int 0), (3, .int 30), (2, .int (nI r)), (0, .ref (eA E 49)), (1, .int kd)]) C dX4_personItem_186 (by decide) rfl ?_
                                  refine gx_aload_n C dX4_personItem_188 (by rfl) (by rfl) ?_
                                  refine gx_geti (k := 12) C ck4 (by rfl) (by rfl) (by decide) fl_X4_218 dX4_personItem_189 ?_
                                  refine gx_st (st' := [.int 1]) (by rw [mq_12]) ?_
                                  refine gx_if_eq (tgt := 196) C dX4_personItem_192 (by decide) (fun h267 => ?_) (fun h267 => ?_)
                                  ·
                                    exact absurd h267 (by decide)
                                  ·
                                    clear h267
                                    have ed1 : dtR B t 13 3 (nn K) 99 (adK K kd (nI r)) (qE B t (qE B t (qE B t i))) = (some (up2 (adK K kd (nI r)) 3 (nn K) 30), qE B t (qE B t (qE B t i))) := dt_u hc36 (by exact ad_n.1)
                                    have ed2 : dtR B t 14 4 (nn K) 3 (up2 (adK K kd (nI r)) 3 (nn K) 30) (qE B t (qE B t (qE B t i))) = (some (up2 (up2 (adK K kd (nI r)) 3 (nn K) 30) 4 (nn K) 0), qE B t (qE B t (qE B t i))) := dt_u hc171 (by rw [up2_up, if_neg (by omega)]; exact ad_n.2.1)
                                    have ed3 : dtR B t 15 5 (nn K) 9999 (up2 (up2 (adK K kd (nI r)) 3 (nn K) 30) 4 (nn K) 0) (qE B t (qE B t (qE B t i))) = (none, qE B t (qE B t (qE B t (qE B t i)))) := dt_b hc237 hc239
                                    exact gx_vret C hr hlk (MTR.no Fm.rf hP (by unfold psR; rw [if_pos ⟨hk0, by omega⟩]; unfold ps1; rw [if_pos hc7]; unfold ps2; rw [er, cr, if_pos ⟨hc35, hS⟩]; unfold psD; simp only [ed1, ed2, ed3, bdR_s, bdR_n])) dX4_personItem_195
                                ·
                                  exact absurd h266 (by decide)
                          ·
                            obtain ⟨rfl, rfl⟩ := w237.2 hc237
                            refine gx_if_eq (tgt := 153) C dX4_personItem_138 (by decide) (fun h268 => ?_) (fun h268 => ?_)
                            ·
                              clear h268
                              refine gx_bipush (v := 100) C dX4_personItem_153 (by decide) ?_
                              refine gx_istore (lv2 := [(5, .int 100), (4, .int 0), (3, .int 30), (2, .int (nI r)), (0, .ref (eA E 49)), (1, .int kd)]) C dX4_personItem_155 (by decide) rfl ?_
                              refine gx_aload_n C dX4_personItem_157 (by rfl) (by rfl) ?_
                              refine gx_ldcwS 33 C rfl dX4_personItem_158 ?_
                              refine gx_callVI (As := [.ref (eZ E (100 + 33))]) (rest := []) C (c_X4_takes E σ B t hP (qE B t (qE B t (qE B t i))) (qE_le (B := B) (qE_le (B := B) (qE_le (B := B) hi))) 16 33 (by decide) rfl) z_X4_takes ck4 (by rfl) (by rfl) ml_X4_238 (by rfl) (Nat.le_of_ble_eq_true rfl) ⟨Nat.le_of_ble_eq_true rfl, Nat.le_of_ble_eq_true rfl⟩ dX4_personItem_161 (fun r269 σ269 w269 => ?_)
                              by_cases hc269 : qW B t (qE B t (qE B t (qE B t i))) 16 = true
                              ·
                                obtain ⟨rfl, rfl⟩ := w269.1 hc269
                                refine gx_if_eq (tgt := 185) C dX4_personItem_164 (by decide) (fun h270 => ?_) (fun h270 => ?_)
                                ·
                                  exact absurd h270 (by decide)
                                ·
                                  clear h270
                                  refine gx_aload_n C dX4_personItem_167 (by rfl) (by rfl) ?_
                                  refine gx_iconst (v := 0) C dX4_personItem_168 (by decide) ?_
                                  refine gx_aload_n C dX4_personItem_169 (by rfl) (by rfl) ?_
                                  refine gx_getr (j := 50) (k := 0) C ck4 (by rfl) (by rfl) (by decide) fl_X4_9 dX4_personItem_170 ?_
                                  refine gx_bipush (v := 6) C dX4_personItem_173 (by decide) ?_
                                  refine gx_ialdN (k := 6) C (by rfl) (by rfl) (by decide) (by decide) dX4_personItem_175 ?_
                                  refine gx_st (st' := [.int (nI (nn K)), .int 0, .ref (eA E 49)]) (by rw [mp_n (vM_mq.trans hM : vM (mq σ B t (qE B t (qE B t (qE B t (qE B t i)))) 0) 50 = K), hO.1.1]) ?_
                                  refine gx_iconst (v := 1) C dX4_personItem_176 (by decide) ?_
                                  refine gx_isub C dX4_personItem_177 ?_
                                  refine gx_iconst (v := 1) C dX4_personItem_178 (by decide) ?_
                                  refine gx_callVI (As := [.int 0, .int ((nI (nn K)) - 1), .int 1]) (rest := []) C (c_X4_number E σ B t hP (qE B t (qE B t (qE B t (qE B t i)))) (qE_le (B := B) (qE_le (B := B) (qE_le (B := B) (qE_le (B := B) hi)))) 0 ((nI (nn K)) - 1)) z_X4_number ck4 (by rfl) (by rfl) ml_X4_260 (by rfl) (Nat.le_of_ble_eq_true rfl) ⟨Nat.le_of_ble_eq_true rfl, Nat.le_of_ble_eq_true rfl⟩ dX4_personItem_179 (fun r271 σ271 w271 => ?_)
                                  by_cases hc271 : qN B t (qE B t (qE B t (qE B t (qE B t i)))) 0 ((nI (nn K)) - 1) = true
                                  ·
                                    obtain ⟨er271, wa271, wb271⟩ := w271
                                    obtain rfl := wa271 hc271
                                    refine gx_st (st' := [.int (qV B t (qE B t (qE B t (qE B t (qE B t i)))))]) (by rw [er271]) ?_
                                    refine gx_goto (tgt := 186) C dX4_personItem_182 (by decide) ?_
                                    refine gx_istore (lv2 := [(6, .int (qV B t (qE B t (qE B t (qE B t (qE B t i)))))), (5, .int 100), (4, .int 0), (3, .int 30), (2, .int (nI r)), (0, .ref (eA E 49)), (1, .int kd)]) C dX4_personItem_186 (by decide) rfl ?_
                                    refine gx_aload_n C dX4_personItem_188 (by rfl) (by rfl) ?_
                                    refine gx_geti (k := 12) C ck4 (by rfl) (by rfl) (by decide) fl_X4_218 dX4_personItem_189 ?_
                                    refine gx_st (st' := [.int 0]) (by rw [mq_12]) ?_
                                    refine gx_if_eq (tgt := 196) C dX4_personItem_192 (by decide) (fun h272 => ?_) (fun h272 => ?_)
                                    ·
                                      clear h272
                                      refine gx_aload_n C dX4_personItem_196 (by rfl) (by rfl) ?_
                                      refine gx_iload_n C dX4_personItem_197 (by rfl) (by rfl) ?_
                                      refine gx_iload_n C dX4_personItem_198 (by rfl) (by rfl) ?_
                                      refine gx_callVI (As := [.int kd, .int (nI r)]) (rest := []) C (c_X4_comes E (mq σ B t (qE B t (qE B t (qE B t (qE B t (qE B t i))))) 0) K (vM_mq.trans hM : vM (mq σ B t (qE B t (qE B t (qE B t (qE B t (qE B t i))))) 0) 50 = K) hO kd (nI r) (by omega)) z_X4_comes ck4 (by rfl) (by rfl) ml_X4_98 (by rfl) (Nat.le_of_ble_eq_true rfl) ⟨Nat.le_of_ble_eq_true rfl, Nat.le_of_ble_eq_true rfl⟩ dX4_personItem_199 (fun r273 σ273 w273 => ?_)
                                      obtain ⟨er273, hM273, hF273⟩ := w273
                                      refine gx_st (st' := [.int (nI (nn K))]) (by rw [er273]) ?_
                                      refine gx_istore (lv2 := [(7, .int (nI (nn K))), (6, .int (qV B t (qE B t (qE B t (qE B t (qE B t i)))))), (5, .int 100), (4, .int 0), (3, .int 30), (2, .int (nI r)), (0, .ref (eA E 49)), (1, .int kd)]) C dX4_personItem_202 (by decide) rfl ?_
                                      refine gx_aload_n C dX4_personItem_204 (by rfl) (by rfl) ?_
                                      refine gx_iload C dX4_personItem_205 (by rfl) ?_
                                      refine gx_iconst (v := 2) C dX4_personItem_207 (by decide) ?_
                                      refine gx_iload_n C dX4_personItem_208 (by rfl) (by rfl) ?_
                                      refine gx_callVV (As := [.int (nI (nn K)), .int 2, .int 30]) (rest := []) C (c_X4_makes E σ273 (nn K) (by omega) 2 (by omega) 30) z_X4_makes ck4 (by rfl) (by rfl) ml_X4_87 (by rfl) (Nat.le_of_ble_eq_true rfl) ⟨Nat.le_of_ble_eq_true rfl, Nat.le_of_ble_eq_true rfl⟩ dX4_personItem_209 (fun σ275 w275 => ?_)
                                      rw [w275]; clear w275
                                      have hM274 : vM (up2 σ273 50 (15 + 7 * (nn K) + 2) 30) 50 = up2 (adK K kd (nI r)) 3 (nn K) 30 := by rw [vM_mk (by omega) (by omega), hM273]
                                      refine gx_aload_n C dX4_personItem_212 (by rfl) (by rfl) ?_
                                      refine gx_iload C dX4_personItem_213 (by rfl) ?_
                                      refine gx_iconst (v := 3) C dX4_personItem_215 (by decide) ?_
                                      refine gx_iload C dX4_personItem_216 (by rfl) ?_
                                      refine gx_callVV (As := [.int (nI (nn K)), .int 3, .int 0]) (rest := []) C (c_X4_makes E (up2 σ273 50 (15 + 7 * (nn K) + 2) 30) (nn K) (by omega) 3 (by omega) 0) z_X4_makes ck4 (by rfl) (by rfl) ml_X4_87 (by rfl) (Nat.le_of_ble_eq_true rfl) ⟨Nat.le_of_ble_eq_true rfl, Nat.le_of_ble_eq_true rfl⟩ dX4_personItem_218 (fun σ277 w277 => ?_)
                                      rw [w277]; clear w277
                                      have hM276 : vM (up2 (up2 σ273 50 (15 + 7 * (nn K) + 2) 30) 50 (15 + 7 * (nn K) + 3) 0) 50 = up2 (up2 (adK K kd (nI r)) 3 (nn K) 30) 4 (nn K) 0 := by rw [vM_mk (by omega) (by omega), hM274]
                                      refine gx_aload_n C dX4_personItem_221 (by rfl) (by rfl) ?_
                                      refine gx_iload C dX4_personItem_222 (by rfl) ?_
                                      refine gx_iconst (v := 4) C dX4_personItem_224 (by decide) ?_
                                      refine gx_iload C dX4_personItem_225 (by rfl) ?_
                                      refine gx_callVV (As := [.int (nI (nn K)), .int 4, .int 100]) (rest := []) C (c_X4_makes E (up2 (up2 σ273 50 (15 + 7 * (nn K) + 2) 30) 50 (15 + 7 * (nn K) + 3) 0) (nn K) (by omega) 4 (by omega) 100) z_X4_makes ck4 (by rfl) (by rfl) ml_X4_87 (by rfl) (Nat.le_of_ble_eq_true rfl) ⟨Nat.le_of_ble_eq_true rfl, Nat.le_of_ble_eq_true rfl⟩ dX4_personItem_227 (fun σ279 w279 => ?_)
                                      rw [w279]; clear w279
                                      have hM278 : vM (up2 (up2 (up2 σ273 50 (15 + 7 * (nn K) + 2) 30) 50 (15 + 7 * (nn K) + 3) 0) 50 (15 + 7 * (nn K) + 4) 100) 50 = up2 (up2 (up2 (adK K kd (nI r)) 3 (nn K) 30) 4 (nn K) 0) 5 (nn K) 100 := by rw [vM_mk (by omega) (by omega), hM276]
                                      refine gx_aload_n C dX4_personItem_230 (by rfl) (by rfl) ?_
                                      refine gx_iload C dX4_personItem_231 (by rfl) ?_
                                      refine gx_iconst (v := 5) C dX4_personItem_233 (by decide) ?_
                                      refine gx_iload C dX4_personItem_234 (by rfl) ?_
                                      refine gx_callVV (As := [.int (nI (nn K)), .int 5, .int (qV B t (qE B t (qE B t (qE B t (qE B t i)))))]) (rest := []) C (c_X4_makes E (up2 (up2 (up2 σ273 50 (15 + 7 * (nn K) + 2) 30) 50 (15 + 7 * (nn K) + 3) 0) 50 (15 + 7 * (nn K) + 4) 100) (nn K) (by omega) 5 (by omega) (qV B t (qE B t (qE B t (qE B t (qE B t i)))))) z_X4_makes ck4 (by rfl) (by rfl) ml_X4_87 (by rfl) (Nat.le_of_ble_eq_true rfl) ⟨Nat.le_of_ble_eq_true rfl, Nat.le_of_ble_eq_true rfl⟩ dX4_personItem_236 (fun σ281 w281 => ?_)
                                      rw [w281]; clear w281
                                      have hM280 : vM (up2 (up2 (up2 (up2 σ273 50 (15 + 7 * (nn K) + 2) 30) 50 (15 + 7 * (nn K) + 3) 0) 50 (15 + 7 * (nn K) + 4) 100) 50 (15 + 7 * (nn K) + 5) (qV B t (qE B t (qE B t (qE B t (qE B t i)))))) 50 = up2 (up2 (up2 (up2 (adK K kd (nI r)) 3 (nn K) 30) 4 (nn K) 0) 5 (nn K) 100) 6 (nn K) (qV B t (qE B t (qE B t (qE B t (qE B t i))))) := by rw [vM_mk (by omega) (by omega), hM278]
                                      have ed1 : dtR B t 13 3 (nn K) 99 (adK K kd (nI r)) (qE B t (qE B t (qE B t i))) = (some (up2 (adK K kd (nI r)) 3 (nn K) 30), qE B t (qE B t (qE B t i))) := dt_u hc36 (by exact ad_n.1)
                                      have ed2 : dtR B t 14 4 (nn K) 3 (up2 (adK K kd (nI r)) 3 (nn K) 30) (qE B t (qE B t (qE B t i))) = (some (up2 (up2 (adK K kd (nI r)) 3 (nn K) 30) 4 (nn K) 0), qE B t (qE B t (qE B t i))) := dt_u hc171 (by rw [up2_up, if_neg (by omega)]; exact ad_n.2.1)
                                      have ed3 : dtR B t 15 5 (nn K) 9999 (up2 (up2 (adK K kd (nI r)) 3 (nn K) 30) 4 (nn K) 0) (qE B t (qE B t (qE B t i))) = (some (up2 (up2 (up2 (adK K kd (nI r)) 3 (nn K) 30) 4 (nn K) 0) 5 (nn K) 100), qE B t (qE B t (qE B t i))) := dt_u hc237 (by rw [up2_up, if_neg (by omega)]; rw [up2_up, if_neg (by omega)]; exact ad_n.2.2.1)
                                      have ed4 : dtR B t 16 6 (nn K) (nI (nn K) - 1) (up2 (up2 (up2 (adK K kd (nI r)) 3 (nn K) 30) 4 (nn K) 0) 5 (nn K) 100) (qE B t (qE B t (qE B t i))) = (some (up2 (up2 (up2 (up2 (adK K kd (nI r)) 3 (nn K) 30) 4 (nn K) 0) 5 (nn K) 100) 6 (nn K) (qV B t (qE B t (qE B t (qE B t (qE B t i)))))), qE B t (qE B t (qE B t (qE B t (qE B t i))))) := dt_t hc269 hc271
                                      exact gx_vret C hr hlk (MTR.yes1 Fm.rf hP (((((F1.rf.tr hF273).up).up).up).up) hM280 (by unfold psR; rw [if_pos ⟨hk0, by omega⟩]; unfold ps1; rw [if_pos hc7]; unfold ps2; rw [er, cr, if_pos ⟨hc35, hS⟩]; unfold psD; simp only [ed1, ed2, ed3, ed4, bdR_s, bdR_n])) dX4_personItem_239
                                    ·
                                      exact absurd h272 (by decide)
                                  ·
                                    obtain ⟨er271, wa271, wb271⟩ := w271
                                    obtain rfl := wb271 hc271
                                    refine gx_st (st' := [.int (qV B t (qE B t (qE B t (qE B t (qE B t i)))))]) (by rw [er271]) ?_
                                    refine gx_goto (tgt := 186) C dX4_personItem_182 (by decide) ?_
                                    refine gx_istore (lv2 := [(6, .int (qV B t (qE B t (qE B t (qE B t (qE B t i)))))), (5, .int 100), (4, .int 0), (3, .int 30), (2, .int (nI r)), (0, .ref (eA E 49)), (1, .int kd)]) C dX4_personItem_186 (by decide) rfl ?_
                                    refine gx_aload_n C dX4_personItem_188 (by rfl) (by rfl) ?_
                                    refine gx_geti (k := 12) C ck4 (by rfl) (by rfl) (by decide) fl_X4_218 dX4_personItem_189 ?_
                                    refine gx_st (st' := [.int 1]) (by rw [mq_12]) ?_
                                    refine gx_if_eq (tgt := 196) C dX4_personItem_192 (by decide) (fun h282 => ?_) (fun h282 => ?_)
                                    ·
                                      exact absurd h282 (by decide)
                                    ·
                                      clear h282
                                      have ed1 : dtR B t 13 3 (nn K) 99 (adK K kd (nI r)) (qE B t (qE B t (qE B t i))) = (some (up2 (adK K kd (nI r)) 3 (nn K) 30), qE B t (qE B t (qE B t i))) := dt_u hc36 (by exact ad_n.1)
                                      have ed2 : dtR B t 14 4 (nn K) 3 (up2 (adK K kd (nI r)) 3 (nn K) 30) (qE B t (qE B t (qE B t i))) = (some (up2 (up2 (adK K kd (nI r)) 3 (nn K) 30) 4 (nn K) 0), qE B t (qE B t (qE B t i))) := dt_u hc171 (by rw [up2_up, if_neg (by omega)]; exact ad_n.2.1)
                                      have ed3 : dtR B t 15 5 (nn K) 9999 (up2 (up2 (adK K kd (nI r)) 3 (nn K) 30) 4 (nn K) 0) (qE B t (qE B t (qE B t i))) = (some (up2 (up2 (up2 (adK K kd (nI r)) 3 (nn K) 30) 4 (nn K) 0) 5 (nn K) 100), qE B t (qE B t (qE B t i))) := dt_u hc237 (by rw [up2_up, if_neg (by omega)]; rw [up2_up, if_neg (by omega)]; exact ad_n.2.2.1)
                                      have ed4 : dtR B t 16 6 (nn K) (nI (nn K) - 1) (up2 (up2 (up2 (adK K kd (nI r)) 3 (nn K) 30) 4 (nn K) 0) 5 (nn K) 100) (qE B t (qE B t (qE B t i))) = (none, qE B t (qE B t (qE B t (qE B t i)))) := dt_b hc269 hc271
                                      exact gx_vret C hr hlk (MTR.no Fm.rf hP (by unfold psR; rw [if_pos ⟨hk0, by omega⟩]; unfold ps1; rw [if_pos hc7]; unfold ps2; rw [er, cr, if_pos ⟨hc35, hS⟩]; unfold psD; simp only [ed1, ed2, ed3, ed4, bdR_s, bdR_n])) dX4_personItem_195
                              ·
                                obtain ⟨rfl, rfl⟩ := w269.2 hc269
                                refine gx_if_eq (tgt := 185) C dX4_personItem_164 (by decide) (fun h283 => ?_) (fun h283 => ?_)
                                ·
                                  clear h283
                                  refine gx_iconst (v := (-1)) C dX4_personItem_185 (by decide) ?_
                                  refine gx_istore (lv2 := [(6, .int (-1)), (5, .int 100), (4, .int 0), (3, .int 30), (2, .int (nI r)), (0, .ref (eA E 49)), (1, .int kd)]) C dX4_personItem_186 (by decide) rfl ?_
                                  refine gx_aload_n C dX4_personItem_188 (by rfl) (by rfl) ?_
                                  refine gx_geti (k := 12) C ck4 (by rfl) (by rfl) (by decide) fl_X4_218 dX4_personItem_189 ?_
                                  refine gx_st (st' := [.int 0]) (by rw [mq_12]) ?_
                                  refine gx_if_eq (tgt := 196) C dX4_personItem_192 (by decide) (fun h284 => ?_) (fun h284 => ?_)
                                  ·
                                    clear h284
                                    refine gx_aload_n C dX4_personItem_196 (by rfl) (by rfl) ?_
                                    refine gx_iload_n C dX4_personItem_197 (by rfl) (by rfl) ?_
                                    refine gx_iload_n C dX4_personItem_198 (by rfl) (by rfl) ?_
                                    refine gx_callVI (As := [.int kd, .int (nI r)]) (rest := []) C (c_X4_comes E (mq σ B t (qE B t (qE B t (qE B t i))) 0) K (vM_mq.trans hM : vM (mq σ B t (qE B t (qE B t (qE B t i))) 0) 50 = K) hO kd (nI r) (by omega)) z_X4_comes ck4 (by rfl) (by rfl) ml_X4_98 (by rfl) (Nat.le_of_ble_eq_true rfl) ⟨Nat.le_of_ble_eq_true rfl, Nat.le_of_ble_eq_true rfl⟩ dX4_personItem_199 (fun r285 σ285 w285 => ?_)
                                    obtain ⟨er285, hM285, hF285⟩ := w285
                                    refine gx_st (st' := [.int (nI (nn K))]) (by rw [er285]) ?_
                                    refine gx_istore (lv2 := [(7, .int (nI (nn K))), (6, .int (-1)), (5, .int 100), (4, .int 0), (3, .int 30), (2, .int (nI r)), (0, .ref (eA E 49)), (1, .int kd)]) C dX4_personItem_202 (by decide) rfl ?_
                                    refine gx_aload_n C dX4_personItem_204 (by rfl) (by rfl) ?_
                                    refine gx_iload C dX4_personItem_205 (by rfl) ?_
                                    refine gx_iconst (v := 2) C dX4_personItem_207 (by decide) ?_
                                    refine gx_iload_n C dX4_personItem_208 (by rfl) (by rfl) ?_
                                    refine gx_callVV (As := [.int (nI (nn K)), .int 2, .int 30]) (rest := []) C (c_X4_makes E σ285 (nn K) (by omega) 2 (by omega) 30) z_X4_makes ck4 (by rfl) (by rfl) ml_X4_87 (by rfl) (Nat.le_of_ble_eq_true rfl) ⟨Nat.le_of_ble_eq_true rfl, Nat.le_of_ble_eq_true rfl⟩ dX4_personItem_209 (fun σ287 w287 => ?_)
                                    rw [w287]; clear w287
                                    have hM286 : vM (up2 σ285 50 (15 + 7 * (nn K) + 2) 30) 50 = up2 (adK K kd (nI r)) 3 (nn K) 30 := by rw [vM_mk (by omega) (by omega), hM285]
                                    refine gx_aload_n C dX4_personItem_212 (by rfl) (by rfl) ?_
                                    refine gx_iload C dX4_personItem_213 (by rfl) ?_
                                    refine gx_iconst (v := 3) C dX4_personItem_215 (by decide) ?_
                                    refine gx_iload C dX4_personItem_216 (by rfl) ?_
                                    refine gx_callVV (As := [.int (nI (nn K)), .int 3, .int 0]) (rest := []) C (c_X4_makes E (up2 σ285 50 (15 + 7 * (nn K) + 2) 30) (nn K) (by omega) 3 (by omega) 0) z_X4_makes ck4 (by rfl) (by rfl) ml_X4_87 (by rfl) (Nat.le_of_ble_eq_true rfl) ⟨Nat.le_of_ble_eq_true rfl, Nat.le_of_ble_eq_true rfl⟩ dX4_personItem_218 (fun σ289 w289 => ?_)
                                    rw [w289]; clear w289
                                    have hM288 : vM (up2 (up2 σ285 50 (15 + 7 * (nn K) + 2) 30) 50 (15 + 7 * (nn K) + 3) 0) 50 = up2 (up2 (adK K kd (nI r)) 3 (nn K) 30) 4 (nn K) 0 := by rw [vM_mk (by omega) (by omega), hM286]
                                    refine gx_aload_n C dX4_personItem_221 (by rfl) (by rfl) ?_
                                    refine gx_iload C dX4_personItem_222 (by rfl) ?_
                                    refine gx_iconst (v := 4) C dX4_personItem_224 (by decide) ?_
                                    refine gx_iload C dX4_personItem_225 (by rfl) ?_
                                    refine gx_callVV (As := [.int (nI (nn K)), .int 4, .int 100]) (rest := []) C (c_X4_makes E (up2 (up2 σ285 50 (15 + 7 * (nn K) + 2) 30) 50 (15 + 7 * (nn K) + 3) 0) (nn K) (by omega) 4 (by omega) 100) z_X4_makes ck4 (by rfl) (by rfl) ml_X4_87 (by rfl) (Nat.le_of_ble_eq_true rfl) ⟨Nat.le_of_ble_eq_true rfl, Nat.le_of_ble_eq_true rfl⟩ dX4_personItem_227 (fun σ291 w291 => ?_)
                                    rw [w291]; clear w291
                                    have hM290 : vM (up2 (up2 (up2 σ285 50 (15 + 7 * (nn K) + 2) 30) 50 (15 + 7 * (nn K) + 3) 0) 50 (15 + 7 * (nn K) + 4) 100) 50 = up2 (up2 (up2 (adK K kd (nI r)) 3 (nn K) 30) 4 (nn K) 0) 5 (nn K) 100 := by rw [vM_mk (by omega) (by omega), hM288]
                                    refine gx_aload_n C dX4_personItem_230 (by rfl) (by rfl) ?_
                                    refine gx_iload C dX4_personItem_231 (by rfl) ?_
                                    refine gx_iconst (v := 5) C dX4_personItem_233 (by decide) ?_
                                    refine gx_iload C dX4_personItem_234 (by rfl) ?_
                                    refine gx_callVV (As := [.int (nI (nn K)), .int 5, .int (-1)]) (rest := []) C (c_X4_makes E (up2 (up2 (up2 σ285 50 (15 + 7 * (nn K) + 2) 30) 50 (15 + 7 * (nn K) + 3) 0) 50 (15 + 7 * (nn K) + 4) 100) (nn K) (by omega) 5 (by omega) (-1)) z_X4_makes ck4 (by rfl) (by rfl) ml_X4_87 (by rfl) (Nat.le_of_ble_eq_true rfl) ⟨Nat.le_of_ble_eq_true rfl, Nat.le_of_ble_eq_true rfl⟩ dX4_personItem_236 (fun σ293 w293 => ?_)
                                    rw [w293]; clear w293
                                    have hM292 : vM (up2 (up2 (up2 (up2 σ285 50 (15 + 7 * (nn K) + 2) 30) 50 (15 + 7 * (nn K) + 3) 0) 50 (15 + 7 * (nn K) + 4) 100) 50 (15 + 7 * (nn K) + 5) (-1)) 50 = up2 (up2 (up2 (up2 (adK K kd (nI r)) 3 (nn K) 30) 4 (nn K) 0) 5 (nn K) 100) 6 (nn K) (-1) := by rw [vM_mk (by omega) (by omega), hM290]
                                    have ed1 : dtR B t 13 3 (nn K) 99 (adK K kd (nI r)) (qE B t (qE B t (qE B t i))) = (some (up2 (adK K kd (nI r)) 3 (nn K) 30), qE B t (qE B t (qE B t i))) := dt_u hc36 (by exact ad_n.1)
                                    have ed2 : dtR B t 14 4 (nn K) 3 (up2 (adK K kd (nI r)) 3 (nn K) 30) (qE B t (qE B t (qE B t i))) = (some (up2 (up2 (adK K kd (nI r)) 3 (nn K) 30) 4 (nn K) 0), qE B t (qE B t (qE B t i))) := dt_u hc171 (by rw [up2_up, if_neg (by omega)]; exact ad_n.2.1)
                                    have ed3 : dtR B t 15 5 (nn K) 9999 (up2 (up2 (adK K kd (nI r)) 3 (nn K) 30) 4 (nn K) 0) (qE B t (qE B t (qE B t i))) = (some (up2 (up2 (up2 (adK K kd (nI r)) 3 (nn K) 30) 4 (nn K) 0) 5 (nn K) 100), qE B t (qE B t (qE B t i))) := dt_u hc237 (by rw [up2_up, if_neg (by omega)]; rw [up2_up, if_neg (by omega)]; exact ad_n.2.2.1)
                                    have ed4 : dtR B t 16 6 (nn K) (nI (nn K) - 1) (up2 (up2 (up2 (adK K kd (nI r)) 3 (nn K) 30) 4 (nn K) 0) 5 (nn K) 100) (qE B t (qE B t (qE B t i))) = (some (up2 (up2 (up2 (up2 (adK K kd (nI r)) 3 (nn K) 30) 4 (nn K) 0) 5 (nn K) 100) 6 (nn K) (-1)), qE B t (qE B t (qE B t i))) := dt_u hc269 (by rw [up2_up, if_neg (by omega)]; rw [up2_up, if_neg (by omega)]; rw [up2_up, if_neg (by omega)]; exact ad_n.2.2.2)
                                    exact gx_vret C hr hlk (MTR.yes1 Fm.rf hP (((((F1.rf.tr hF285).up).up).up).up) hM292 (by unfold psR; rw [if_pos ⟨hk0, by omega⟩]; unfold ps1; rw [if_pos hc7]; unfold ps2; rw [er, cr, if_pos ⟨hc35, hS⟩]; unfold psD; simp only [ed1, ed2, ed3, ed4, bdR_s, bdR_n])) dX4_personItem_239
                                  ·
                                    exact absurd h284 (by decide)
                                ·
                                  exact absurd h283 (by decide)
                            ·
                              exact absurd h268 (by decide)
                        ·
                          exact absurd h236 (by decide)
                    ·
                      exact absurd h170 (by decide)
                ·
                  obtain ⟨er35, wa35, wb35⟩ := w35
                  obtain rfl := wb35 hc35
                  refine gx_st (st' := [.int (qV B t (qE B t (qE B t i)))]) (by rw [er35]) ?_
                  refine gx_istore_n (lv2 := [(2, .int (qV B t (qE B t (qE B t i)))), (0, .ref (eA E 49)), (1, .int kd)]) C dX4_personItem_83 (by rfl) (by decide) rfl ?_
                  refine gx_aload_n C dX4_personItem_84 (by rfl) (by rfl) ?_
                  refine gx_ldcwS 30 C rfl dX4_personItem_85 ?_
                  refine gx_callVI (As := [.ref (eZ E (100 + 30))]) (rest := []) C (c_X4_takes_b E σ B t hP (qE B t (qE B t i)) (qE_le (B := B) (qE_le (B := B) hi)) 13 30 (by decide) rfl) z_X4_takes ck4 (by rfl) (by rfl) ml_X4_238 (by rfl) (Nat.le_of_ble_eq_true rfl) ⟨Nat.le_of_ble_eq_true rfl, Nat.le_of_ble_eq_true rfl⟩ dX4_personItem_88 (fun r294 σ294 w294 => ?_)
                  obtain ⟨u1, u2⟩ := w294; rw [u1, u2]; clear u1 u2
                  refine gx_if_eq (tgt := 105) C dX4_personItem_91 (by decide) (fun h295 => ?_) (fun h295 => ?_)
                  ·
                    clear h295
                    refine gx_bipush (v := 30) C dX4_personItem_105 (by decide) ?_
                    refine gx_istore_n (lv2 := [(3, .int 30), (2, .int (qV B t (qE B t (qE B t i)))), (0, .ref (eA E 49)), (1, .int kd)]) C dX4_personItem_107 (by rfl) (by decide) rfl ?_
                    refine gx_aload_n C dX4_personItem_108 (by rfl) (by rfl) ?_
                    refine gx_ldcwS 31 C rfl dX4_personItem_109 ?_
                    refine gx_callVI (As := [.ref (eZ E (100 + 31))]) (rest := []) C (c_X4_takes_b E σ B t hP (qE B t (qE B t i)) (qE_le (B := B) (qE_le (B := B) hi)) 14 31 (by decide) rfl) z_X4_takes ck4 (by rfl) (by rfl) ml_X4_238 (by rfl) (Nat.le_of_ble_eq_true rfl) ⟨Nat.le_of_ble_eq_true rfl, Nat.le_of_ble_eq_true rfl⟩ dX4_personItem_112 (fun r296 σ296 w296 => ?_)
                    obtain ⟨u1, u2⟩ := w296; rw [u1, u2]; clear u1 u2
                    refine gx_if_eq (tgt := 128) C dX4_personItem_115 (by decide) (fun h297 => ?_) (fun h297 => ?_)
                    ·
                      clear h297
                      refine gx_iconst (v := 0) C dX4_personItem_128 (by decide) ?_
                      refine gx_istore (lv2 := [(4, .int 0), (3, .int 30), (2, .int (qV B t (qE B t (qE B t i)))), (0, .ref (eA E 49)), (1, .int kd)]) C dX4_personItem_129 (by decide) rfl ?_
                      refine gx_aload_n C dX4_personItem_131 (by rfl) (by rfl) ?_
                      refine gx_ldcwS 32 C rfl dX4_personItem_132 ?_
                      refine gx_callVI (As := [.ref (eZ E (100 + 32))]) (rest := []) C (c_X4_takes_b E σ B t hP (qE B t (qE B t i)) (qE_le (B := B) (qE_le (B := B) hi)) 15 32 (by decide) rfl) z_X4_takes ck4 (by rfl) (by rfl) ml_X4_238 (by rfl) (Nat.le_of_ble_eq_true rfl) ⟨Nat.le_of_ble_eq_true rfl, Nat.le_of_ble_eq_true rfl⟩ dX4_personItem_135 (fun r298 σ298 w298 => ?_)
                      obtain ⟨u1, u2⟩ := w298; rw [u1, u2]; clear u1 u2
                      refine gx_if_eq (tgt := 153) C dX4_personItem_138 (by decide) (fun h299 => ?_) (fun h299 => ?_)
                      ·
                        clear h299
                        refine gx_bipush (v := 100) C dX4_personItem_153 (by decide) ?_
                        refine gx_istore (lv2 := [(5, .int 100), (4, .int 0), (3, .int 30), (2, .int (qV B t (qE B t (qE B t i)))), (0, .ref (eA E 49)), (1, .int kd)]) C dX4_personItem_155 (by decide) rfl ?_
                        refine gx_aload_n C dX4_personItem_157 (by rfl) (by rfl) ?_
                        refine gx_ldcwS 33 C rfl dX4_personItem_158 ?_
                        refine gx_callVI (As := [.ref (eZ E (100 + 33))]) (rest := []) C (c_X4_takes_b E σ B t hP (qE B t (qE B t i)) (qE_le (B := B) (qE_le (B := B) hi)) 16 33 (by decide) rfl) z_X4_takes ck4 (by rfl) (by rfl) ml_X4_238 (by rfl) (Nat.le_of_ble_eq_true rfl) ⟨Nat.le_of_ble_eq_true rfl, Nat.le_of_ble_eq_true rfl⟩ dX4_personItem_161 (fun r300 σ300 w300 => ?_)
                        obtain ⟨u1, u2⟩ := w300; rw [u1, u2]; clear u1 u2
                        refine gx_if_eq (tgt := 185) C dX4_personItem_164 (by decide) (fun h301 => ?_) (fun h301 => ?_)
                        ·
                          clear h301
                          refine gx_iconst (v := (-1)) C dX4_personItem_185 (by decide) ?_
                          refine gx_istore (lv2 := [(6, .int (-1)), (5, .int 100), (4, .int 0), (3, .int 30), (2, .int (qV B t (qE B t (qE B t i)))), (0, .ref (eA E 49)), (1, .int kd)]) C dX4_personItem_186 (by decide) rfl ?_
                          refine gx_aload_n C dX4_personItem_188 (by rfl) (by rfl) ?_
                          refine gx_geti (k := 12) C ck4 (by rfl) (by rfl) (by decide) fl_X4_218 dX4_personItem_189 ?_
                          refine gx_st (st' := [.int 1]) (by rw [mq_12]) ?_
                          refine gx_if_eq (tgt := 196) C dX4_personItem_192 (by decide) (fun h302 => ?_) (fun h302 => ?_)
                          ·
                            exact absurd h302 (by decide)
                          ·
                            clear h302
                            exact gx_vret C hr hlk (MTR.no Fm.rf hP (by unfold psR; rw [if_pos ⟨hk0, by omega⟩]; unfold ps1; rw [if_pos hc7]; unfold ps2; rw [if_neg (fun q9 => hc35 q9.1)])) dX4_personItem_195
                        ·
                          exact absurd h301 (by decide)
                      ·
                        exact absurd h299 (by decide)
                    ·
                      exact absurd h297 (by decide)
                  ·
                    exact absurd h295 (by decide)
          ·
            obtain rfl := w7.2 hc7
            refine gx_aload_n C dX4_personItem_50 (by rfl) (by rfl) ?_
            refine gx_iconst (v := 0) C dX4_personItem_51 (by decide) ?_
            refine gx_bipush (v := 7) C dX4_personItem_52 (by decide) ?_
            refine gx_aload_n C dX4_personItem_54 (by rfl) (by rfl) ?_
            refine gx_geti (k := 11) C ck4 (by rfl) (by rfl) (by decide) fl_X4_212 dX4_personItem_55 ?_
            refine gx_st (st' := [.int (qV B t (qE B t i)), .int 7, .int 0, .ref (eA E 49)]) (by rw [mq_11]) ?_
            refine gx_callSI (As := [.int (qV B t (qE B t i))]) (rest := [.int 7, .int 0, .ref (eA E 49)]) C (c_X4_isRank E (mq σ B t (qE B t i) 1) (qV B t (qE B t i))) z_X4_isRank (by rfl) ml_X4_61 (by rfl) (Nat.le_of_ble_eq_true rfl) ⟨Nat.le_of_ble_eq_true rfl, Nat.le_of_ble_eq_true rfl⟩ dX4_personItem_58 (fun r303 σ303 w303 => ?_)
            obtain ⟨u1, u2⟩ := w303; rw [u1, u2]; clear u1 u2
            refine gx_if_eq (tgt := 75) C dX4_personItem_61 (by decide) (fun h304 => ?_) (fun h304 => ?_)
            ·
              have h304 := b2_z.mp h304
              have hnrk := h304
              refine gx_iconst (v := 1) C dX4_personItem_75 (by decide) ?_
              refine gx_goto (tgt := 80) C dX4_personItem_76 (by decide) ?_
              refine gx_callVI (As := [.int 0, .int 7, .int 1]) (rest := []) C (c_X4_number_b E σ B t hP (qE B t i) (qE_le (B := B) hi) 0 7 1) z_X4_number ck4 (by rfl) (by rfl) ml_X4_260 (by rfl) (Nat.le_of_ble_eq_true rfl) ⟨Nat.le_of_ble_eq_true rfl, Nat.le_of_ble_eq_true rfl⟩ dX4_personItem_80 (fun r305 σ305 w305 => ?_)
              obtain ⟨u1, u2⟩ := w305; rw [u1, u2]; clear u1 u2
              refine gx_istore_n (lv2 := [(2, .int (qV B t (qE B t i))), (0, .ref (eA E 49)), (1, .int kd)]) C dX4_personItem_83 (by rfl) (by decide) rfl ?_
              refine gx_aload_n C dX4_personItem_84 (by rfl) (by rfl) ?_
              refine gx_ldcwS 30 C rfl dX4_personItem_85 ?_
              refine gx_callVI (As := [.ref (eZ E (100 + 30))]) (rest := []) C (c_X4_takes_b E σ B t hP (qE B t i) (qE_le (B := B) hi) 13 30 (by decide) rfl) z_X4_takes ck4 (by rfl) (by rfl) ml_X4_238 (by rfl) (Nat.le_of_ble_eq_true rfl) ⟨Nat.le_of_ble_eq_true rfl, Nat.le_of_ble_eq_true rfl⟩ dX4_personItem_88 (fun r306 σ306 w306 => ?_)
              obtain ⟨u1, u2⟩ := w306; rw [u1, u2]; clear u1 u2
              refine gx_if_eq (tgt := 105) C dX4_personItem_91 (by decide) (fun h307 => ?_) (fun h307 => ?_)
              ·
                clear h307
                refine gx_bipush (v := 30) C dX4_personItem_105 (by decide) ?_
                refine gx_istore_n (lv2 := [(3, .int 30), (2, .int (qV B t (qE B t i))), (0, .ref (eA E 49)), (1, .int kd)]) C dX4_personItem_107 (by rfl) (by decide) rfl ?_
                refine gx_aload_n C dX4_personItem_108 (by rfl) (by rfl) ?_
                refine gx_ldcwS 31 C rfl dX4_personItem_109 ?_
                refine gx_callVI (As := [.ref (eZ E (100 + 31))]) (rest := []) C (c_X4_takes_b E σ B t hP (qE B t i) (qE_le (B := B) hi) 14 31 (by decide) rfl) z_X4_takes ck4 (by rfl) (by rfl) ml_X4_238 (by rfl) (Nat.le_of_ble_eq_true rfl) ⟨Nat.le_of_ble_eq_true rfl, Nat.le_of_ble_eq_true rfl⟩ dX4_personItem_112 (fun r308 σ308 w308 => ?_)
                obtain ⟨u1, u2⟩ := w308; rw [u1, u2]; clear u1 u2
                refine gx_if_eq (tgt := 128) C dX4_personItem_115 (by decide) (fun h309 => ?_) (fun h309 => ?_)
                ·
                  clear h309
                  refine gx_iconst (v := 0) C dX4_personItem_128 (by decide) ?_
                  refine gx_istore (lv2 := [(4, .int 0), (3, .int 30), (2, .int (qV B t (qE B t i))), (0, .ref (eA E 49)), (1, .int kd)]) C dX4_personItem_129 (by decide) rfl ?_
                  refine gx_aload_n C dX4_personItem_131 (by rfl) (by rfl) ?_
                  refine gx_ldcwS 32 C rfl dX4_personItem_132 ?_
                  refine gx_callVI (As := [.ref (eZ E (100 + 32))]) (rest := []) C (c_X4_takes_b E σ B t hP (qE B t i) (qE_le (B := B) hi) 15 32 (by decide) rfl) z_X4_takes ck4 (by rfl) (by rfl) ml_X4_238 (by rfl) (Nat.le_of_ble_eq_true rfl) ⟨Nat.le_of_ble_eq_true rfl, Nat.le_of_ble_eq_true rfl⟩ dX4_personItem_135 (fun r310 σ310 w310 => ?_)
                  obtain ⟨u1, u2⟩ := w310; rw [u1, u2]; clear u1 u2
                  refine gx_if_eq (tgt := 153) C dX4_personItem_138 (by decide) (fun h311 => ?_) (fun h311 => ?_)
                  ·
                    clear h311
                    refine gx_bipush (v := 100) C dX4_personItem_153 (by decide) ?_
                    refine gx_istore (lv2 := [(5, .int 100), (4, .int 0), (3, .int 30), (2, .int (qV B t (qE B t i))), (0, .ref (eA E 49)), (1, .int kd)]) C dX4_personItem_155 (by decide) rfl ?_
                    refine gx_aload_n C dX4_personItem_157 (by rfl) (by rfl) ?_
                    refine gx_ldcwS 33 C rfl dX4_personItem_158 ?_
                    refine gx_callVI (As := [.ref (eZ E (100 + 33))]) (rest := []) C (c_X4_takes_b E σ B t hP (qE B t i) (qE_le (B := B) hi) 16 33 (by decide) rfl) z_X4_takes ck4 (by rfl) (by rfl) ml_X4_238 (by rfl) (Nat.le_of_ble_eq_true rfl) ⟨Nat.le_of_ble_eq_true rfl, Nat.le_of_ble_eq_true rfl⟩ dX4_personItem_161 (fun r312 σ312 w312 => ?_)
                    obtain ⟨u1, u2⟩ := w312; rw [u1, u2]; clear u1 u2
                    refine gx_if_eq (tgt := 185) C dX4_personItem_164 (by decide) (fun h313 => ?_) (fun h313 => ?_)
                    ·
                      clear h313
                      refine gx_iconst (v := (-1)) C dX4_personItem_185 (by decide) ?_
                      refine gx_istore (lv2 := [(6, .int (-1)), (5, .int 100), (4, .int 0), (3, .int 30), (2, .int (qV B t (qE B t i))), (0, .ref (eA E 49)), (1, .int kd)]) C dX4_personItem_186 (by decide) rfl ?_
                      refine gx_aload_n C dX4_personItem_188 (by rfl) (by rfl) ?_
                      refine gx_geti (k := 12) C ck4 (by rfl) (by rfl) (by decide) fl_X4_218 dX4_personItem_189 ?_
                      refine gx_st (st' := [.int 1]) (by rw [mq_12]) ?_
                      refine gx_if_eq (tgt := 196) C dX4_personItem_192 (by decide) (fun h314 => ?_) (fun h314 => ?_)
                      ·
                        exact absurd h314 (by decide)
                      ·
                        clear h314
                        exact gx_vret C hr hlk (MTR.no Fm.rf hP (by unfold psR; rw [if_pos ⟨hk0, by omega⟩]; unfold ps1; rw [if_neg hc7])) dX4_personItem_195
                    ·
                      exact absurd h313 (by decide)
                  ·
                    exact absurd h311 (by decide)
                ·
                  exact absurd h309 (by decide)
              ·
                exact absurd h307 (by decide)
            ·
              have h304 := b2_nz.mp h304
              obtain ⟨r, hr8, er⟩ : ∃ r, r < 8 ∧ qV B t (qE B t i) = nI r := by
                obtain ⟨r, h1, h2⟩ := i_nat (M := 7) (n := 7) (by decide) h304
                exact ⟨r, by omega, h2⟩
              have cr : cl (nI r) = r := nI_clamp (by omega)
              refine gx_aload_n C dX4_personItem_64 (by rfl) (by rfl) ?_
              refine gx_aload_n C dX4_personItem_65 (by rfl) (by rfl) ?_
              refine gx_geti (k := 11) C ck4 (by rfl) (by rfl) (by decide) fl_X4_212 dX4_personItem_66 ?_
              refine gx_st (st' := [.int (nI r), .ref (eA E 49), .int 7, .int 0, .ref (eA E 49)]) (by rw [mq_11, er]) ?_
              refine gx_callVI (As := [.int (nI r)]) (rest := [.int 7, .int 0, .ref (eA E 49)]) C (c_X4_hasSeat E (mq σ B t (qE B t i) 1) K (vM_mq.trans hM : vM (mq σ B t (qE B t i) 1) 50 = K) hO r (by omega)) z_X4_hasSeat ck4 (by rfl) (by rfl) ml_X4_94 (by rfl) (Nat.le_of_ble_eq_true rfl) ⟨Nat.le_of_ble_eq_true rfl, Nat.le_of_ble_eq_true rfl⟩ dX4_personItem_69 (fun r315 σ315 w315 => ?_)
              obtain ⟨u1, u2⟩ := w315; rw [u1, u2]; clear u1 u2
              refine gx_if_eq (tgt := 79) C dX4_personItem_72 (by decide) (fun h316 => ?_) (fun h316 => ?_)
              ·
                have h316 := b2_z.mp h316
                have hS := h316
                refine gx_iconst (v := 0) C dX4_personItem_79 (by decide) ?_
                refine gx_callVI (As := [.int 0, .int 7, .int 0]) (rest := []) C (c_X4_number_b E σ B t hP (qE B t i) (qE_le (B := B) hi) 0 7 0) z_X4_number ck4 (by rfl) (by rfl) ml_X4_260 (by rfl) (Nat.le_of_ble_eq_true rfl) ⟨Nat.le_of_ble_eq_true rfl, Nat.le_of_ble_eq_true rfl⟩ dX4_personItem_80 (fun r317 σ317 w317 => ?_)
                obtain ⟨u1, u2⟩ := w317; rw [u1, u2]; clear u1 u2
                refine gx_istore_n (lv2 := [(2, .int (qV B t (qE B t i))), (0, .ref (eA E 49)), (1, .int kd)]) C dX4_personItem_83 (by rfl) (by decide) rfl ?_
                refine gx_aload_n C dX4_personItem_84 (by rfl) (by rfl) ?_
                refine gx_ldcwS 30 C rfl dX4_personItem_85 ?_
                refine gx_callVI (As := [.ref (eZ E (100 + 30))]) (rest := []) C (c_X4_takes_b E σ B t hP (qE B t i) (qE_le (B := B) hi) 13 30 (by decide) rfl) z_X4_takes ck4 (by rfl) (by rfl) ml_X4_238 (by rfl) (Nat.le_of_ble_eq_true rfl) ⟨Nat.le_of_ble_eq_true rfl, Nat.le_of_ble_eq_true rfl⟩ dX4_personItem_88 (fun r318 σ318 w318 => ?_)
                obtain ⟨u1, u2⟩ := w318; rw [u1, u2]; clear u1 u2
                refine gx_if_eq (tgt := 105) C dX4_personItem_91 (by decide) (fun h319 => ?_) (fun h319 => ?_)
                ·
                  clear h319
                  refine gx_bipush (v := 30) C dX4_personItem_105 (by decide) ?_
                  refine gx_istore_n (lv2 := [(3, .int 30), (2, .int (qV B t (qE B t i))), (0, .ref (eA E 49)), (1, .int kd)]) C dX4_personItem_107 (by rfl) (by decide) rfl ?_
                  refine gx_aload_n C dX4_personItem_108 (by rfl) (by rfl) ?_
                  refine gx_ldcwS 31 C rfl dX4_personItem_109 ?_
                  refine gx_callVI (As := [.ref (eZ E (100 + 31))]) (rest := []) C (c_X4_takes_b E σ B t hP (qE B t i) (qE_le (B := B) hi) 14 31 (by decide) rfl) z_X4_takes ck4 (by rfl) (by rfl) ml_X4_238 (by rfl) (Nat.le_of_ble_eq_true rfl) ⟨Nat.le_of_ble_eq_true rfl, Nat.le_of_ble_eq_true rfl⟩ dX4_personItem_112 (fun r320 σ320 w320 => ?_)
                  obtain ⟨u1, u2⟩ := w320; rw [u1, u2]; clear u1 u2
                  refine gx_if_eq (tgt := 128) C dX4_personItem_115 (by decide) (fun h321 => ?_) (fun h321 => ?_)
                  ·
                    clear h321
                    refine gx_iconst (v := 0) C dX4_personItem_128 (by decide) ?_
                    refine gx_istore (lv2 := [(4, .int 0), (3, .int 30), (2, .int (qV B t (qE B t i))), (0, .ref (eA E 49)), (1, .int kd)]) C dX4_personItem_129 (by decide) rfl ?_
                    refine gx_aload_n C dX4_personItem_131 (by rfl) (by rfl) ?_
                    refine gx_ldcwS 32 C rfl dX4_personItem_132 ?_
                    refine gx_callVI (As := [.ref (eZ E (100 + 32))]) (rest := []) C (c_X4_takes_b E σ B t hP (qE B t i) (qE_le (B := B) hi) 15 32 (by decide) rfl) z_X4_takes ck4 (by rfl) (by rfl) ml_X4_238 (by rfl) (Nat.le_of_ble_eq_true rfl) ⟨Nat.le_of_ble_eq_true rfl, Nat.le_of_ble_eq_true rfl⟩ dX4_personItem_135 (fun r322 σ322 w322 => ?_)
                    obtain ⟨u1, u2⟩ := w322; rw [u1, u2]; clear u1 u2
                    refine gx_if_eq (tgt := 153) C dX4_personItem_138 (by decide) (fun h323 => ?_) (fun h323 => ?_)
                    ·
                      clear h323
                      refine gx_bipush (v := 100) C dX4_personItem_153 (by decide) ?_
                      refine gx_istore (lv2 := [(5, .int 100), (4, .int 0), (3, .int 30), (2, .int (qV B t (qE B t i))), (0, .ref (eA E 49)), (1, .int kd)]) C dX4_personItem_155 (by decide) rfl ?_
                      refine gx_aload_n C dX4_personItem_157 (by rfl) (by rfl) ?_
                      refine gx_ldcwS 33 C rfl dX4_personItem_158 ?_
                      refine gx_callVI (As := [.ref (eZ E (100 + 33))]) (rest := []) C (c_X4_takes_b E σ B t hP (qE B t i) (qE_le (B := B) hi) 16 33 (by decide) rfl) z_X4_takes ck4 (by rfl) (by rfl) ml_X4_238 (by rfl) (Nat.le_of_ble_eq_true rfl) ⟨Nat.le_of_ble_eq_true rfl, Nat.le_of_ble_eq_true rfl⟩ dX4_personItem_161 (fun r324 σ324 w324 => ?_)
                      obtain ⟨u1, u2⟩ := w324; rw [u1, u2]; clear u1 u2
                      refine gx_if_eq (tgt := 185) C dX4_personItem_164 (by decide) (fun h325 => ?_) (fun h325 => ?_)
                      ·
                        clear h325
                        refine gx_iconst (v := (-1)) C dX4_personItem_185 (by decide) ?_
                        refine gx_istore (lv2 := [(6, .int (-1)), (5, .int 100), (4, .int 0), (3, .int 30), (2, .int (qV B t (qE B t i))), (0, .ref (eA E 49)), (1, .int kd)]) C dX4_personItem_186 (by decide) rfl ?_
                        refine gx_aload_n C dX4_personItem_188 (by rfl) (by rfl) ?_
                        refine gx_geti (k := 12) C ck4 (by rfl) (by rfl) (by decide) fl_X4_218 dX4_personItem_189 ?_
                        refine gx_st (st' := [.int 1]) (by rw [mq_12]) ?_
                        refine gx_if_eq (tgt := 196) C dX4_personItem_192 (by decide) (fun h326 => ?_) (fun h326 => ?_)
                        ·
                          exact absurd h326 (by decide)
                        ·
                          clear h326
                          exact gx_vret C hr hlk (MTR.no Fm.rf hP (by unfold psR; rw [if_pos ⟨hk0, by omega⟩]; unfold ps1; rw [if_neg hc7])) dX4_personItem_195
                      ·
                        exact absurd h325 (by decide)
                    ·
                      exact absurd h323 (by decide)
                  ·
                    exact absurd h321 (by decide)
                ·
                  exact absurd h319 (by decide)
              ·
                have h316 := b2_nz.mp h316
                have hS := h316
                refine gx_iconst (v := 1) C dX4_personItem_75 (by decide) ?_
                refine gx_goto (tgt := 80) C dX4_personItem_76 (by decide) ?_
                refine gx_callVI (As := [.int 0, .int 7, .int 1]) (rest := []) C (c_X4_number_b E σ B t hP (qE B t i) (qE_le (B := B) hi) 0 7 1) z_X4_number ck4 (by rfl) (by rfl) ml_X4_260 (by rfl) (Nat.le_of_ble_eq_true rfl) ⟨Nat.le_of_ble_eq_true rfl, Nat.le_of_ble_eq_true rfl⟩ dX4_personItem_80 (fun r327 σ327 w327 => ?_)
                obtain ⟨u1, u2⟩ := w327; rw [u1, u2]; clear u1 u2
                refine gx_istore_n (lv2 := [(2, .int (qV B t (qE B t i))), (0, .ref (eA E 49)), (1, .int kd)]) C dX4_personItem_83 (by rfl) (by decide) rfl ?_
                refine gx_aload_n C dX4_personItem_84 (by rfl) (by rfl) ?_
                refine gx_ldcwS 30 C rfl dX4_personItem_85 ?_
                refine gx_callVI (As := [.ref (eZ E (100 + 30))]) (rest := []) C (c_X4_takes_b E σ B t hP (qE B t i) (qE_le (B := B) hi) 13 30 (by decide) rfl) z_X4_takes ck4 (by rfl) (by rfl) ml_X4_238 (by rfl) (Nat.le_of_ble_eq_true rfl) ⟨Nat.le_of_ble_eq_true rfl, Nat.le_of_ble_eq_true rfl⟩ dX4_personItem_88 (fun r328 σ328 w328 => ?_)
                obtain ⟨u1, u2⟩ := w328; rw [u1, u2]; clear u1 u2
                refine gx_if_eq (tgt := 105) C dX4_personItem_91 (by decide) (fun h329 => ?_) (fun h329 => ?_)
                ·
                  clear h329
                  refine gx_bipush (v := 30) C dX4_personItem_105 (by decide) ?_
                  refine gx_istore_n (lv2 := [(3, .int 30), (2, .int (qV B t (qE B t i))), (0, .ref (eA E 49)), (1, .int kd)]) C dX4_personItem_107 (by rfl) (by decide) rfl ?_
                  refine gx_aload_n C dX4_personItem_108 (by rfl) (by rfl) ?_
                  refine gx_ldcwS 31 C rfl dX4_personItem_109 ?_
                  refine gx_callVI (As := [.ref (eZ E (100 + 31))]) (rest := []) C (c_X4_takes_b E σ B t hP (qE B t i) (qE_le (B := B) hi) 14 31 (by decide) rfl) z_X4_takes ck4 (by rfl) (by rfl) ml_X4_238 (by rfl) (Nat.le_of_ble_eq_true rfl) ⟨Nat.le_of_ble_eq_true rfl, Nat.le_of_ble_eq_true rfl⟩ dX4_personItem_112 (fun r330 σ330 w330 => ?_)
                  obtain ⟨u1, u2⟩ := w330; rw [u1, u2]; clear u1 u2
                  refine gx_if_eq (tgt := 128) C dX4_personItem_115 (by decide) (fun h331 => ?_) (fun h331 => ?_)
                  ·
                    clear h331
                    refine gx_iconst (v := 0) C dX4_personItem_128 (by decide) ?_
                    refine gx_istore (lv2 := [(4, .int 0), (3, .int 30), (2, .int (qV B t (qE B t i))), (0, .ref (eA E 49)), (1, .int kd)]) C dX4_personItem_129 (by decide) rfl ?_
                    refine gx_aload_n C dX4_personItem_131 (by rfl) (by rfl) ?_
                    refine gx_ldcwS 32 C rfl dX4_personItem_132 ?_
                    refine gx_callVI (As := [.ref (eZ E (100 + 32))]) (rest := []) C (c_X4_takes_b E σ B t hP (qE B t i) (qE_le (B := B) hi) 15 32 (by decide) rfl) z_X4_takes ck4 (by rfl) (by rfl) ml_X4_238 (by rfl) (Nat.le_of_ble_eq_true rfl) ⟨Nat.le_of_ble_eq_true rfl, Nat.le_of_ble_eq_true rfl⟩ dX4_personItem_135 (fun r332 σ332 w332 => ?_)
                    obtain ⟨u1, u2⟩ := w332; rw [u1, u2]; clear u1 u2
                    refine gx_if_eq (tgt := 153) C dX4_personItem_138 (by decide) (fun h333 => ?_) (fun h333 => ?_)
                    ·
                      clear h333
                      refine gx_bipush (v := 100) C dX4_personItem_153 (by decide) ?_
                      refine gx_istore (lv2 := [(5, .int 100), (4, .int 0), (3, .int 30), (2, .int (qV B t (qE B t i))), (0, .ref (eA E 49)), (1, .int kd)]) C dX4_personItem_155 (by decide) rfl ?_
                      refine gx_aload_n C dX4_personItem_157 (by rfl) (by rfl) ?_
                      refine gx_ldcwS 33 C rfl dX4_personItem_158 ?_
                      refine gx_callVI (As := [.ref (eZ E (100 + 33))]) (rest := []) C (c_X4_takes_b E σ B t hP (qE B t i) (qE_le (B := B) hi) 16 33 (by decide) rfl) z_X4_takes ck4 (by rfl) (by rfl) ml_X4_238 (by rfl) (Nat.le_of_ble_eq_true rfl) ⟨Nat.le_of_ble_eq_true rfl, Nat.le_of_ble_eq_true rfl⟩ dX4_personItem_161 (fun r334 σ334 w334 => ?_)
                      obtain ⟨u1, u2⟩ := w334; rw [u1, u2]; clear u1 u2
                      refine gx_if_eq (tgt := 185) C dX4_personItem_164 (by decide) (fun h335 => ?_) (fun h335 => ?_)
                      ·
                        clear h335
                        refine gx_iconst (v := (-1)) C dX4_personItem_185 (by decide) ?_
                        refine gx_istore (lv2 := [(6, .int (-1)), (5, .int 100), (4, .int 0), (3, .int 30), (2, .int (qV B t (qE B t i))), (0, .ref (eA E 49)), (1, .int kd)]) C dX4_personItem_186 (by decide) rfl ?_
                        refine gx_aload_n C dX4_personItem_188 (by rfl) (by rfl) ?_
                        refine gx_geti (k := 12) C ck4 (by rfl) (by rfl) (by decide) fl_X4_218 dX4_personItem_189 ?_
                        refine gx_st (st' := [.int 1]) (by rw [mq_12]) ?_
                        refine gx_if_eq (tgt := 196) C dX4_personItem_192 (by decide) (fun h336 => ?_) (fun h336 => ?_)
                        ·
                          exact absurd h336 (by decide)
                        ·
                          clear h336
                          exact gx_vret C hr hlk (MTR.no Fm.rf hP (by unfold psR; rw [if_pos ⟨hk0, by omega⟩]; unfold ps1; rw [if_neg hc7])) dX4_personItem_195
                      ·
                        exact absurd h335 (by decide)
                    ·
                      exact absurd h333 (by decide)
                  ·
                    exact absurd h331 (by decide)
                ·
                  exact absurd h329 (by decide)
        ·
          exact absurd h5 (by decide)
      ·
        have h4 := (nI_eq (a := (nn K)) (b := 12) (by omega) (by omega)).mp h4
        refine gx_iconst (v := 1) C dX4_personItem_24 (by decide) ?_
        refine gx_goto (tgt := 29) C dX4_personItem_25 (by decide) ?_
        refine gx_puti (k := 12) C ck4 (by rfl) (by rfl) (by decide) (by rfl) (by first | rfl | exact nb_b2 _) (by first | rfl | exact fb_b2 _) fl_X4_218 dX4_personItem_29 ?_
        refine gx_mm (σ' := mq σ B t i 1) mq_w12 ?_
        refine gx_aload_n C dX4_personItem_32 (by rfl) (by rfl) ?_
        refine gx_geti (k := 12) C ck4 (by rfl) (by rfl) (by decide) fl_X4_218 dX4_personItem_33 ?_
        refine gx_st (st' := [.int 1]) (by rw [mq_12]) ?_
        refine gx_if_eq (tgt := 40) C dX4_personItem_36 (by decide) (fun h337 => ?_) (fun h337 => ?_)
        ·
          exact absurd h337 (by decide)
        ·
          clear h337
          exact gx_vret C hr hlk (MTR.no Fm.rf hP (by unfold psR; rw [if_neg (fun q9 => by first | omega | exact hk9 q9.1)])) dX4_personItem_39
set_option maxHeartbeats 4000000 in
set_option maxRecDepth 100000 in
theorem c_X4_item (E : En) (σ : Mm) (B : Nat → Int32) (t : Nat) (hP : Mp σ B t) (i : Nat) (hi : i ≤ t) (K : Mm) (hM : vM σ 50 = K) (hO : Ok K) : CtV E yX4_item cX4_item 1 none 8 177 [.ref (eA E 49)] (mq σ B t i 0) (fun σ2 => MTR B t σ (itR B t K i) σ2) := by
  have ht := hP.2.1
  have h12 := hO.1.2
  have hn := hO.1.1
  refine CtV.of (by decide +kernel) (Nat.le_of_ble_eq_true rfl) (fun p e0 s m below meth c C hr hlk => ?_)
  refine gx_lv (lv' := [(0, .ref (eA E 49))]) rfl ?_
  refine gx_aload_n C dX4_item_0 (by rfl) (by rfl) ?_
  refine gx_ldcwS 17 C rfl dX4_item_1 ?_
  refine gx_callVI (As := [.ref (eZ E (100 + 17))]) (rest := []) C (c_X4_takes E σ B t hP i hi 0 17 (by decide) rfl) z_X4_takes ck4 (by rfl) (by rfl) ml_X4_238 (by rfl) (Nat.le_of_ble_eq_true rfl) ⟨Nat.le_of_ble_eq_true rfl, Nat.le_of_ble_eq_true rfl⟩ dX4_item_4 (fun r1 σ1 w1 => ?_)
  by_cases hc1 : qW B t i 0 = true
  ·
    obtain ⟨rfl, rfl⟩ := w1.1 hc1
    refine gx_if_eq (tgt := 17) C dX4_item_7 (by decide) (fun h2 => ?_) (fun h2 => ?_)
    ·
      exact absurd h2 (by decide)
    ·
      clear h2
      refine gx_aload_n C dX4_item_10 (by rfl) (by rfl) ?_
      refine gx_callVV (As := []) (rest := []) C (c_X4_rankItem E σ B t hP (qE B t i) (qE_le (B := B) hi) K hM hO) z_X4_rankItem ck4 (by rfl) (by rfl) ml_X4_275 (by rfl) (Nat.le_of_ble_eq_true rfl) ⟨Nat.le_of_ble_eq_true rfl, Nat.le_of_ble_eq_true rfl⟩ dX4_item_11 (fun σ3 w3 => ?_)
      refine gx_goto (tgt := 102) C dX4_item_14 (by decide) ?_
      exact gx_vret C hr hlk (MTR.eq w3 Fm.rf (by unfold itR; rw [if_pos hc1])) dX4_item_102
  ·
    obtain ⟨rfl, rfl⟩ := w1.2 hc1
    refine gx_if_eq (tgt := 17) C dX4_item_7 (by decide) (fun h4 => ?_) (fun h4 => ?_)
    ·
      clear h4
      refine gx_aload_n C dX4_item_17 (by rfl) (by rfl) ?_
      refine gx_ldcwS 19 C rfl dX4_item_18 ?_
      refine gx_callVI (As := [.ref (eZ E (100 + 19))]) (rest := []) C (c_X4_takes E σ B t hP i hi 2 19 (by decide) rfl) z_X4_takes ck4 (by rfl) (by rfl) ml_X4_238 (by rfl) (Nat.le_of_ble_eq_true rfl) ⟨Nat.le_of_ble_eq_true rfl, Nat.le_of_ble_eq_true rfl⟩ dX4_item_21 (fun r5 σ5 w5 => ?_)
      by_cases hc5 : qW B t i 2 = true
      ·
        obtain ⟨rfl, rfl⟩ := w5.1 hc5
        refine gx_if_eq (tgt := 42) C dX4_item_24 (by decide) (fun h6 => ?_) (fun h6 => ?_)
        ·
          exact absurd h6 (by decide)
        ·
          clear h6
          refine gx_aload_n C dX4_item_27 (by rfl) (by rfl) ?_
          refine gx_iconst (v := 1) C dX4_item_28 (by decide) ?_
          refine gx_aload_n C dX4_item_29 (by rfl) (by rfl) ?_
          refine gx_iconst (v := 0) C dX4_item_30 (by decide) ?_
          refine gx_iconst (v := 2) C dX4_item_31 (by decide) ?_
          refine gx_iconst (v := 1) C dX4_item_32 (by decide) ?_
          refine gx_callVI (As := [.int 0, .int 2, .int 1]) (rest := [.int 1, .ref (eA E 49)]) C (c_X4_number E σ B t hP (qE B t i) (qE_le (B := B) hi) 0 2) z_X4_number ck4 (by rfl) (by rfl) ml_X4_260 (by rfl) (Nat.le_of_ble_eq_true rfl) ⟨Nat.le_of_ble_eq_true rfl, Nat.le_of_ble_eq_true rfl⟩ dX4_item_33 (fun r7 σ7 w7 => ?_)
          by_cases hc7 : qN B t (qE B t i) 0 2 = true
          ·
            obtain ⟨er7, wa7, wb7⟩ := w7
            obtain rfl := wa7 hc7
            refine gx_st (st' := [.int (qV B t (qE B t i)), .int 1, .ref (eA E 49)]) (by rw [er7]) ?_
            have hM8 : vM (up2 σ 50 (1 + 0) (qV B t (qE B t i))) 50 = up2 K 9 0 (qV B t (qE B t i)) := by rw [vM_up (j := 9) (p := 0) (by omega) (by decide) (by rfl), hM]
            refine gx_callVV (As := [.int 1, .int (qV B t (qE B t i))]) (rest := []) C (c_X4_tells E σ B t hP (qE B t (qE B t i)) (qE_le (B := B) (qE_le (B := B) hi)) 0 (by decide) (qV B t (qE B t i))) z_X4_tells ck4 (by rfl) (by rfl) ml_X4_280 (by rfl) (Nat.le_of_ble_eq_true rfl) ⟨Nat.le_of_ble_eq_true rfl, Nat.le_of_ble_eq_true rfl⟩ dX4_item_36 (fun σ9 w9 => ?_)
            rw [w9]; clear w9
            refine gx_goto (tgt := 102) C dX4_item_39 (by decide) ?_
            have hl0 : lwH B t i = 0 := by unfold lwH; rw [if_pos hc5]
            exact gx_vret C hr hlk (MTR.yes (Fm.rf).up (Mp.up hP (by omega) (by omega)) hM8 (by unfold itR; rw [if_neg hc1, hl0, if_pos (by decide)]; show (if qN B t (qE B t i) 0 2 = true then (some (up2 K 9 0 (qV B t (qE B t i))), qE B t (qE B t i)) else (none, qE B t i)) = _; rw [if_pos hc7])) dX4_item_102
          ·
            obtain ⟨er7, wa7, wb7⟩ := w7
            obtain rfl := wb7 hc7
            refine gx_st (st' := [.int (qV B t (qE B t i)), .int 1, .ref (eA E 49)]) (by rw [er7]) ?_
            refine gx_callVV (As := [.int 1, .int (qV B t (qE B t i))]) (rest := []) C (c_X4_tells_b E σ B t hP (qE B t i) (qE_le (B := B) hi) 0 (by decide) (qV B t (qE B t i))) z_X4_tells ck4 (by rfl) (by rfl) ml_X4_280 (by rfl) (Nat.le_of_ble_eq_true rfl) ⟨Nat.le_of_ble_eq_true rfl, Nat.le_of_ble_eq_true rfl⟩ dX4_item_36 (fun σ10 w10 => ?_)
            rw [w10]; clear w10
            refine gx_goto (tgt := 102) C dX4_item_39 (by decide) ?_
            have hl0 : lwH B t i = 0 := by unfold lwH; rw [if_pos hc5]
            exact gx_vret C hr hlk (MTR.no Fm.rf hP (by unfold itR; rw [if_neg hc1, hl0, if_pos (by decide)]; show (if qN B t (qE B t i) 0 2 = true then (some (up2 K 9 0 (qV B t (qE B t i))), qE B t (qE B t i)) else (none, qE B t i)) = _; rw [if_neg hc7])) dX4_item_102
      ·
        obtain ⟨rfl, rfl⟩ := w5.2 hc5
        refine gx_if_eq (tgt := 42) C dX4_item_24 (by decide) (fun h11 => ?_) (fun h11 => ?_)
        ·
          clear h11
          refine gx_aload_n C dX4_item_42 (by rfl) (by rfl) ?_
          refine gx_ldcwS 20 C rfl dX4_item_43 ?_
          refine gx_callVI (As := [.ref (eZ E (100 + 20))]) (rest := []) C (c_X4_takes E σ B t hP i hi 3 20 (by decide) rfl) z_X4_takes ck4 (by rfl) (by rfl) ml_X4_238 (by rfl) (Nat.le_of_ble_eq_true rfl) ⟨Nat.le_of_ble_eq_true rfl, Nat.le_of_ble_eq_true rfl⟩ dX4_item_46 (fun r14 σ14 w14 => ?_)
          by_cases hc14 : qW B t i 3 = true
          ·
            obtain ⟨rfl, rfl⟩ := w14.1 hc14
            refine gx_if_eq (tgt := 67) C dX4_item_49 (by decide) (fun h15 => ?_) (fun h15 => ?_)
            ·
              exact absurd h15 (by decide)
            ·
              clear h15
              refine gx_aload_n C dX4_item_52 (by rfl) (by rfl) ?_
              refine gx_iconst (v := 2) C dX4_item_53 (by decide) ?_
              refine gx_aload_n C dX4_item_54 (by rfl) (by rfl) ?_
              refine gx_iconst (v := 1) C dX4_item_55 (by decide) ?_
              refine gx_iconst (v := 5) C dX4_item_56 (by decide) ?_
              refine gx_iconst (v := 1) C dX4_item_57 (by decide) ?_
              refine gx_callVI (As := [.int 1, .int 5, .int 1]) (rest := [.int 2, .ref (eA E 49)]) C (c_X4_number E σ B t hP (qE B t i) (qE_le (B := B) hi) 1 5) z_X4_number ck4 (by rfl) (by rfl) ml_X4_260 (by rfl) (Nat.le_of_ble_eq_true rfl) ⟨Nat.le_of_ble_eq_true rfl, Nat.le_of_ble_eq_true rfl⟩ dX4_item_58 (fun r16 σ16 w16 => ?_)
              by_cases hc16 : qN B t (qE B t i) 1 5 = true
              ·
                obtain ⟨er16, wa16, wb16⟩ := w16
                obtain rfl := wa16 hc16
                refine gx_st (st' := [.int (qV B t (qE B t i)), .int 2, .ref (eA E 49)]) (by rw [er16]) ?_
                have hM17 : vM (up2 σ 50 (1 + 1) (qV B t (qE B t i))) 50 = up2 K 9 1 (qV B t (qE B t i)) := by rw [vM_up (j := 9) (p := 1) (by omega) (by decide) (by rfl), hM]
                refine gx_callVV (As := [.int 2, .int (qV B t (qE B t i))]) (rest := []) C (c_X4_tells E σ B t hP (qE B t (qE B t i)) (qE_le (B := B) (qE_le (B := B) hi)) 1 (by decide) (qV B t (qE B t i))) z_X4_tells ck4 (by rfl) (by rfl) ml_X4_280 (by rfl) (Nat.le_of_ble_eq_true rfl) ⟨Nat.le_of_ble_eq_true rfl, Nat.le_of_ble_eq_true rfl⟩ dX4_item_61 (fun σ18 w18 => ?_)
                rw [w18]; clear w18
                refine gx_goto (tgt := 102) C dX4_item_64 (by decide) ?_
                have hl0 : lwH B t i = 1 := by unfold lwH; rw [if_neg hc5, if_pos hc14]
                exact gx_vret C hr hlk (MTR.yes (Fm.rf).up (Mp.up hP (by omega) (by omega)) hM17 (by unfold itR; rw [if_neg hc1, hl0, if_pos (by decide)]; show (if qN B t (qE B t i) 1 5 = true then (some (up2 K 9 1 (qV B t (qE B t i))), qE B t (qE B t i)) else (none, qE B t i)) = _; rw [if_pos hc16])) dX4_item_102
              ·
                obtain ⟨er16, wa16, wb16⟩ := w16
                obtain rfl := wb16 hc16
                refine gx_st (st' := [.int (qV B t (qE B t i)), .int 2, .ref (eA E 49)]) (by rw [er16]) ?_
                refine gx_callVV (As := [.int 2, .int (qV B t (qE B t i))]) (rest := []) C (c_X4_tells_b E σ B t hP (qE B t i) (qE_le (B := B) hi) 1 (by decide) (qV B t (qE B t i))) z_X4_tells ck4 (by rfl) (by rfl) ml_X4_280 (by rfl) (Nat.le_of_ble_eq_true rfl) ⟨Nat.le_of_ble_eq_true rfl, Nat.le_of_ble_eq_true rfl⟩ dX4_item_61 (fun σ19 w19 => ?_)
                rw [w19]; clear w19
                refine gx_goto (tgt := 102) C dX4_item_64 (by decide) ?_
                have hl0 : lwH B t i = 1 := by unfold lwH; rw [if_neg hc5, if_pos hc14]
                exact gx_vret C hr hlk (MTR.no Fm.rf hP (by unfold itR; rw [if_neg hc1, hl0, if_pos (by decide)]; show (if qN B t (qE B t i) 1 5 = true then (some (up2 K 9 1 (qV B t (qE B t i))), qE B t (qE B t i)) else (none, qE B t i)) = _; rw [if_neg hc16])) dX4_item_102
          ·
            obtain ⟨rfl, rfl⟩ := w14.2 hc14
            refine gx_if_eq (tgt := 67) C dX4_item_49 (by decide) (fun h20 => ?_) (fun h20 => ?_)
            ·
              clear h20
              refine gx_aload_n C dX4_item_67 (by rfl) (by rfl) ?_
              refine gx_ldcwS 21 C rfl dX4_item_68 ?_
              refine gx_callVI (As := [.ref (eZ E (100 + 21))]) (rest := []) C (c_X4_takes E σ B t hP i hi 4 21 (by decide) rfl) z_X4_takes ck4 (by rfl) (by rfl) ml_X4_238 (by rfl) (Nat.le_of_ble_eq_true rfl) ⟨Nat.le_of_ble_eq_true rfl, Nat.le_of_ble_eq_true rfl⟩ dX4_item_71 (fun r21 σ21 w21 => ?_)
              by_cases hc21 : qW B t i 4 = true
              ·
                obtain ⟨rfl, rfl⟩ := w21.1 hc21
                refine gx_if_eq (tgt := 94) C dX4_item_74 (by decide) (fun h22 => ?_) (fun h22 => ?_)
                ·
                  exact absurd h22 (by decide)
                ·
                  clear h22
                  refine gx_aload_n C dX4_item_77 (by rfl) (by rfl) ?_
                  refine gx_iconst (v := 3) C dX4_item_78 (by decide) ?_
                  refine gx_aload_n C dX4_item_79 (by rfl) (by rfl) ?_
                  refine gx_iconst (v := 0) C dX4_item_80 (by decide) ?_
                  refine gx_sipush (v := 999) C dX4_item_81 (by decide) ?_
                  refine gx_iconst (v := 1) C dX4_item_84 (by decide) ?_
                  refine gx_callVI (As := [.int 0, .int 999, .int 1]) (rest := [.int 3, .ref (eA E 49)]) C (c_X4_number E σ B t hP (qE B t i) (qE_le (B := B) hi) 0 999) z_X4_number ck4 (by rfl) (by rfl) ml_X4_260 (by rfl) (Nat.le_of_ble_eq_true rfl) ⟨Nat.le_of_ble_eq_true rfl, Nat.le_of_ble_eq_true rfl⟩ dX4_item_85 (fun r23 σ23 w23 => ?_)
                  by_cases hc23 : qN B t (qE B t i) 0 999 = true
                  ·
                    obtain ⟨er23, wa23, wb23⟩ := w23
                    obtain rfl := wa23 hc23
                    refine gx_st (st' := [.int (qV B t (qE B t i)), .int 3, .ref (eA E 49)]) (by rw [er23]) ?_
                    have hM24 : vM (up2 σ 50 (1 + 2) (qV B t (qE B t i))) 50 = up2 K 9 2 (qV B t (qE B t i)) := by rw [vM_up (j := 9) (p := 2) (by omega) (by decide) (by rfl), hM]
                    refine gx_callVV (As := [.int 3, .int (qV B t (qE B t i))]) (rest := []) C (c_X4_tells E σ B t hP (qE B t (qE B t i)) (qE_le (B := B) (qE_le (B := B) hi)) 2 (by decide) (qV B t (qE B t i))) z_X4_tells ck4 (by rfl) (by rfl) ml_X4_280 (by rfl) (Nat.le_of_ble_eq_true rfl) ⟨Nat.le_of_ble_eq_true rfl, Nat.le_of_ble_eq_true rfl⟩ dX4_item_88 (fun σ26 w26 => ?_)
                    rw [w26]; clear w26
                    refine gx_goto (tgt := 102) C dX4_item_91 (by decide) ?_
                    have hl0 : lwH B t i = 2 := by unfold lwH; rw [if_neg hc5, if_neg hc14, if_pos hc21]
                    exact gx_vret C hr hlk (MTR.yes (Fm.rf).up (Mp.up hP (by omega) (by omega)) hM24 (by unfold itR; rw [if_neg hc1, hl0, if_pos (by decide)]; show (if qN B t (qE B t i) 0 999 = true then (some (up2 K 9 2 (qV B t (qE B t i))), qE B t (qE B t i)) else (none, qE B t i)) = _; rw [if_pos hc23])) dX4_item_102
                  ·
                    obtain ⟨er23, wa23, wb23⟩ := w23
                    obtain rfl := wb23 hc23
                    refine gx_st (st' := [.int (qV B t (qE B t i)), .int 3, .ref (eA E 49)]) (by rw [er23]) ?_
                    refine gx_callVV (As := [.int 3, .int (qV B t (qE B t i))]) (rest := []) C (c_X4_tells_b E σ B t hP (qE B t i) (qE_le (B := B) hi) 2 (by decide) (qV B t (qE B t i))) z_X4_tells ck4 (by rfl) (by rfl) ml_X4_280 (by rfl) (Nat.le_of_ble_eq_true rfl) ⟨Nat.le_of_ble_eq_true rfl, Nat.le_of_ble_eq_true rfl⟩ dX4_item_88 (fun σ27 w27 => ?_)
                    rw [w27]; clear w27
                    refine gx_goto (tgt := 102) C dX4_item_91 (by decide) ?_
                    have hl0 : lwH B t i = 2 := by unfold lwH; rw [if_neg hc5, if_neg hc14, if_pos hc21]
                    exact gx_vret C hr hlk (MTR.no Fm.rf hP (by unfold itR; rw [if_neg hc1, hl0, if_pos (by decide)]; show (if qN B t (qE B t i) 0 999 = true then (some (up2 K 9 2 (qV B t (qE B t i))), qE B t (qE B t i)) else (none, qE B t i)) = _; rw [if_neg hc23])) dX4_item_102
              ·
                obtain ⟨rfl, rfl⟩ := w21.2 hc21
                refine gx_if_eq (tgt := 94) C dX4_item_74 (by decide) (fun h28 => ?_) (fun h28 => ?_)
                ·
                  clear h28
                  refine gx_aload_n C dX4_item_94 (by rfl) (by rfl) ?_
                  refine gx_aload_n C dX4_item_95 (by rfl) (by rfl) ?_
                  refine gx_callVI (As := []) (rest := [.ref (eA E 49)]) C (c_X4_kindHere E σ B t hP i hi) z_X4_kindHere ck4 (by rfl) (by rfl) ml_X4_287 (by rfl) (Nat.le_of_ble_eq_true rfl) ⟨Nat.le_of_ble_eq_true rfl, Nat.le_of_ble_eq_true rfl⟩ dX4_item_96 (fun r29 σ29 w29 => ?_)
                  obtain ⟨u1, u2⟩ := w29; rw [u1, u2]; clear u1 u2
                  refine gx_callVV (As := [.int (kdH B t i)]) (rest := []) C (c_X4_personItem E σ B t hP i hi K hM hO (kdH B t i) (kdH_6 B t i)) z_X4_personItem ck4 (by rfl) (by rfl) ml_X4_290 (by rfl) (Nat.le_of_ble_eq_true rfl) ⟨Nat.le_of_ble_eq_true rfl, Nat.le_of_ble_eq_true rfl⟩ dX4_item_99 (fun σ30 w30 => ?_)
                  have hl0 : lwH B t i = -1 := by unfold lwH; rw [if_neg hc5, if_neg hc14, if_neg hc21]
                  exact gx_vret C hr hlk (MTR.eq w30 Fm.rf (by unfold itR; rw [if_neg hc1, hl0, if_neg (by decide)])) dX4_item_102
                ·
                  exact absurd h28 (by decide)
            ·
              exact absurd h20 (by decide)
        ·
          exact absurd h11 (by decide)
    ·
      exact absurd h4 (by decide)
theorem mq7_12 {σ : Mm} {B : Nat → Int32} {t j : Nat} {bd x : Int32} : up2 (mq σ B t j bd) 49 7 x 49 12 = bd := rfl
def Fn (σ σ' : Mm) : Prop := (∀ i, ¬ i = 49 → ¬ i = 50 → ¬ i = 52 → σ' i = σ i) ∧ σ' 49 4 = σ 49 4
theorem Fn.fm {σ σ1 σ2 : Mm} (a : Fn σ σ1) (b : Fm σ1 σ2) : Fn σ σ2 := ⟨fun i h1 h2 h3 => (b.1 i h1 h2).trans (a.1 i h1 h2 h3), b.2.trans a.2⟩
theorem fim_tx {σ τ K L K2 : Mm} {g : Int32} {F : Nat → Int32} {tl : Int32} {Bt W Z : Nat → Int32} {N : Mm} (h : MR σ (K, L, g, F, tl, Bt, W, Z, N)) (hf : Fn σ τ) (h7 : τ 49 7 = 0) (hM : vM τ 50 = K2) (hO : Ok K2) : MR τ (K2, L, g, F, 0, Bt, W, Z, N) ∧ FM σ τ := by
  obtain ⟨⟨a1, a2⟩, ⟨b1, b2, b3⟩, c, ⟨⟨d1, d2⟩, d3⟩, s⟩ := h
  refine ⟨⟨⟨hM, hO⟩, ⟨by rw [hf.2]; exact b1, b2, fun q => ⟨(vM_o (hf.1 51 (by omega) (by omega) (by omega))).trans (b3 q).1, (b3 q).2⟩⟩, fun q hq => by rw [hf.1 54 (by omega) (by omega) (by omega)]; exact c q hq, ⟨⟨h7, 0, by omega, rfl⟩, fun i hi => by rw [hf.1 55 (by omega) (by omega) (by omega)]; exact d3 i hi⟩, fun q hq => by rw [hf.1 56 (by omega) (by omega) (by omega), hf.1 57 (by omega) (by omega) (by omega), hf.1 58 (by omega) (by omega) (by omega)]; exact s q hq⟩, ?_⟩
  intro i hi
  exact hf.1 i (by omega) (by omega) (by omega)
theorem vM_7 {σ : Mm} {c : Nat} {x : Int32} (h : ¬ c = 49) : vM (up2 σ 49 7 x) c = vM σ c := vM_o (up2_o h)
theorem Fn_7 {σ τ : Mm} {B : Nat → Int32} {t j : Nat} {bd x : Int32} (h : Fn σ τ) : Fn σ (up2 (mq τ B t j bd) 49 7 x) := ⟨fun i h1 h2 h3 => ((up2_o h1).trans (mq_o h1)).trans (h.1 i h1 h2 h3), h.2⟩
theorem s7_0 {σ : Mm} : up2 σ 49 7 0 49 7 = 0 := by rw [up2_up, if_pos ⟨rfl, rfl⟩]
set_option maxHeartbeats 4000000 in
set_option maxRecDepth 100000 in
theorem c_X4_text_t (E : En) (σ : Mm) (K L : Mm) (g : Int32) (F : Nat → Int32) (t : Nat) (ht : t ≤ 120) (B W Z : Nat → Int32) (N : Mm) (hR : MR σ (K, L, g, F, nI t, B, W, Z, N)) : CtI E yX4_text cX4_text 4 (some .int) 9 197 [.ref (eA E 49)] σ (fun rr σ2 => rr = (opText (K, L, g, F, nI t, B, W, Z, N)).1 ∧ MR σ2 (opText (K, L, g, F, nI t, B, W, Z, N)).2 ∧ FM σ σ2) := by
  obtain ⟨⟨hM, hO⟩, ⟨hg1, hg2, hg3⟩, hFd, ⟨⟨htl, htl2⟩, hBt⟩, hSh⟩ := id hR
  obtain ⟨⟨hn, h12⟩, hpp, hlw, hsp, hz0⟩ := id hO
  have ct : cl (nI t) = t := nI_clamp (by omega)
  refine CtI.of (by decide +kernel) (Nat.le_of_ble_eq_true rfl) (fun p e0 s m below meth c C hr hlk => ?_)
  refine gx_lv (lv' := [(0, .ref (eA E 49))]) rfl ?_
  refine gx_aload_n C dX4_text_0 (by rfl) (by rfl) ?_
  refine gx_getr (j := 50) (k := 0) C ck4 (by rfl) (by rfl) (by decide) fl_X4_9 dX4_text_1 ?_
  refine gx_aload_n C dX4_text_4 (by rfl) (by rfl) ?_
  refine gx_getr (j := 52) (k := 2) C ck4 (by rfl) (by rfl) (by decide) fl_X4_16 dX4_text_5 ?_
  refine gx_callSV (As := [.ref (eA E 50), .ref (eA E 52)]) (rest := []) C (c_X4_row E σ 50 52 (by rfl) (by rfl) (by decide)) z_X4_row (by rfl) ml_X4_165 (by rfl) (Nat.le_of_ble_eq_true rfl) ⟨Nat.le_of_ble_eq_true rfl, Nat.le_of_ble_eq_true rfl⟩ dX4_text_8 (fun σ1 w1 => ?_)
  obtain ⟨hR1, hF1⟩ := w1
  have hM1 : vM σ1 50 = K := (vM_o (hF1 50 (by decide))).trans hM
  have hW1 : vM σ1 52 = K := hR1.trans hM
  have hP1 : Mp σ1 B t := ⟨by rw [hF1 49 (by decide)]; exact htl, ht, fun q hq => by rw [hF1 55 (by decide)]; exact hBt q hq⟩
  have hFn : Fn σ σ1 := ⟨fun i _ _ y3 => hF1 i y3, by rw [hF1 49 (by decide)]⟩
  refine gx_mm (σ' := mS σ1 (σ1 49 8) (σ1 49 9) (σ1 49 10) (σ1 49 11) (σ1 49 12)) mS_self.symm ?_
  refine gx_aload_n C dX4_text_11 (by rfl) (by rfl) ?_
  refine gx_iconst (v := 0) C dX4_text_12 (by decide) ?_
  refine gx_puti (k := 10) C ck4 (by rfl) (by rfl) (by decide) (by rfl) rfl rfl fl_X4_202 dX4_text_13 ?_
  refine gx_mm (σ' := mS σ1 (σ1 49 8) (σ1 49 9) 0 (σ1 49 11) (σ1 49 12)) mS_w10 ?_
  refine gx_aload_n C dX4_text_16 (by rfl) (by rfl) ?_
  refine gx_iconst (v := 0) C dX4_text_17 (by decide) ?_
  refine gx_puti (k := 12) C ck4 (by rfl) (by rfl) (by decide) (by rfl) (by first | rfl | exact nb_b2 _) (by first | rfl | exact fb_b2 _) fl_X4_218 dX4_text_18 ?_
  refine gx_mm (σ' := mS σ1 (σ1 49 8) (σ1 49 9) 0 (σ1 49 11) 0) mS_w12 ?_
  refine gx_aload_n C dX4_text_21 (by rfl) (by rfl) ?_
  refine gx_callVV (As := []) (rest := []) C (c_X4_token E σ1 B t hP1 (σ1 49 8) (σ1 49 9) 0 (Nat.zero_le _) (σ1 49 11) 0) z_X4_token ck4 (by rfl) (by rfl) ml_X4_235 (by rfl) (Nat.le_of_ble_eq_true rfl) ⟨Nat.le_of_ble_eq_true rfl, Nat.le_of_ble_eq_true rfl⟩ dX4_text_22 (fun σ2 w2 => ?_)
  rw [w2]; clear w2
  refine gx_iconst (v := 0) C dX4_text_25 (by decide) ?_
  refine gx_istore_n (lv2 := [(1, .int 0), (0, .ref (eA E 49))]) C dX4_text_26 (by rfl) (by decide) rfl ?_
  refine gx_iconst (v := 1) C dX4_text_27 (by decide) ?_
  refine gx_istore_n (lv2 := [(2, .int 1), (1, .int 0), (0, .ref (eA E 49))]) C dX4_text_28 (by rfl) (by decide) rfl ?_
  have loop29 : ∀ (f : Nat) (n : Nat) (τ Kc : Mm) (j : Nat), f + n = 121 → vM τ 50 = Kc → Ok Kc → vM τ 52 = K → Fn σ τ → Mp τ B t → j ≤ t → 121 ≤ f + j → txR B t f (n + 1) Kc j = txR B t 121 1 K 0 → Gx E p e0 (rmF 9 197) s m ([.ref (eA E 49)] : List Value).toArray below meth c (MQ below (va_Qi (fun rr σ2 => rr = (opText (K, L, g, F, nI t, B, W, Z, N)).1 ∧ MR σ2 (opText (K, L, g, F, nI t, B, W, Z, N)).2 ∧ FM σ σ2) (WQ E) (AA E s.heap.size)) ([.ref (eA E 49)] : List Value).toArray s 0 0 (AA E s.heap.size)) 4 29 [(0, .ref (eA E 49)), (1, .int (nI n)), (2, .int 1)] [] (mq τ B t j 0) := by
    intro f
    induction f with
    | zero => intro n τ Kc j hf hMc hOc hWc hFc hPc hj hfj eT; exact absurd hfj (by omega)
    | succ f ih29 =>
      intro n τ Kc j hf hMc hOc hWc hFc hPc hj hfj eT
      refine gx_iload_n C dX4_text_29 (by rfl) (by rfl) ?_
      refine gx_if_eq (tgt := 58) C dX4_text_30 (by decide) (fun h3 => ?_) (fun h3 => ?_)
      ·
        exact absurd h3 (by decide)
      ·
        clear h3
        refine gx_aload_n C dX4_text_33 (by rfl) (by rfl) ?_
        refine gx_callVV (As := []) (rest := []) C (c_X4_item E τ B t hPc j hj Kc hMc hOc) z_X4_item ck4 (by rfl) (by rfl) ml_X4_293 (by rfl) (Nat.le_of_ble_eq_true rfl) ⟨Nat.le_of_ble_eq_true rfl, Nat.le_of_ble_eq_true rfl⟩ dX4_text_34 (fun σ4 w4 => ?_)
        obtain ⟨τ4, j4, bd4, rfl, hF4, hP4, ⟨K4, hx4, rfl, hM4⟩ | ⟨hx4, rfl⟩⟩ := w4
        ·
          have hgd := gd_it (B := B) hOc hj
          rw [hx4] at hgd
          have hg4 : j4 ≤ t := hgd.1.2
          have hge4 : j ≤ j4 := hgd.1.1
          have h3 := q3_c B t j4
          have hW4 : vM τ4 52 = K := (vM_o (hF4.1 52 (by decide) (by decide))).trans hWc
          have hO4 : Ok K4 := hgd.2 _ rfl
          refine gx_iinc (v := nI (n + 1)) (lv2 := [(1, .int (nI (n + 1))), (0, .ref (eA E 49)), (2, .int 1)]) C dX4_text_37 (by rfl) (by exact nI_p1 _) (by decide) rfl ?_
          refine gx_aload_n C dX4_text_40 (by rfl) (by rfl) ?_
          refine gx_bipush (v := 59) C dX4_text_41 (by decide) ?_
          refine gx_callVI (As := [.int 59]) (rest := []) C (c_X4_isSign E τ4 B t hP4 j4 hg4) z_X4_isSign ck4 (by rfl) (by rfl) ml_X4_296 (by rfl) (Nat.le_of_ble_eq_true rfl) ⟨Nat.le_of_ble_eq_true rfl, Nat.le_of_ble_eq_true rfl⟩ dX4_text_43 (fun r5 σ5 w5 => ?_)
          obtain ⟨u1, u2⟩ := w5; rw [u1, u2]; clear u1 u2
          refine gx_istore_n (lv2 := [(2, .int (b2 (qK B t j4 = 3))), (1, .int (nI (n + 1))), (0, .ref (eA E 49))]) C dX4_text_46 (by rfl) (by decide) rfl ?_
          refine gx_iload_n C dX4_text_47 (by rfl) (by rfl) ?_
          refine gx_if_eq (tgt := 29) C dX4_text_48 (by decide) (fun h6 => ?_) (fun h6 => ?_)
          ·
            have h6 := b2_z.mp h6
            have hk9 := h6
            refine gx_lv (lv' := [(2, .int 0), (1, .int (nI (n + 1))), (0, .ref (eA E 49))]) (by rw [show b2 (qK B t j4 = 3) = 0 from b2_z.mpr hk9]) ?_
            refine gx_iload_n C dX4_text_29 (by rfl) (by rfl) ?_
            refine gx_if_eq (tgt := 58) C dX4_text_30 (by decide) (fun h7 => ?_) (fun h7 => ?_)
            ·
              clear h7
              refine gx_aload_n C dX4_text_58 (by rfl) (by rfl) ?_
              refine gx_aload_n C dX4_text_59 (by rfl) (by rfl) ?_
              refine gx_geti (k := 12) C ck4 (by rfl) (by rfl) (by decide) fl_X4_218 dX4_text_60 ?_
              refine gx_st (st' := [.int 0, .ref (eA E 49)]) (by rw [mq_12]) ?_
              refine gx_if_ne (tgt := 73) C dX4_text_63 (by decide) (fun h8 => ?_) (fun h8 => ?_)
              ·
                exact absurd h8 (by decide)
              ·
                clear h8
                refine gx_aload_n C dX4_text_66 (by rfl) (by rfl) ?_
                refine gx_geti (k := 8) C ck4 (by rfl) (by rfl) (by decide) fl_X4_215 dX4_text_67 ?_
                refine gx_st (st' := [.int (nI (q3 B t j4)), .ref (eA E 49)]) (by rw [mq_8]) ?_
                refine gx_if_eq (tgt := 77) C dX4_text_70 (by decide) (fun h9 => ?_) (fun h9 => ?_)
                ·
                  have hz9 : qK B t j4 = 0 := h3.1.mp ((nI_eq (b := 0) (by omega) (by omega)).mp h9)
                  refine gx_iconst (v := 0) C dX4_text_77 (by decide) ?_
                  refine gx_puti (k := 12) C ck4 (by rfl) (by rfl) (by decide) (by rfl) (by first | rfl | exact nb_b2 _) (by first | rfl | exact fb_b2 _) fl_X4_218 dX4_text_78 ?_
                  refine gx_mm (σ' := mq τ4 B t j4 0) mq_w12 ?_
                  refine gx_aload_n C dX4_text_81 (by rfl) (by rfl) ?_
                  refine gx_geti (k := 9) C ck4 (by rfl) (by rfl) (by decide) fl_X4_205 dX4_text_82 ?_
                  refine gx_st (st' := [.int (nI (qS B t j4))]) (by rw [mq_9]) ?_
                  refine gx_istore_n (lv2 := [(3, .int (nI (qS B t j4))), (2, .int 0), (1, .int (nI (n + 1))), (0, .ref (eA E 49))]) C dX4_text_85 (by rfl) (by decide) rfl ?_
                  refine gx_aload_n C dX4_text_86 (by rfl) (by rfl) ?_
                  refine gx_iconst (v := 0) C dX4_text_87 (by decide) ?_
                  refine gx_puti (k := 7) C ck4 (by rfl) (by rfl) (by decide) (by rfl) rfl rfl fl_X4_198 dX4_text_88 ?_
                  have hW9 : vM (up2 (mq τ4 B t j4 0) 49 7 0) 52 = K := (vM_7 (by decide)).trans ((vM_o (mq_o (by decide))).trans hW4)
                  have hFn9 : Fn σ (up2 (mq τ4 B t j4 0) 49 7 0) := Fn_7 (hFc.fm hF4)
                  refine gx_aload_n C dX4_text_91 (by rfl) (by rfl) ?_
                  refine gx_geti (k := 12) C ck4 (by rfl) (by rfl) (by decide) fl_X4_218 dX4_text_92 ?_
                  refine gx_st (st' := [.int 0]) (by rw [mq7_12]) ?_
                  refine gx_if_ne (tgt := 100) C dX4_text_95 (by decide) (fun h10 => ?_) (fun h10 => ?_)
                  ·
                    exact absurd h10 (by decide)
                  ·
                    clear h10
                    refine gx_iload_n C dX4_text_98 (by rfl) (by rfl) ?_
                    exact gx_iret C hr hlk rfl (by have key : txR B t 121 1 K 0 = (some K4, nI (n + 1)) := (by rw [← eT]; exact tx_ok hx4 hz9); unfold opText; simp only [ct, key, Option.getD]; exact ⟨trivial, fim_tx hR hFn9 s7_0 ((vM_7 (by decide)).trans (vM_mq.trans hM4)) hO4⟩) dX4_text_99
                ·
                  have hz9 : ¬ qK B t j4 = 0 := fun q9 => h9 (by rw [h3.1.mpr q9]; rfl)
                  refine gx_iconst (v := 1) C dX4_text_73 (by decide) ?_
                  refine gx_goto (tgt := 78) C dX4_text_74 (by decide) ?_
                  refine gx_puti (k := 12) C ck4 (by rfl) (by rfl) (by decide) (by rfl) (by first | rfl | exact nb_b2 _) (by first | rfl | exact fb_b2 _) fl_X4_218 dX4_text_78 ?_
                  refine gx_mm (σ' := mq τ4 B t j4 1) mq_w12 ?_
                  refine gx_aload_n C dX4_text_81 (by rfl) (by rfl) ?_
                  refine gx_geti (k := 9) C ck4 (by rfl) (by rfl) (by decide) fl_X4_205 dX4_text_82 ?_
                  refine gx_st (st' := [.int (nI (qS B t j4))]) (by rw [mq_9]) ?_
                  refine gx_istore_n (lv2 := [(3, .int (nI (qS B t j4))), (2, .int 0), (1, .int (nI (n + 1))), (0, .ref (eA E 49))]) C dX4_text_85 (by rfl) (by decide) rfl ?_
                  refine gx_aload_n C dX4_text_86 (by rfl) (by rfl) ?_
                  refine gx_iconst (v := 0) C dX4_text_87 (by decide) ?_
                  refine gx_puti (k := 7) C ck4 (by rfl) (by rfl) (by decide) (by rfl) rfl rfl fl_X4_198 dX4_text_88 ?_
                  have hW9 : vM (up2 (mq τ4 B t j4 1) 49 7 0) 52 = K := (vM_7 (by decide)).trans ((vM_o (mq_o (by decide))).trans hW4)
                  have hFn9 : Fn σ (up2 (mq τ4 B t j4 1) 49 7 0) := Fn_7 (hFc.fm hF4)
                  refine gx_aload_n C dX4_text_91 (by rfl) (by rfl) ?_
                  refine gx_geti (k := 12) C ck4 (by rfl) (by rfl) (by decide) fl_X4_218 dX4_text_92 ?_
                  refine gx_st (st' := [.int 1]) (by rw [mq7_12]) ?_
                  refine gx_if_ne (tgt := 100) C dX4_text_95 (by decide) (fun h11 => ?_) (fun h11 => ?_)
                  ·
                    clear h11
                    refine gx_aload_n C dX4_text_100 (by rfl) (by rfl) ?_
                    refine gx_getr (j := 52) (k := 2) C ck4 (by rfl) (by rfl) (by decide) fl_X4_16 dX4_text_101 ?_
                    refine gx_aload_n C dX4_text_104 (by rfl) (by rfl) ?_
                    refine gx_getr (j := 50) (k := 0) C ck4 (by rfl) (by rfl) (by decide) fl_X4_9 dX4_text_105 ?_
                    refine gx_callSV (As := [.ref (eA E 52), .ref (eA E 50)]) (rest := []) C (c_X4_row E (up2 (mq τ4 B t j4 1) 49 7 0) 52 50 (by rfl) (by rfl) (by decide)) z_X4_row (by rfl) ml_X4_165 (by rfl) (Nat.le_of_ble_eq_true rfl) ⟨Nat.le_of_ble_eq_true rfl, Nat.le_of_ble_eq_true rfl⟩ dX4_text_108 (fun σ14 w14 => ?_)
                    obtain ⟨hR14, hF14⟩ := w14
                    have hN15 : vM σ14 52 = K := (vM_o (hF14 52 (by decide))).trans hW9
                    have hM14 : vM σ14 50 = K := hR14.trans hW9
                    refine gx_iconst (v := (-1)) C dX4_text_111 (by decide) ?_
                    refine gx_iload_n C dX4_text_112 (by rfl) (by rfl) ?_
                    refine gx_isub C dX4_text_113 ?_
                    exact gx_iret C hr hlk rfl (by have key : txR B t 121 1 K 0 = (none, -1 - nI (qS B t j4)) := (by rw [← eT]; exact tx_bad hx4 hz9 hk9); unfold opText; simp only [ct, key, Option.getD]; exact ⟨trivial, fim_tx hR ⟨fun i y1 y2 y3 => (hF14 i y2).trans (hFn9.1 i y1 y2 y3), by rw [hF14 49 (by decide)]; exact hFn9.2⟩ (by rw [hF14 49 (by decide)]; exact s7_0) hM14 hO⟩) dX4_text_114
                  ·
                    exact absurd h11 (by decide)
            ·
              exact absurd h7 (by decide)
          ·
            have h6 := b2_nz.mp h6
            have hk9 := h6
            refine gx_lv (lv' := [(2, .int 1), (1, .int (nI (n + 1))), (0, .ref (eA E 49))]) (by rw [show b2 (qK B t j4 = 3) = 1 from (b2_t hk9).symm]) ?_
            refine gx_aload_n C dX4_text_51 (by rfl) (by rfl) ?_
            refine gx_callVV (As := []) (rest := []) C (c_X4_token2 E τ4 B t hP4 j4 hg4 0) z_X4_token ck4 (by rfl) (by rfl) ml_X4_235 (by rfl) (Nat.le_of_ble_eq_true rfl) ⟨Nat.le_of_ble_eq_true rfl, Nat.le_of_ble_eq_true rfl⟩ dX4_text_52 (fun σ16 w16 => ?_)
            rw [w16]; clear w16
            refine gx_goto (tgt := 29) C dX4_text_55 (by decide) ?_
            refine gx_sub [2, 1, 0] (lv' := [(0, .ref (eA E 49)), (1, .int (nI (n + 1))), (2, .int 1)]) rfl ?_
            exact ih29 (n + 1) τ4 K4 (qE B t j4) (by omega) hM4 hO4 hW4 (hFc.fm hF4) hP4 (qE_le (B := B) hg4) (by have := hge4; have := qE_gt (B := B) (t := t) (i := j4) (by omega); have := qS_ge (B := B) (t := t) (i := j4); omega) (by rw [← eT, tx_go hx4 hk9])
        ·
          have hgd := gd_it (B := B) hOc hj
          rw [hx4] at hgd
          have hg4 : j4 ≤ t := hgd.1.2
          have hge4 : j ≤ j4 := hgd.1.1
          have h3 := q3_c B t j4
          have hW4 : vM τ4 52 = K := (vM_o (hF4.1 52 (by decide) (by decide))).trans hWc
          refine gx_iinc (v := nI (n + 1)) (lv2 := [(1, .int (nI (n + 1))), (0, .ref (eA E 49)), (2, .int 1)]) C dX4_text_37 (by rfl) (by exact nI_p1 _) (by decide) rfl ?_
          refine gx_aload_n C dX4_text_40 (by rfl) (by rfl) ?_
          refine gx_bipush (v := 59) C dX4_text_41 (by decide) ?_
          refine gx_callVI (As := [.int 59]) (rest := []) C (c_X4_isSign_b E τ4 B t hP4 j4 hg4) z_X4_isSign ck4 (by rfl) (by rfl) ml_X4_296 (by rfl) (Nat.le_of_ble_eq_true rfl) ⟨Nat.le_of_ble_eq_true rfl, Nat.le_of_ble_eq_true rfl⟩ dX4_text_43 (fun r17 σ17 w17 => ?_)
          obtain ⟨u1, u2⟩ := w17; rw [u1, u2]; clear u1 u2
          refine gx_istore_n (lv2 := [(2, .int 0), (1, .int (nI (n + 1))), (0, .ref (eA E 49))]) C dX4_text_46 (by rfl) (by decide) rfl ?_
          refine gx_iload_n C dX4_text_47 (by rfl) (by rfl) ?_
          refine gx_if_eq (tgt := 29) C dX4_text_48 (by decide) (fun h18 => ?_) (fun h18 => ?_)
          ·
            clear h18
            refine gx_iload_n C dX4_text_29 (by rfl) (by rfl) ?_
            refine gx_if_eq (tgt := 58) C dX4_text_30 (by decide) (fun h19 => ?_) (fun h19 => ?_)
            ·
              clear h19
              refine gx_aload_n C dX4_text_58 (by rfl) (by rfl) ?_
              refine gx_aload_n C dX4_text_59 (by rfl) (by rfl) ?_
              refine gx_geti (k := 12) C ck4 (by rfl) (by rfl) (by decide) fl_X4_218 dX4_text_60 ?_
              refine gx_st (st' := [.int 1, .ref (eA E 49)]) (by rw [mq_12]) ?_
              refine gx_if_ne (tgt := 73) C dX4_text_63 (by decide) (fun h20 => ?_) (fun h20 => ?_)
              ·
                clear h20
                refine gx_iconst (v := 1) C dX4_text_73 (by decide) ?_
                refine gx_goto (tgt := 78) C dX4_text_74 (by decide) ?_
                refine gx_puti (k := 12) C ck4 (by rfl) (by rfl) (by decide) (by rfl) (by first | rfl | exact nb_b2 _) (by first | rfl | exact fb_b2 _) fl_X4_218 dX4_text_78 ?_
                refine gx_mm (σ' := mq τ4 B t j4 1) mq_w12 ?_
                refine gx_aload_n C dX4_text_81 (by rfl) (by rfl) ?_
                refine gx_geti (k := 9) C ck4 (by rfl) (by rfl) (by decide) fl_X4_205 dX4_text_82 ?_
                refine gx_st (st' := [.int (nI (qS B t j4))]) (by rw [mq_9]) ?_
                refine gx_istore_n (lv2 := [(3, .int (nI (qS B t j4))), (2, .int 0), (1, .int (nI (n + 1))), (0, .ref (eA E 49))]) C dX4_text_85 (by rfl) (by decide) rfl ?_
                refine gx_aload_n C dX4_text_86 (by rfl) (by rfl) ?_
                refine gx_iconst (v := 0) C dX4_text_87 (by decide) ?_
                refine gx_puti (k := 7) C ck4 (by rfl) (by rfl) (by decide) (by rfl) rfl rfl fl_X4_198 dX4_text_88 ?_
                have hW9 : vM (up2 (mq τ4 B t j4 1) 49 7 0) 52 = K := (vM_7 (by decide)).trans ((vM_o (mq_o (by decide))).trans hW4)
                have hFn9 : Fn σ (up2 (mq τ4 B t j4 1) 49 7 0) := Fn_7 (hFc.fm hF4)
                refine gx_aload_n C dX4_text_91 (by rfl) (by rfl) ?_
                refine gx_geti (k := 12) C ck4 (by rfl) (by rfl) (by decide) fl_X4_218 dX4_text_92 ?_
                refine gx_st (st' := [.int 1]) (by rw [mq7_12]) ?_
                refine gx_if_ne (tgt := 100) C dX4_text_95 (by decide) (fun h21 => ?_) (fun h21 => ?_)
                ·
                  clear h21
                  refine gx_aload_n C dX4_text_100 (by rfl) (by rfl) ?_
                  refine gx_getr (j := 52) (k := 2) C ck4 (by rfl) (by rfl) (by decide) fl_X4_16 dX4_text_101 ?_
                  refine gx_aload_n C dX4_text_104 (by rfl) (by rfl) ?_
                  refine gx_getr (j := 50) (k := 0) C ck4 (by rfl) (by rfl) (by decide) fl_X4_9 dX4_text_105 ?_
                  refine gx_callSV (As := [.ref (eA E 52), .ref (eA E 50)]) (rest := []) C (c_X4_row E (up2 (mq τ4 B t j4 1) 49 7 0) 52 50 (by rfl) (by rfl) (by decide)) z_X4_row (by rfl) ml_X4_165 (by rfl) (Nat.le_of_ble_eq_true rfl) ⟨Nat.le_of_ble_eq_true rfl, Nat.le_of_ble_eq_true rfl⟩ dX4_text_108 (fun σ22 w22 => ?_)
                  obtain ⟨hR22, hF22⟩ := w22
                  have hN23 : vM σ22 52 = K := (vM_o (hF22 52 (by decide))).trans hW9
                  have hM22 : vM σ22 50 = K := hR22.trans hW9
                  refine gx_iconst (v := (-1)) C dX4_text_111 (by decide) ?_
                  refine gx_iload_n C dX4_text_112 (by rfl) (by rfl) ?_
                  refine gx_isub C dX4_text_113 ?_
                  exact gx_iret C hr hlk rfl (by have key : txR B t 121 1 K 0 = (none, -1 - nI (qS B t j4)) := (by rw [← eT]; exact tx_no hx4); unfold opText; simp only [ct, key, Option.getD]; exact ⟨trivial, fim_tx hR ⟨fun i y1 y2 y3 => (hF22 i y2).trans (hFn9.1 i y1 y2 y3), by rw [hF22 49 (by decide)]; exact hFn9.2⟩ (by rw [hF22 49 (by decide)]; exact s7_0) hM22 hO⟩) dX4_text_114
                ·
                  exact absurd h21 (by decide)
              ·
                exact absurd h20 (by decide)
            ·
              exact absurd h19 (by decide)
          ·
            exact absurd h18 (by decide)
  refine gx_sub [2, 1, 0] (lv' := [(0, .ref (eA E 49)), (1, .int 0), (2, .int 1)]) rfl ?_
  refine gx_lv (lv' := [(0, .ref (eA E 49)), (1, .int (nI 0)), (2, .int 1)]) (by rfl) ?_
  exact loop29 121 0 σ1 K 0 (by omega) hM1 hO hW1 hFn hP1 (Nat.zero_le _) (by omega) rfl
theorem c_X4_text (E : En) (σ : Mm) (K L : Mm) (g : Int32) (F : Nat → Int32) (tl : Int32) (Bt W Z : Nat → Int32) (N : Mm) (hR : MR σ (K, L, g, F, tl, Bt, W, Z, N)) : CtI E yX4_text cX4_text 4 (some .int) 9 197 [.ref (eA E 49)] σ (fun rr σ2 => rr = (opText (K, L, g, F, tl, Bt, W, Z, N)).1 ∧ MR σ2 (opText (K, L, g, F, tl, Bt, W, Z, N)).2 ∧ FM σ σ2) := by
  obtain ⟨t, ht, rfl⟩ := (id hR).2.2.2.1.1.2
  exact c_X4_text_t E σ K L g F t ht Bt W Z N hR
