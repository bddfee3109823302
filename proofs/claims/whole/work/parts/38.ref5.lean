set_option maxHeartbeats 4000000 in
set_option maxRecDepth 100000 in
theorem c_X4_monthsGo (E : En) (σ : Mm) (K : Mm) (hM : vM σ 50 = K) (hO : Ok K) (t : Nat) (ht : t ≤ 120) : CtV E yX4_monthsGo cX4_monthsGo 3 none 6 140 [.ref (eA E 49), .int (nI t)] σ (fun σ2 => vM σ2 50 = mos t K ∧ F1 50 σ σ2) := by
  obtain ⟨⟨hn, h12⟩, hpp, hlw, hsp, hz0⟩ := id hO
  refine CtV.of (by decide +kernel) (Nat.le_of_ble_eq_true rfl) (fun p e0 s m below meth c C hr hlk => ?_)
  refine gx_lv (lv' := [(0, .ref (eA E 49)), (1, .int (nI t))]) rfl ?_
  refine gx_iconst (v := 0) C dX4_monthsGo_0 (by decide) ?_
  refine gx_istore_n (lv2 := [(2, .int 0), (0, .ref (eA E 49)), (1, .int (nI t))]) C dX4_monthsGo_1 (by rfl) (by decide) rfl ?_
  have loop2 : ∀ (kf i : Nat), i ≤ t → t < i + kf → ∀ τ : Mm, (vM τ 50 = mos i K) → (F1 50 σ τ) → Gx E p e0 (rmF 6 140) s m ([.ref (eA E 49), .int (nI t)] : List Value).toArray below meth c (MQ below (va_Qv (fun σ2 => vM σ2 50 = mos t K ∧ F1 50 σ σ2) (WQ E) (AA E s.heap.size)) ([.ref (eA E 49), .int (nI t)] : List Value).toArray s 0 0 (AA E s.heap.size)) 3 2 [(0, .ref (eA E 49)), (1, .int (nI t)), (2, .int (nI i))] [] τ := by
    intro kf
    induction kf with
    | zero => intro i q1 q2; exact absurd q2 (by omega)
    | succ kf ih2 =>
      intro i a2 b2 τ hMt hFt
      refine gx_iload_n C dX4_monthsGo_2 (by rfl) (by rfl) ?_
      refine gx_iload_n C dX4_monthsGo_3 (by rfl) (by rfl) ?_
      refine gx_icmp_ge (tgt := 17) C dX4_monthsGo_4 (by decide) (fun h1 => ?_) (fun h1 => ?_)
      ·
        have h1 := (nI_leI (a := t) (b := i) (by omega) (by omega)).mp h1
        exact gx_vret C hr hlk ⟨by have q1 : i = t := (by omega); subst q1; exact hMt, hFt⟩ dX4_monthsGo_17
      ·
        have h1 := (not_congr (nI_leI (a := t) (b := i) (by omega) (by omega))).mp h1
        refine gx_aload_n C dX4_monthsGo_7 (by rfl) (by rfl) ?_
        refine gx_callVV (As := []) (rest := []) C (c_X4_month E τ (mos i K) hMt ((mos_keep hO i).1)) z_X4_month ck4 (by rfl) (by rfl) ml_X4_154 (by rfl) (Nat.le_of_ble_eq_true rfl) ⟨Nat.le_of_ble_eq_true rfl, Nat.le_of_ble_eq_true rfl⟩ dX4_monthsGo_8 (fun σ2 w2 => ?_)
        obtain ⟨hM2, hF2⟩ := w2
        obtain ⟨X2, eX2⟩ : ∃ X, X = mo (mos i K) := ⟨_, rfl⟩
        rw [← eX2] at hM2
        have hO2 : Ok X2 := by rw [eX2]; exact (mo_keep ((mos_keep hO i).1)).1
        have hnn2 : nn X2 = nn (mos i K) := by rw [eX2]; exact (mo_keep ((mos_keep hO i).1)).2
        have h122 := hO2.1.2
        refine gx_iinc (v := nI (i + 1)) (lv2 := [(2, .int (nI (i + 1))), (0, .ref (eA E 49)), (1, .int (nI t))]) C dX4_monthsGo_11 (by rfl) (by exact nI_p1 _) (by decide) rfl ?_
        refine gx_goto (tgt := 2) C dX4_monthsGo_14 (by decide) ?_
        refine gx_sub [1, 2, 0] (lv' := [(0, .ref (eA E 49)), (1, .int (nI t)), (2, .int (nI (i + 1)))]) rfl ?_
        exact ih2 (i + 1) (by omega) (by omega) σ2 (by rw [mos, ← eX2]; exact hM2) (hFt.tr hF2)
  refine gx_sub [1, 2, 0] (lv' := [(0, .ref (eA E 49)), (1, .int (nI t)), (2, .int 0)]) rfl ?_
  refine gx_lv (lv' := [(0, .ref (eA E 49)), (1, .int (nI t)), (2, .int (nI 0))]) (by rfl) ?_
  exact loop2 (t + 1) 0 (by omega) (by omega) σ hM F1.rf
set_option maxHeartbeats 4000000 in
set_option maxRecDepth 100000 in
theorem c_X4_wrong (E : En) (σ : Mm) (K : Mm) (hM : vM σ 50 = K) (hO : Ok K) (n lo_ hi_ x : Int32) : CtI E yX4_wrong cX4_wrong 5 (some .int) 1 25 [.ref (eA E 49), .int n, .int lo_, .int hi_, .int x] σ (fun rr σ2 => σ2 = σ ∧ ((¬ (¬ x = 0 ∧ (lo_ ≤ n ∧ n ≤ hi_)) ∧ rr = -1000001) ∨ ((¬ x = 0 ∧ (lo_ ≤ n ∧ n ≤ hi_)) ∧ 999 < K 0 1 + n ∧ rr = -1000005) ∨ ((¬ x = 0 ∧ (lo_ ≤ n ∧ n ≤ hi_)) ∧ ¬ 999 < K 0 1 + n ∧ rr = 0))) := by
  obtain ⟨⟨hn, h12⟩, hpp, hlw, hsp, hz0⟩ := id hO
  refine CtI.of (by decide +kernel) (Nat.le_of_ble_eq_true rfl) (fun p e0 s m below meth c C hr hlk => ?_)
  refine gx_lv (lv' := [(0, .ref (eA E 49)), (1, .int n), (2, .int lo_), (3, .int hi_), (4, .int x)]) rfl ?_
  refine gx_iload C dX4_wrong_0 (by rfl) ?_
  refine gx_if_eq (tgt := 17) C dX4_wrong_2 (by decide) (fun h1 => ?_) (fun h1 => ?_)
  ·
    refine gx_ldc C kc_X4_37 dX4_wrong_17 ?_
    refine gx_goto (tgt := 42) C dX4_wrong_19 (by decide) ?_
    exact gx_iret C hr hlk rfl ⟨rfl, by grind⟩ dX4_wrong_42
  ·
    refine gx_iload_n C dX4_wrong_5 (by rfl) (by rfl) ?_
    refine gx_i2l C dX4_wrong_6 ?_
    refine gx_iload_n C dX4_wrong_7 (by rfl) (by rfl) ?_
    refine gx_i2l C dX4_wrong_8 ?_
    refine gx_iload_n C dX4_wrong_9 (by rfl) (by rfl) ?_
    refine gx_i2l C dX4_wrong_10 ?_
    refine gx_callSI (As := [.long n.toInt64, .long lo_.toInt64, .long hi_.toInt64]) (rest := []) C (c_X4_in E σ n lo_ hi_ n.toInt64 lo_.toInt64 hi_.toInt64 (by first | rfl | decide) (by first | rfl | decide) (by first | rfl | decide)) z_X4_in (by rfl) ml_X4_45 (by rfl) (Nat.le_of_ble_eq_true rfl) ⟨Nat.le_of_ble_eq_true rfl, Nat.le_of_ble_eq_true rfl⟩ dX4_wrong_11 (fun r2 σ2 w2 => ?_)
    obtain ⟨u1, u2⟩ := w2; rw [u1, u2]; clear u1 u2
    refine gx_if_ne (tgt := 22) C dX4_wrong_14 (by decide) (fun h3 => ?_) (fun h3 => ?_)
    ·
      have h3 := b2_nz.mp h3
      refine gx_aload_n C dX4_wrong_22 (by rfl) (by rfl) ?_
      refine gx_getr (j := 50) (k := 0) C ck4 (by rfl) (by rfl) (by decide) fl_X4_9 dX4_wrong_23 ?_
      refine gx_iconst (v := 0) C dX4_wrong_26 (by decide) ?_
      refine gx_ialdN (k := 0) C (by rfl) (by rfl) (by decide) (by decide) dX4_wrong_27 ?_
      refine gx_st (st' := [.int (K 0 1)]) (by rw [mp_m hM]) ?_
      refine gx_iload_n C dX4_wrong_28 (by rfl) (by rfl) ?_
      refine gx_iadd C dX4_wrong_29 ?_
      refine gx_sipush (v := 999) C dX4_wrong_30 (by decide) ?_
      refine gx_icmp_le (tgt := 41) C dX4_wrong_33 (by decide) (fun h4 => ?_) (fun h4 => ?_)
      ·
        refine gx_iconst (v := 0) C dX4_wrong_41 (by decide) ?_
        exact gx_iret C hr hlk rfl ⟨rfl, by grind⟩ dX4_wrong_42
      ·
        refine gx_ldc C kc_X4_67 dX4_wrong_36 ?_
        refine gx_goto (tgt := 42) C dX4_wrong_38 (by decide) ?_
        exact gx_iret C hr hlk rfl ⟨rfl, by grind⟩ dX4_wrong_42
    ·
      have h3 := b2_z.mp h3
      refine gx_ldc C kc_X4_37 dX4_wrong_17 ?_
      refine gx_goto (tgt := 42) C dX4_wrong_19 (by decide) ?_
      exact gx_iret C hr hlk rfl ⟨rfl, by grind⟩ dX4_wrong_42
theorem ge4 {w : Int32} (h : 0 ≤ w) (h0 : ¬ w = 0) (h1 : ¬ w = 1) (h2 : ¬ w = 2) (h3 : ¬ w = 3) : 4 ≤ w := Int32.not_lt.mp (fun q => by
  rcases lt4 (Int32.not_lt.mpr h) q with z | z | z | z
  · exact h0 z
  · exact h1 z
  · exact h2 z
  · exact h3 z)
set_option maxHeartbeats 4000000 in
set_option maxRecDepth 100000 in
theorem c_X4_behind (E : En) (σ : Mm) (K : Mm) (hM : vM σ 50 = K) (hO : Ok K) (t : Nat) (ht : t ≤ 120) (w : Int32) (hw0 : 0 ≤ w) (hw4 : 4 ≤ w → (0 ≤ w - 4 ∧ w - 4 < K 0 0)) : CtI E yX4_behind cX4_behind 5 (some .int) 7 162 [.ref (eA E 49), .int (nI t), .int w] σ (fun rr σ2 => rr = aheadV K (mos t K) w ∧ vM σ2 50 = K ∧ F2 σ σ2) := by
  obtain ⟨⟨hn, h12⟩, hpp, hlw, hsp, hz0⟩ := id hO
  refine CtI.of (by decide +kernel) (Nat.le_of_ble_eq_true rfl) (fun p e0 s m below meth c C hr hlk => ?_)
  refine gx_lv (lv' := [(0, .ref (eA E 49)), (1, .int (nI t)), (2, .int w)]) rfl ?_
  refine gx_aload_n C dX4_behind_0 (by rfl) (by rfl) ?_
  refine gx_getr (j := 50) (k := 0) C ck4 (by rfl) (by rfl) (by decide) fl_X4_9 dX4_behind_1 ?_
  refine gx_aload_n C dX4_behind_4 (by rfl) (by rfl) ?_
  refine gx_getr (j := 52) (k := 2) C ck4 (by rfl) (by rfl) (by decide) fl_X4_16 dX4_behind_5 ?_
  refine gx_callSV (As := [.ref (eA E 50), .ref (eA E 52)]) (rest := []) C (c_X4_row E σ 50 52 (by rfl) (by rfl) (by decide)) z_X4_row (by rfl) ml_X4_165 (by rfl) (Nat.le_of_ble_eq_true rfl) ⟨Nat.le_of_ble_eq_true rfl, Nat.le_of_ble_eq_true rfl⟩ dX4_behind_8 (fun σ1 w1 => ?_)
  obtain ⟨hR1, hF1⟩ := w1
  have hM1 : vM σ1 50 = K := (vM_o (hF1 50 (by decide))).trans hM
  have hW1 : vM σ1 52 = K := hR1.trans hM
  refine gx_aload_n C dX4_behind_11 (by rfl) (by rfl) ?_
  refine gx_getr (j := 50) (k := 0) C ck4 (by rfl) (by rfl) (by decide) fl_X4_9 dX4_behind_12 ?_
  refine gx_iconst (v := 4) C dX4_behind_15 (by decide) ?_
  refine gx_ialdN (k := 4) C (by rfl) (by rfl) (by decide) (by decide) dX4_behind_16 ?_
  refine gx_st (st' := [.int (K 0 2)]) (by rw [mp_t hM1]) ?_
  refine gx_istore_n (lv2 := [(3, .int (K 0 2)), (0, .ref (eA E 49)), (1, .int (nI t)), (2, .int w)]) C dX4_behind_17 (by rfl) (by decide) rfl ?_
  refine gx_aload_n C dX4_behind_18 (by rfl) (by rfl) ?_
  refine gx_iload_n C dX4_behind_19 (by rfl) (by rfl) ?_
  refine gx_callVV (As := [.int (nI t)]) (rest := []) C (c_X4_monthsGo E σ1 K hM1 hO t (by omega)) z_X4_monthsGo ck4 (by rfl) (by rfl) ml_X4_161 (by rfl) (Nat.le_of_ble_eq_true rfl) ⟨Nat.le_of_ble_eq_true rfl, Nat.le_of_ble_eq_true rfl⟩ dX4_behind_20 (fun σ2 w2 => ?_)
  obtain ⟨hM2, hF2⟩ := w2
  obtain ⟨X2, eX2⟩ : ∃ X, X = mos t K := ⟨_, rfl⟩
  rw [← eX2] at hM2
  have hO2 : Ok X2 := by rw [eX2]; exact (mos_keep hO t).1
  have hnn2 : nn X2 = nn K := by rw [eX2]; exact (mos_keep hO t).2
  have h122 := hO2.1.2
  have hN3 : vM σ2 52 = K := (vM_o (hF2 52 (by decide))).trans hW1
  refine gx_iload_n C dX4_behind_23 (by rfl) (by rfl) ?_
  refine gx_if_ne (tgt := 35) C dX4_behind_24 (by decide) (fun h4 => ?_) (fun h4 => ?_)
  ·
    refine gx_iload_n C dX4_behind_35 (by rfl) (by rfl) ?_
    refine gx_iconst (v := 1) C dX4_behind_36 (by decide) ?_
    refine gx_icmp_ne (tgt := 51) C dX4_behind_37 (by decide) (fun h5 => ?_) (fun h5 => ?_)
    ·
      refine gx_iload_n C dX4_behind_51 (by rfl) (by rfl) ?_
      refine gx_iconst (v := 2) C dX4_behind_52 (by decide) ?_
      refine gx_icmp_ne (tgt := 67) C dX4_behind_53 (by decide) (fun h6 => ?_) (fun h6 => ?_)
      ·
        refine gx_iload_n C dX4_behind_67 (by rfl) (by rfl) ?_
        refine gx_iconst (v := 3) C dX4_behind_68 (by decide) ?_
        refine gx_icmp_ne (tgt := 80) C dX4_behind_69 (by decide) (fun h7 => ?_) (fun h7 => ?_)
        ·
          refine gx_aload_n C dX4_behind_80 (by rfl) (by rfl) ?_
          refine gx_iload_n C dX4_behind_81 (by rfl) (by rfl) ?_
          refine gx_iconst (v := 4) C dX4_behind_82 (by decide) ?_
          refine gx_isub C dX4_behind_83 ?_
          obtain ⟨j, hj, ej⟩ := has_nat hO (hw4 (ge4 hw0 (by assumption) (by assumption) (by assumption) (by assumption)))
          have cj : cl (w - 4) = j := by rw [ej]; exact nI_clamp (by omega)
          refine gx_st (st' := [.int (nI j), .ref (eA E 49)]) (by rw [ej]) ?_
          refine gx_iconst (v := 1) C dX4_behind_84 (by decide) ?_
          refine gx_callVI (As := [.int (nI j), .int 1]) (rest := []) C (c_X4_is E σ2 j (by omega) 1 (by omega)) z_X4_is ck4 (by rfl) (by rfl) ml_X4_51 (by rfl) (Nat.le_of_ble_eq_true rfl) ⟨Nat.le_of_ble_eq_true rfl, Nat.le_of_ble_eq_true rfl⟩ dX4_behind_85 (fun r8 σ8 w8 => ?_)
          obtain ⟨u1, u2⟩ := w8; rw [u1, u2]; clear u1 u2
          refine gx_st (st' := [.int (X2 2 j)]) (by rw [mp_2 hM2 (p := j) (by omega)]) ?_
          refine gx_istore (lv2 := [(4, .int (X2 2 j)), (3, .int (K 0 2)), (0, .ref (eA E 49)), (1, .int (nI t)), (2, .int w)]) C dX4_behind_88 (by decide) rfl ?_
          refine gx_aload_n C dX4_behind_90 (by rfl) (by rfl) ?_
          refine gx_getr (j := 52) (k := 2) C ck4 (by rfl) (by rfl) (by decide) fl_X4_16 dX4_behind_91 ?_
          refine gx_aload_n C dX4_behind_94 (by rfl) (by rfl) ?_
          refine gx_getr (j := 50) (k := 0) C ck4 (by rfl) (by rfl) (by decide) fl_X4_9 dX4_behind_95 ?_
          refine gx_callSV (As := [.ref (eA E 52), .ref (eA E 50)]) (rest := []) C (c_X4_row E σ2 52 50 (by rfl) (by rfl) (by decide)) z_X4_row (by rfl) ml_X4_165 (by rfl) (Nat.le_of_ble_eq_true rfl) ⟨Nat.le_of_ble_eq_true rfl, Nat.le_of_ble_eq_true rfl⟩ dX4_behind_98 (fun σ9 w9 => ?_)
          obtain ⟨hR9, hF9⟩ := w9
          have hN10 : vM σ9 52 = K := (vM_o (hF9 52 (by decide))).trans hN3
          have hM9 : vM σ9 50 = K := hR9.trans hN3
          refine gx_iload C dX4_behind_101 (by rfl) ?_
          exact gx_iret C hr hlk rfl ⟨by rw [← eX2]; unfold aheadV; first | rw [if_pos (by assumption)] | rw [if_neg (by assumption), if_pos (by assumption)] | rw [if_neg (by assumption), if_neg (by assumption), if_pos (by assumption)] | rw [if_neg (by assumption), if_neg (by assumption), if_neg (by assumption), if_pos (by assumption)] | rw [if_neg (by assumption), if_neg (by assumption), if_neg (by assumption), if_neg (by assumption), cj], hM9, ((F2.rf.f1 hF1 (by decide)).f1 hF2 (by decide)).f1 hF9 (by decide)⟩ dX4_behind_103
        ·
          refine gx_aload_n C dX4_behind_72 (by rfl) (by rfl) ?_
          refine gx_iconst (v := 0) C dX4_behind_73 (by decide) ?_
          refine gx_callVI (As := [.int 0]) (rest := []) C (c_X4_inRank E σ2 X2 hM2 hO2 0) z_X4_inRank ck4 (by rfl) (by rfl) ml_X4_55 (by rfl) (Nat.le_of_ble_eq_true rfl) ⟨Nat.le_of_ble_eq_true rfl, Nat.le_of_ble_eq_true rfl⟩ dX4_behind_74 (fun r11 σ11 w11 => ?_)
          obtain ⟨u1, u2⟩ := w11; rw [u1, u2]; clear u1 u2
          refine gx_goto (tgt := 88) C dX4_behind_77 (by decide) ?_
          refine gx_istore (lv2 := [(4, .int (bset (nn X2) (inP X2 0))), (3, .int (K 0 2)), (0, .ref (eA E 49)), (1, .int (nI t)), (2, .int w)]) C dX4_behind_88 (by decide) rfl ?_
          refine gx_aload_n C dX4_behind_90 (by rfl) (by rfl) ?_
          refine gx_getr (j := 52) (k := 2) C ck4 (by rfl) (by rfl) (by decide) fl_X4_16 dX4_behind_91 ?_
          refine gx_aload_n C dX4_behind_94 (by rfl) (by rfl) ?_
          refine gx_getr (j := 50) (k := 0) C ck4 (by rfl) (by rfl) (by decide) fl_X4_9 dX4_behind_95 ?_
          refine gx_callSV (As := [.ref (eA E 52), .ref (eA E 50)]) (rest := []) C (c_X4_row E σ2 52 50 (by rfl) (by rfl) (by decide)) z_X4_row (by rfl) ml_X4_165 (by rfl) (Nat.le_of_ble_eq_true rfl) ⟨Nat.le_of_ble_eq_true rfl, Nat.le_of_ble_eq_true rfl⟩ dX4_behind_98 (fun σ14 w14 => ?_)
          obtain ⟨hR14, hF14⟩ := w14
          have hN15 : vM σ14 52 = K := (vM_o (hF14 52 (by decide))).trans hN3
          have hM14 : vM σ14 50 = K := hR14.trans hN3
          refine gx_iload C dX4_behind_101 (by rfl) ?_
          exact gx_iret C hr hlk rfl ⟨by rw [← eX2]; unfold aheadV; first | rw [if_pos (by assumption)] | rw [if_neg (by assumption), if_pos (by assumption)] | rw [if_neg (by assumption), if_neg (by assumption), if_pos (by assumption)] | rw [if_neg (by assumption), if_neg (by assumption), if_neg (by assumption), if_pos (by assumption)] | rw [if_neg (by assumption), if_neg (by assumption), if_neg (by assumption), if_neg (by assumption), cj], hM14, ((F2.rf.f1 hF1 (by decide)).f1 hF2 (by decide)).f1 hF14 (by decide)⟩ dX4_behind_103
      ·
        refine gx_aload_n C dX4_behind_56 (by rfl) (by rfl) ?_
        refine gx_aload_n C dX4_behind_57 (by rfl) (by rfl) ?_
        refine gx_callVI (As := []) (rest := [.ref (eA E 49)]) C (c_X4_everybody E σ2 X2 hM2 hO2) z_X4_everybody ck4 (by rfl) (by rfl) ml_X4_169 (by rfl) (Nat.le_of_ble_eq_true rfl) ⟨Nat.le_of_ble_eq_true rfl, Nat.le_of_ble_eq_true rfl⟩ dX4_behind_58 (fun r16 σ16 w16 => ?_)
        obtain ⟨u1, u2⟩ := w16; rw [u1, u2]; clear u1 u2
        refine gx_callVI (As := [.int (bset (nn X2) (fun _ => true))]) (rest := []) C (c_X4_goldOf E σ2 X2 hM2 hO2 (fun _ => true)) z_X4_goldOf ck4 (by rfl) (by rfl) ml_X4_78 (by rfl) (Nat.le_of_ble_eq_true rfl) ⟨Nat.le_of_ble_eq_true rfl, Nat.le_of_ble_eq_true rfl⟩ dX4_behind_61 (fun r17 σ17 w17 => ?_)
        obtain ⟨u1, u2⟩ := w17; rw [u1, u2]; clear u1 u2
        refine gx_goto (tgt := 88) C dX4_behind_64 (by decide) ?_
        refine gx_istore (lv2 := [(4, .int (sm (X2 5) (fun _ => true) (nn X2))), (3, .int (K 0 2)), (0, .ref (eA E 49)), (1, .int (nI t)), (2, .int w)]) C dX4_behind_88 (by decide) rfl ?_
        refine gx_aload_n C dX4_behind_90 (by rfl) (by rfl) ?_
        refine gx_getr (j := 52) (k := 2) C ck4 (by rfl) (by rfl) (by decide) fl_X4_16 dX4_behind_91 ?_
        refine gx_aload_n C dX4_behind_94 (by rfl) (by rfl) ?_
        refine gx_getr (j := 50) (k := 0) C ck4 (by rfl) (by rfl) (by decide) fl_X4_9 dX4_behind_95 ?_
        refine gx_callSV (As := [.ref (eA E 52), .ref (eA E 50)]) (rest := []) C (c_X4_row E σ2 52 50 (by rfl) (by rfl) (by decide)) z_X4_row (by rfl) ml_X4_165 (by rfl) (Nat.le_of_ble_eq_true rfl) ⟨Nat.le_of_ble_eq_true rfl, Nat.le_of_ble_eq_true rfl⟩ dX4_behind_98 (fun σ18 w18 => ?_)
        obtain ⟨hR18, hF18⟩ := w18
        have hN19 : vM σ18 52 = K := (vM_o (hF18 52 (by decide))).trans hN3
        have hM18 : vM σ18 50 = K := hR18.trans hN3
        refine gx_iload C dX4_behind_101 (by rfl) ?_
        exact gx_iret C hr hlk rfl ⟨by rw [← eX2]; unfold aheadV; first | rw [if_pos (by assumption)] | rw [if_neg (by assumption), if_pos (by assumption)] | rw [if_neg (by assumption), if_neg (by assumption), if_pos (by assumption)] | rw [if_neg (by assumption), if_neg (by assumption), if_neg (by assumption), if_pos (by assumption)] | rw [if_neg (by assumption), if_neg (by assumption), if_neg (by assumption), if_neg (by assumption), cj], hM18, ((F2.rf.f1 hF1 (by decide)).f1 hF2 (by decide)).f1 hF18 (by decide)⟩ dX4_behind_103
    ·
      refine gx_aload_n C dX4_behind_40 (by rfl) (by rfl) ?_
      refine gx_getr (j := 50) (k := 0) C ck4 (by rfl) (by rfl) (by decide) fl_X4_9 dX4_behind_41 ?_
      refine gx_iconst (v := 4) C dX4_behind_44 (by decide) ?_
      refine gx_ialdN (k := 4) C (by rfl) (by rfl) (by decide) (by decide) dX4_behind_45 ?_
      refine gx_st (st' := [.int (X2 0 2)]) (by rw [mp_t hM2]) ?_
      refine gx_iload_n C dX4_behind_46 (by rfl) (by rfl) ?_
      refine gx_isub C dX4_behind_47 ?_
      refine gx_goto (tgt := 88) C dX4_behind_48 (by decide) ?_
      refine gx_istore (lv2 := [(4, .int ((X2 0 2) - (K 0 2))), (3, .int (K 0 2)), (0, .ref (eA E 49)), (1, .int (nI t)), (2, .int w)]) C dX4_behind_88 (by decide) rfl ?_
      refine gx_aload_n C dX4_behind_90 (by rfl) (by rfl) ?_
      refine gx_getr (j := 52) (k := 2) C ck4 (by rfl) (by rfl) (by decide) fl_X4_16 dX4_behind_91 ?_
      refine gx_aload_n C dX4_behind_94 (by rfl) (by rfl) ?_
      refine gx_getr (j := 50) (k := 0) C ck4 (by rfl) (by rfl) (by decide) fl_X4_9 dX4_behind_95 ?_
      refine gx_callSV (As := [.ref (eA E 52), .ref (eA E 50)]) (rest := []) C (c_X4_row E σ2 52 50 (by rfl) (by rfl) (by decide)) z_X4_row (by rfl) ml_X4_165 (by rfl) (Nat.le_of_ble_eq_true rfl) ⟨Nat.le_of_ble_eq_true rfl, Nat.le_of_ble_eq_true rfl⟩ dX4_behind_98 (fun σ20 w20 => ?_)
      obtain ⟨hR20, hF20⟩ := w20
      have hN21 : vM σ20 52 = K := (vM_o (hF20 52 (by decide))).trans hN3
      have hM20 : vM σ20 50 = K := hR20.trans hN3
      refine gx_iload C dX4_behind_101 (by rfl) ?_
      exact gx_iret C hr hlk rfl ⟨by rw [← eX2]; unfold aheadV; first | rw [if_pos (by assumption)] | rw [if_neg (by assumption), if_pos (by assumption)] | rw [if_neg (by assumption), if_neg (by assumption), if_pos (by assumption)] | rw [if_neg (by assumption), if_neg (by assumption), if_neg (by assumption), if_pos (by assumption)] | rw [if_neg (by assumption), if_neg (by assumption), if_neg (by assumption), if_neg (by assumption), cj], hM20, ((F2.rf.f1 hF1 (by decide)).f1 hF2 (by decide)).f1 hF20 (by decide)⟩ dX4_behind_103
  ·
    refine gx_aload_n C dX4_behind_27 (by rfl) (by rfl) ?_
    refine gx_iconst (v := (-1)) C dX4_behind_28 (by decide) ?_
    refine gx_callVI (As := [.int (-1)]) (rest := []) C (c_X4_inRank E σ2 X2 hM2 hO2 (-1)) z_X4_inRank ck4 (by rfl) (by rfl) ml_X4_55 (by rfl) (Nat.le_of_ble_eq_true rfl) ⟨Nat.le_of_ble_eq_true rfl, Nat.le_of_ble_eq_true rfl⟩ dX4_behind_29 (fun r22 σ22 w22 => ?_)
    obtain ⟨u1, u2⟩ := w22; rw [u1, u2]; clear u1 u2
    refine gx_goto (tgt := 88) C dX4_behind_32 (by decide) ?_
    refine gx_istore (lv2 := [(4, .int (bset (nn X2) (inP X2 (-1)))), (3, .int (K 0 2)), (0, .ref (eA E 49)), (1, .int (nI t)), (2, .int w)]) C dX4_behind_88 (by decide) rfl ?_
    refine gx_aload_n C dX4_behind_90 (by rfl) (by rfl) ?_
    refine gx_getr (j := 52) (k := 2) C ck4 (by rfl) (by rfl) (by decide) fl_X4_16 dX4_behind_91 ?_
    refine gx_aload_n C dX4_behind_94 (by rfl) (by rfl) ?_
    refine gx_getr (j := 50) (k := 0) C ck4 (by rfl) (by rfl) (by decide) fl_X4_9 dX4_behind_95 ?_
    refine gx_callSV (As := [.ref (eA E 52), .ref (eA E 50)]) (rest := []) C (c_X4_row E σ2 52 50 (by rfl) (by rfl) (by decide)) z_X4_row (by rfl) ml_X4_165 (by rfl) (Nat.le_of_ble_eq_true rfl) ⟨Nat.le_of_ble_eq_true rfl, Nat.le_of_ble_eq_true rfl⟩ dX4_behind_98 (fun σ23 w23 => ?_)
    obtain ⟨hR23, hF23⟩ := w23
    have hN24 : vM σ23 52 = K := (vM_o (hF23 52 (by decide))).trans hN3
    have hM23 : vM σ23 50 = K := hR23.trans hN3
    refine gx_iload C dX4_behind_101 (by rfl) ?_
    exact gx_iret C hr hlk rfl ⟨by rw [← eX2]; unfold aheadV; first | rw [if_pos (by assumption)] | rw [if_neg (by assumption), if_pos (by assumption)] | rw [if_neg (by assumption), if_neg (by assumption), if_pos (by assumption)] | rw [if_neg (by assumption), if_neg (by assumption), if_neg (by assumption), if_pos (by assumption)] | rw [if_neg (by assumption), if_neg (by assumption), if_neg (by assumption), if_neg (by assumption), cj], hM23, ((F2.rf.f1 hF1 (by decide)).f1 hF2 (by decide)).f1 hF23 (by decide)⟩ dX4_behind_103
theorem sub4 {q : Nat} : nI (4 + q) - 4 = nI q := by
  rw [Nat.add_comm, show (4 : Int32) = nI 4 from rfl, pk_sub (by omega), Nat.add_sub_cancel]
theorem nI_le4 {q : Nat} (h : q < 12) : ¬ nI (4 + q) = 0 ∧ ¬ nI (4 + q) = 1 ∧ ¬ nI (4 + q) = 2 ∧ ¬ nI (4 + q) = 3 := ⟨nI_ne (b := 0) (by omega) (by omega) (by omega), nI_ne (b := 1) (by omega) (by omega) (by omega), nI_ne (b := 2) (by omega) (by omega) (by omega), nI_ne (b := 3) (by omega) (by omega) (by omega)⟩
theorem k_X4_behind_q (E : En) (σ : Mm) (K : Mm) (hM : vM σ 50 = K) (hO : Ok K) (t : Nat) (ht : t ≤ 120) (q : Nat) (hq : q < nn K) : CtI E yX4_behind cX4_behind 5 (some .int) 7 162 [.ref (eA E 49), .int (nI t), .int (nI (4 + q))] σ (fun rr σ2 => rr = mos t K 2 q ∧ vM σ2 50 = K ∧ F2 σ σ2) := by
  have h12 := hO.1.2
  have h := c_X4_behind E σ K hM hO t ht (nI (4 + q)) (nI_pos' (by omega)) (fun _ => by rw [sub4]; exact nI_has hO hq)
  obtain ⟨a, b, c, d⟩ := nI_le4 (q := q) (by omega)
  have e : aheadV K (mos t K) (nI (4 + q)) = mos t K 2 q := by
    unfold aheadV
    rw [if_neg a, if_neg b, if_neg c, if_neg d, sub4, show cl (nI q) = q from nI_clamp (by omega)]
  rwa [e] at h
theorem k_X4_behind_1 (E : En) (σ : Mm) (K : Mm) (hM : vM σ 50 = K) (hO : Ok K) (t : Nat) (ht : t ≤ 120) : CtI E yX4_behind cX4_behind 5 (some .int) 7 162 [.ref (eA E 49), .int (nI t), .int 1] σ (fun rr σ2 => rr = mos t K 0 2 - K 0 2 ∧ vM σ2 50 = K ∧ F2 σ σ2) := c_X4_behind E σ K hM hO t ht 1 (by decide) (fun q => absurd q (by decide))
set_option maxHeartbeats 4000000 in
set_option maxRecDepth 100000 in
theorem c_X4_goldBehind (E : En) (σ : Mm) (K : Mm) (hM : vM σ 50 = K) (hO : Ok K) (q : Nat) (hq : q < 12) (t : Nat) (ht : t ≤ 120) : CtI E yX4_goldBehind cX4_goldBehind 4 (some .int) 7 162 [.ref (eA E 49), .int (nI q), .int (nI t)] σ (fun rr σ2 => rr = mos t K 5 q ∧ vM σ2 50 = K ∧ F2 σ σ2) := by
  obtain ⟨⟨hn, h12⟩, hpp, hlw, hsp, hz0⟩ := id hO
  refine CtI.of (by decide +kernel) (Nat.le_of_ble_eq_true rfl) (fun p e0 s m below meth c C hr hlk => ?_)
  refine gx_lv (lv' := [(0, .ref (eA E 49)), (1, .int (nI q)), (2, .int (nI t))]) rfl ?_
  refine gx_aload_n C dX4_goldBehind_0 (by rfl) (by rfl) ?_
  refine gx_getr (j := 50) (k := 0) C ck4 (by rfl) (by rfl) (by decide) fl_X4_9 dX4_goldBehind_1 ?_
  refine gx_aload_n C dX4_goldBehind_4 (by rfl) (by rfl) ?_
  refine gx_getr (j := 52) (k := 2) C ck4 (by rfl) (by rfl) (by decide) fl_X4_16 dX4_goldBehind_5 ?_
  refine gx_callSV (As := [.ref (eA E 50), .ref (eA E 52)]) (rest := []) C (c_X4_row E σ 50 52 (by rfl) (by rfl) (by decide)) z_X4_row (by rfl) ml_X4_165 (by rfl) (Nat.le_of_ble_eq_true rfl) ⟨Nat.le_of_ble_eq_true rfl, Nat.le_of_ble_eq_true rfl⟩ dX4_goldBehind_8 (fun σ1 w1 => ?_)
  obtain ⟨hR1, hF1⟩ := w1
  have hM1 : vM σ1 50 = K := (vM_o (hF1 50 (by decide))).trans hM
  have hW1 : vM σ1 52 = K := hR1.trans hM
  refine gx_aload_n C dX4_goldBehind_11 (by rfl) (by rfl) ?_
  refine gx_iload_n C dX4_goldBehind_12 (by rfl) (by rfl) ?_
  refine gx_callVV (As := [.int (nI t)]) (rest := []) C (c_X4_monthsGo E σ1 K hM1 hO t (by omega)) z_X4_monthsGo ck4 (by rfl) (by rfl) ml_X4_161 (by rfl) (Nat.le_of_ble_eq_true rfl) ⟨Nat.le_of_ble_eq_true rfl, Nat.le_of_ble_eq_true rfl⟩ dX4_goldBehind_13 (fun σ2 w2 => ?_)
  obtain ⟨hM2, hF2⟩ := w2
  obtain ⟨X2, eX2⟩ : ∃ X, X = mos t K := ⟨_, rfl⟩
  rw [← eX2] at hM2
  have hO2 : Ok X2 := by rw [eX2]; exact (mos_keep hO t).1
  have hnn2 : nn X2 = nn K := by rw [eX2]; exact (mos_keep hO t).2
  have h122 := hO2.1.2
  have hN3 : vM σ2 52 = K := (vM_o (hF2 52 (by decide))).trans hW1
  refine gx_aload_n C dX4_goldBehind_16 (by rfl) (by rfl) ?_
  refine gx_iload_n C dX4_goldBehind_17 (by rfl) (by rfl) ?_
  refine gx_iconst (v := 4) C dX4_goldBehind_18 (by decide) ?_
  refine gx_callVI (As := [.int (nI q), .int 4]) (rest := []) C (c_X4_is E σ2 q (by omega) 4 (by omega)) z_X4_is ck4 (by rfl) (by rfl) ml_X4_51 (by rfl) (Nat.le_of_ble_eq_true rfl) ⟨Nat.le_of_ble_eq_true rfl, Nat.le_of_ble_eq_true rfl⟩ dX4_goldBehind_19 (fun r4 σ4 w4 => ?_)
  obtain ⟨u1, u2⟩ := w4; rw [u1, u2]; clear u1 u2
  refine gx_st (st' := [.int (X2 5 q)]) (by rw [mp_5 hM2 (p := q) (by omega)]) ?_
  refine gx_istore_n (lv2 := [(3, .int (X2 5 q)), (0, .ref (eA E 49)), (1, .int (nI q)), (2, .int (nI t))]) C dX4_goldBehind_22 (by rfl) (by decide) rfl ?_
  refine gx_aload_n C dX4_goldBehind_23 (by rfl) (by rfl) ?_
  refine gx_getr (j := 52) (k := 2) C ck4 (by rfl) (by rfl) (by decide) fl_X4_16 dX4_goldBehind_24 ?_
  refine gx_aload_n C dX4_goldBehind_27 (by rfl) (by rfl) ?_
  refine gx_getr (j := 50) (k := 0) C ck4 (by rfl) (by rfl) (by decide) fl_X4_9 dX4_goldBehind_28 ?_
  refine gx_callSV (As := [.ref (eA E 52), .ref (eA E 50)]) (rest := []) C (c_X4_row E σ2 52 50 (by rfl) (by rfl) (by decide)) z_X4_row (by rfl) ml_X4_165 (by rfl) (Nat.le_of_ble_eq_true rfl) ⟨Nat.le_of_ble_eq_true rfl, Nat.le_of_ble_eq_true rfl⟩ dX4_goldBehind_31 (fun σ5 w5 => ?_)
  obtain ⟨hR5, hF5⟩ := w5
  have hN6 : vM σ5 52 = K := (vM_o (hF5 52 (by decide))).trans hN3
  have hM5 : vM σ5 50 = K := hR5.trans hN3
  refine gx_iload_n C dX4_goldBehind_34 (by rfl) (by rfl) ?_
  exact gx_iret C hr hlk rfl ⟨by rw [← eX2], hM5, ((F2.rf.f1 hF1 (by decide)).f1 hF2 (by decide)).f1 hF5 (by decide)⟩ dX4_goldBehind_35
theorem com_ad {K : Mm} (hO : Ok K) {k r : Int32} : up2 (up2 (up2 (up2 (up2 (up2 (up2 (up2 K 0 0 (nI (nn K + 1))) 1 (nn K) k) 2 (nn K) r) 3 (nn K) 30) 4 (nn K) 0) 5 (nn K) 100) 6 (nn K) (-1)) 7 (nn K) 0 = adK K k r := by
  have e : K 0 0 + 1 = nI (nn K + 1) := by rw [hO.1.1]; exact nI_1 _
  unfold adK nwK
  rw [e]
  funext a b
  simp only [up2_up]
  by_cases h : a = 2
  · subst h; simp
    split <;> simp
  · simp [h]
set_option maxHeartbeats 4000000 in
set_option maxRecDepth 100000 in
theorem c_X4_comes (E : En) (σ : Mm) (K : Mm) (hM : vM σ 50 = K) (hO : Ok K) (kd r : Int32) (hlt : nn K < 12) : CtI E yX4_comes cX4_comes 4 (some .int) 1 23 [.ref (eA E 49), .int kd, .int r] σ (fun rr σ2 => rr = nI (nn K) ∧ vM σ2 50 = adK K kd r ∧ F1 50 σ σ2) := by
  obtain ⟨⟨hn, h12⟩, hpp, hlw, hsp, hz0⟩ := id hO
  refine CtI.of (by decide +kernel) (Nat.le_of_ble_eq_true rfl) (fun p e0 s m below meth c C hr hlk => ?_)
  refine gx_lv (lv' := [(0, .ref (eA E 49)), (1, .int kd), (2, .int r)]) rfl ?_
  refine gx_aload_n C dX4_comes_0 (by rfl) (by rfl) ?_
  refine gx_getr (j := 50) (k := 0) C ck4 (by rfl) (by rfl) (by decide) fl_X4_9 dX4_comes_1 ?_
  refine gx_bipush (v := 6) C dX4_comes_4 (by decide) ?_
  refine gx_ialdN (k := 6) C (by rfl) (by rfl) (by decide) (by decide) dX4_comes_6 ?_
  refine gx_st (st' := [.int (nI (nn K))]) (by rw [mp_n hM, hn]) ?_
  refine gx_istore_n (lv2 := [(3, .int (nI (nn K))), (0, .ref (eA E 49)), (1, .int kd), (2, .int r)]) C dX4_comes_7 (by rfl) (by decide) rfl ?_
  refine gx_aload_n C dX4_comes_8 (by rfl) (by rfl) ?_
  refine gx_getr (j := 50) (k := 0) C ck4 (by rfl) (by rfl) (by decide) fl_X4_9 dX4_comes_9 ?_
  refine gx_bipush (v := 6) C dX4_comes_12 (by decide) ?_
  refine gx_dup2 C (by rfl) (by rfl) dX4_comes_14 ?_
  refine gx_ialdN (k := 6) C (by rfl) (by rfl) (by decide) (by decide) dX4_comes_15 ?_
  refine gx_st (st' := [.int (nI (nn K)), .int 6, .ref (eA E 50)]) (by rw [mp_n hM, hn]) ?_
  refine gx_iconst (v := 1) C dX4_comes_16 (by decide) ?_
  refine gx_iadd C dX4_comes_17 ?_
  refine gx_st (st' := [.int (nI (nn K + 1)), .int 6, .ref (eA E 50)]) (by rw [show (nI (nn K)) + 1 = nI (nn K + 1) from nI_add (nn K) 1]) ?_
  refine gx_iastN (k := 6) C (by rfl) (by rfl) (by decide) (by decide) dX4_comes_18 ?_
  have hM1 : vM (up2 σ 50 6 (nI (nn K + 1))) 50 = up2 K 0 0 (nI (nn K + 1)) := by rw [vM_up (j := 0) (p := 0) (by omega) (by decide) (by rfl), hM]
  refine gx_aload_n C dX4_comes_19 (by rfl) (by rfl) ?_
  refine gx_iload_n C dX4_comes_20 (by rfl) (by rfl) ?_
  refine gx_iconst (v := 0) C dX4_comes_21 (by decide) ?_
  refine gx_iload_n C dX4_comes_22 (by rfl) (by rfl) ?_
  refine gx_callVV (As := [.int (nI (nn K)), .int 0, .int kd]) (rest := []) C (c_X4_makes E (up2 σ 50 6 (nI (nn K + 1))) (nn K) (by omega) 0 (by omega) kd) z_X4_makes ck4 (by rfl) (by rfl) ml_X4_87 (by rfl) (Nat.le_of_ble_eq_true rfl) ⟨Nat.le_of_ble_eq_true rfl, Nat.le_of_ble_eq_true rfl⟩ dX4_comes_23 (fun σ3 w3 => ?_)
  rw [w3]; clear w3
  have hM2 : vM (up2 (up2 σ 50 6 (nI (nn K + 1))) 50 (15 + 7 * (nn K) + 0) kd) 50 = up2 (up2 K 0 0 (nI (nn K + 1))) 1 (nn K) kd := by rw [vM_mk (by omega) (by omega), hM1]
  refine gx_aload_n C dX4_comes_26 (by rfl) (by rfl) ?_
  refine gx_iload_n C dX4_comes_27 (by rfl) (by rfl) ?_
  refine gx_iconst (v := 1) C dX4_comes_28 (by decide) ?_
  refine gx_iload_n C dX4_comes_29 (by rfl) (by rfl) ?_
  refine gx_callVV (As := [.int (nI (nn K)), .int 1, .int r]) (rest := []) C (c_X4_makes E (up2 (up2 σ 50 6 (nI (nn K + 1))) 50 (15 + 7 * (nn K) + 0) kd) (nn K) (by omega) 1 (by omega) r) z_X4_makes ck4 (by rfl) (by rfl) ml_X4_87 (by rfl) (Nat.le_of_ble_eq_true rfl) ⟨Nat.le_of_ble_eq_true rfl, Nat.le_of_ble_eq_true rfl⟩ dX4_comes_30 (fun σ5 w5 => ?_)
  rw [w5]; clear w5
  have hM4 : vM (up2 (up2 (up2 σ 50 6 (nI (nn K + 1))) 50 (15 + 7 * (nn K) + 0) kd) 50 (15 + 7 * (nn K) + 1) r) 50 = up2 (up2 (up2 K 0 0 (nI (nn K + 1))) 1 (nn K) kd) 2 (nn K) r := by rw [vM_mk (by omega) (by omega), hM2]
  refine gx_aload_n C dX4_comes_33 (by rfl) (by rfl) ?_
  refine gx_iload_n C dX4_comes_34 (by rfl) (by rfl) ?_
  refine gx_iconst (v := 2) C dX4_comes_35 (by decide) ?_
  refine gx_bipush (v := 30) C dX4_comes_36 (by decide) ?_
  refine gx_callVV (As := [.int (nI (nn K)), .int 2, .int 30]) (rest := []) C (c_X4_makes E (up2 (up2 (up2 σ 50 6 (nI (nn K + 1))) 50 (15 + 7 * (nn K) + 0) kd) 50 (15 + 7 * (nn K) + 1) r) (nn K) (by omega) 2 (by omega) 30) z_X4_makes ck4 (by rfl) (by rfl) ml_X4_87 (by rfl) (Nat.le_of_ble_eq_true rfl) ⟨Nat.le_of_ble_eq_true rfl, Nat.le_of_ble_eq_true rfl⟩ dX4_comes_38 (fun σ7 w7 => ?_)
  rw [w7]; clear w7
  have hM6 : vM (up2 (up2 (up2 (up2 σ 50 6 (nI (nn K + 1))) 50 (15 + 7 * (nn K) + 0) kd) 50 (15 + 7 * (nn K) + 1) r) 50 (15 + 7 * (nn K) + 2) 30) 50 = up2 (up2 (up2 (up2 K 0 0 (nI (nn K + 1))) 1 (nn K) kd) 2 (nn K) r) 3 (nn K) 30 := by rw [vM_mk (by omega) (by omega), hM4]
  refine gx_aload_n C dX4_comes_41 (by rfl) (by rfl) ?_
  refine gx_iload_n C dX4_comes_42 (by rfl) (by rfl) ?_
  refine gx_iconst (v := 3) C dX4_comes_43 (by decide) ?_
  refine gx_iconst (v := 0) C dX4_comes_44 (by decide) ?_
  refine gx_callVV (As := [.int (nI (nn K)), .int 3, .int 0]) (rest := []) C (c_X4_makes E (up2 (up2 (up2 (up2 σ 50 6 (nI (nn K + 1))) 50 (15 + 7 * (nn K) + 0) kd) 50 (15 + 7 * (nn K) + 1) r) 50 (15 + 7 * (nn K) + 2) 30) (nn K) (by omega) 3 (by omega) 0) z_X4_makes ck4 (by rfl) (by rfl) ml_X4_87 (by rfl) (Nat.le_of_ble_eq_true rfl) ⟨Nat.le_of_ble_eq_true rfl, Nat.le_of_ble_eq_true rfl⟩ dX4_comes_45 (fun σ9 w9 => ?_)
  rw [w9]; clear w9
  have hM8 : vM (up2 (up2 (up2 (up2 (up2 σ 50 6 (nI (nn K + 1))) 50 (15 + 7 * (nn K) + 0) kd) 50 (15 + 7 * (nn K) + 1) r) 50 (15 + 7 * (nn K) + 2) 30) 50 (15 + 7 * (nn K) + 3) 0) 50 = up2 (up2 (up2 (up2 (up2 K 0 0 (nI (nn K + 1))) 1 (nn K) kd) 2 (nn K) r) 3 (nn K) 30) 4 (nn K) 0 := by rw [vM_mk (by omega) (by omega), hM6]
  refine gx_aload_n C dX4_comes_48 (by rfl) (by rfl) ?_
  refine gx_iload_n C dX4_comes_49 (by rfl) (by rfl) ?_
  refine gx_iconst (v := 4) C dX4_comes_50 (by decide) ?_
  refine gx_bipush (v := 100) C dX4_comes_51 (by decide) ?_
  refine gx_callVV (As := [.int (nI (nn K)), .int 4, .int 100]) (rest := []) C (c_X4_makes E (up2 (up2 (up2 (up2 (up2 σ 50 6 (nI (nn K + 1))) 50 (15 + 7 * (nn K) + 0) kd) 50 (15 + 7 * (nn K) + 1) r) 50 (15 + 7 * (nn K) + 2) 30) 50 (15 + 7 * (nn K) + 3) 0) (nn K) (by omega) 4 (by omega) 100) z_X4_makes ck4 (by rfl) (by rfl) ml_X4_87 (by rfl) (Nat.le_of_ble_eq_true rfl) ⟨Nat.le_of_ble_eq_true rfl, Nat.le_of_ble_eq_true rfl⟩ dX4_comes_53 (fun σ11 w11 => ?_)
  rw [w11]; clear w11
  have hM10 : vM (up2 (up2 (up2 (up2 (up2 (up2 σ 50 6 (nI (nn K + 1))) 50 (15 + 7 * (nn K) + 0) kd) 50 (15 + 7 * (nn K) + 1) r) 50 (15 + 7 * (nn K) + 2) 30) 50 (15 + 7 * (nn K) + 3) 0) 50 (15 + 7 * (nn K) + 4) 100) 50 = up2 (up2 (up2 (up2 (up2 (up2 K 0 0 (nI (nn K + 1))) 1 (nn K) kd) 2 (nn K) r) 3 (nn K) 30) 4 (nn K) 0) 5 (nn K) 100 := by rw [vM_mk (by omega) (by omega), hM8]
  refine gx_aload_n C dX4_comes_56 (by rfl) (by rfl) ?_
  refine gx_iload_n C dX4_comes_57 (by rfl) (by rfl) ?_
  refine gx_iconst (v := 5) C dX4_comes_58 (by decide) ?_
  refine gx_iconst (v := (-1)) C dX4_comes_59 (by decide) ?_
  refine gx_callVV (As := [.int (nI (nn K)), .int 5, .int (-1)]) (rest := []) C (c_X4_makes E (up2 (up2 (up2 (up2 (up2 (up2 σ 50 6 (nI (nn K + 1))) 50 (15 + 7 * (nn K) + 0) kd) 50 (15 + 7 * (nn K) + 1) r) 50 (15 + 7 * (nn K) + 2) 30) 50 (15 + 7 * (nn K) + 3) 0) 50 (15 + 7 * (nn K) + 4) 100) (nn K) (by omega) 5 (by omega) (-1)) z_X4_makes ck4 (by rfl) (by rfl) ml_X4_87 (by rfl) (Nat.le_of_ble_eq_true rfl) ⟨Nat.le_of_ble_eq_true rfl, Nat.le_of_ble_eq_true rfl⟩ dX4_comes_60 (fun σ15 w15 => ?_)
  rw [w15]; clear w15
  have hM14 : vM (up2 (up2 (up2 (up2 (up2 (up2 (up2 σ 50 6 (nI (nn K + 1))) 50 (15 + 7 * (nn K) + 0) kd) 50 (15 + 7 * (nn K) + 1) r) 50 (15 + 7 * (nn K) + 2) 30) 50 (15 + 7 * (nn K) + 3) 0) 50 (15 + 7 * (nn K) + 4) 100) 50 (15 + 7 * (nn K) + 5) (-1)) 50 = up2 (up2 (up2 (up2 (up2 (up2 (up2 K 0 0 (nI (nn K + 1))) 1 (nn K) kd) 2 (nn K) r) 3 (nn K) 30) 4 (nn K) 0) 5 (nn K) 100) 6 (nn K) (-1) := by rw [vM_mk (by omega) (by omega), hM10]
  refine gx_aload_n C dX4_comes_63 (by rfl) (by rfl) ?_
  refine gx_iload_n C dX4_comes_64 (by rfl) (by rfl) ?_
  refine gx_bipush (v := 6) C dX4_comes_65 (by decide) ?_
  refine gx_iconst (v := 0) C dX4_comes_67 (by decide) ?_
  refine gx_callVV (As := [.int (nI (nn K)), .int 6, .int 0]) (rest := []) C (c_X4_makes E (up2 (up2 (up2 (up2 (up2 (up2 (up2 σ 50 6 (nI (nn K + 1))) 50 (15 + 7 * (nn K) + 0) kd) 50 (15 + 7 * (nn K) + 1) r) 50 (15 + 7 * (nn K) + 2) 30) 50 (15 + 7 * (nn K) + 3) 0) 50 (15 + 7 * (nn K) + 4) 100) 50 (15 + 7 * (nn K) + 5) (-1)) (nn K) (by omega) 6 (by omega) 0) z_X4_makes ck4 (by rfl) (by rfl) ml_X4_87 (by rfl) (Nat.le_of_ble_eq_true rfl) ⟨Nat.le_of_ble_eq_true rfl, Nat.le_of_ble_eq_true rfl⟩ dX4_comes_68 (fun σ17 w17 => ?_)
  rw [w17]; clear w17
  have hM16 : vM (up2 (up2 (up2 (up2 (up2 (up2 (up2 (up2 σ 50 6 (nI (nn K + 1))) 50 (15 + 7 * (nn K) + 0) kd) 50 (15 + 7 * (nn K) + 1) r) 50 (15 + 7 * (nn K) + 2) 30) 50 (15 + 7 * (nn K) + 3) 0) 50 (15 + 7 * (nn K) + 4) 100) 50 (15 + 7 * (nn K) + 5) (-1)) 50 (15 + 7 * (nn K) + 6) 0) 50 = up2 (up2 (up2 (up2 (up2 (up2 (up2 (up2 K 0 0 (nI (nn K + 1))) 1 (nn K) kd) 2 (nn K) r) 3 (nn K) 30) 4 (nn K) 0) 5 (nn K) 100) 6 (nn K) (-1)) 7 (nn K) 0 := by rw [vM_mk (by omega) (by omega), hM14]
  refine gx_iload_n C dX4_comes_71 (by rfl) (by rfl) ?_
  exact gx_iret C hr hlk rfl ⟨rfl, by rw [← com_ad hO]; exact hM16, F1.rf.up.up.up.up.up.up.up.up⟩ dX4_comes_72
set_option maxHeartbeats 4000000 in
set_option maxRecDepth 100000 in
theorem c_X4_isPart (E : En) (σ : Mm) (w v : Int32) : CtI E yX4_isPart cX4_isPart 2 (some .boolean) 2 45 [.int w, .int v] σ (fun rr σ2 => σ2 = σ ∧ rr = b2 ((w = 0 ∧ (0 ≤ v ∧ v ≤ 6)) ∨ (w = 2 ∧ (0 ≤ v ∧ v ≤ 99)) ∨ (w = 3 ∧ (0 ≤ v ∧ v ≤ 3)) ∨ (w = 4 ∧ (0 ≤ v ∧ v ≤ 9999)))) := by
  refine CtI.of (by decide +kernel) (Nat.le_of_ble_eq_true rfl) (fun p e0 s m below meth c C hr hlk => ?_)
  refine gx_lv (lv' := [(0, .int w), (1, .int v)]) rfl ?_
  refine gx_iload_n C dX4_isPart_0 (by rfl) (by rfl) ?_
  rcases sw_split w (0) 3 4 (by decide) with h1 | h1
  ·
    refine gx_tabOut (tgt := 57) C dX4_isPart_1 h1 (by decide) ?_
    have qd1 : ¬ w = 0 ∧ ¬ w = 1 ∧ ¬ w = 2 ∧ ¬ w = 3 := by refine ⟨?_, ?_, ?_, ?_⟩ <;> (intro q9; rw [q9] at h1; revert h1; decide)
    refine gx_iload_n C dX4_isPart_57 (by rfl) (by rfl) ?_
    refine gx_iconst (v := 4) C dX4_isPart_58 (by decide) ?_
    refine gx_icmp_ne (tgt := 78) C dX4_isPart_59 (by decide) (fun h2 => ?_) (fun h2 => ?_)
    ·
      refine gx_iconst (v := 0) C dX4_isPart_78 (by decide) ?_
      exact gx_iret C hr hlk (by first | rfl | exact nb_b2 _) ⟨rfl, by first | exact b2_t (by grind) | exact b2_f (by grind) | exact b2_c (by grind)⟩ dX4_isPart_79
    ·
      refine gx_iload_n C dX4_isPart_62 (by rfl) (by rfl) ?_
      refine gx_i2l C dX4_isPart_63 ?_
      refine gx_lconst (v := 0) C dX4_isPart_64 (by decide) ?_
      refine gx_ldc2 C kl_X4_108 dX4_isPart_65 ?_
      refine gx_callSI (As := [.long v.toInt64, .long 0, .long 9999]) (rest := []) C (c_X4_in E σ v 0 9999 v.toInt64 0 9999 (by first | rfl | decide) (by first | rfl | decide) (by first | rfl | decide)) z_X4_in (by rfl) ml_X4_45 (by rfl) (Nat.le_of_ble_eq_true rfl) ⟨Nat.le_of_ble_eq_true rfl, Nat.le_of_ble_eq_true rfl⟩ dX4_isPart_68 (fun r3 σ3 w3 => ?_)
      obtain ⟨u1, u2⟩ := w3; rw [u1, u2]; clear u1 u2
      refine gx_if_eq (tgt := 78) C dX4_isPart_71 (by decide) (fun h4 => ?_) (fun h4 => ?_)
      ·
        have h4 := b2_z.mp h4
        refine gx_iconst (v := 0) C dX4_isPart_78 (by decide) ?_
        exact gx_iret C hr hlk (by first | rfl | exact nb_b2 _) ⟨rfl, by first | exact b2_t (by grind) | exact b2_f (by grind) | exact b2_c (by grind)⟩ dX4_isPart_79
      ·
        have h4 := b2_nz.mp h4
        refine gx_iconst (v := 1) C dX4_isPart_74 (by decide) ?_
        refine gx_goto (tgt := 79) C dX4_isPart_75 (by decide) ?_
        exact gx_iret C hr hlk (by first | rfl | exact nb_b2 _) ⟨rfl, by first | exact b2_t (by grind) | exact b2_f (by grind) | exact b2_c (by grind)⟩ dX4_isPart_79
  ·
    obtain ⟨j1, hj1, ej1⟩ := h1
    have hj1 := hj1
    match j1, hj1, ej1 with
    | 0, _, ej1 =>
      have ex1 : w = (0 : Int32) := ej1.trans (by decide)
      refine gx_tabIn (off := 31) (tgt := 32) C dX4_isPart_1 (by rw [ex1]; decide) (by rw [ex1]; decide) (by rw [ex1]; decide) (by decide) ?_
      refine gx_iload_n C dX4_isPart_32 (by rfl) (by rfl) ?_
      refine gx_callSI (As := [.int v]) (rest := []) C (c_X4_isKind E σ v) z_X4_isKind (by rfl) ml_X4_91 (by rfl) (Nat.le_of_ble_eq_true rfl) ⟨Nat.le_of_ble_eq_true rfl, Nat.le_of_ble_eq_true rfl⟩ dX4_isPart_33 (fun r5 σ5 w5 => ?_)
      obtain ⟨u1, u2⟩ := w5; rw [u1, u2]; clear u1 u2
      exact gx_iret C hr hlk (by first | rfl | exact nb_b2 _) ⟨rfl, by first | exact b2_t (by grind) | exact b2_f (by grind) | exact b2_c (by grind)⟩ dX4_isPart_36
    | 1, _, ej1 =>
      have ex1 : w = (1 : Int32) := ej1.trans (by decide)
      refine gx_tabIn (off := 56) (tgt := 57) C dX4_isPart_1 (by rw [ex1]; decide) (by rw [ex1]; decide) (by rw [ex1]; decide) (by decide) ?_
      refine gx_iload_n C dX4_isPart_57 (by rfl) (by rfl) ?_
      refine gx_iconst (v := 4) C dX4_isPart_58 (by decide) ?_
      refine gx_icmp_ne (tgt := 78) C dX4_isPart_59 (by decide) (fun h6 => ?_) (fun h6 => ?_)
      ·
        refine gx_iconst (v := 0) C dX4_isPart_78 (by decide) ?_
        exact gx_iret C hr hlk (by first | rfl | exact nb_b2 _) ⟨rfl, by first | exact b2_t (by grind) | exact b2_f (by grind) | exact b2_c (by grind)⟩ dX4_isPart_79
      ·
        refine gx_iload_n C dX4_isPart_62 (by rfl) (by rfl) ?_
        refine gx_i2l C dX4_isPart_63 ?_
        refine gx_lconst (v := 0) C dX4_isPart_64 (by decide) ?_
        refine gx_ldc2 C kl_X4_108 dX4_isPart_65 ?_
        refine gx_callSI (As := [.long v.toInt64, .long 0, .long 9999]) (rest := []) C (c_X4_in E σ v 0 9999 v.toInt64 0 9999 (by first | rfl | decide) (by first | rfl | decide) (by first | rfl | decide)) z_X4_in (by rfl) ml_X4_45 (by rfl) (Nat.le_of_ble_eq_true rfl) ⟨Nat.le_of_ble_eq_true rfl, Nat.le_of_ble_eq_true rfl⟩ dX4_isPart_68 (fun r7 σ7 w7 => ?_)
        obtain ⟨u1, u2⟩ := w7; rw [u1, u2]; clear u1 u2
        refine gx_if_eq (tgt := 78) C dX4_isPart_71 (by decide) (fun h8 => ?_) (fun h8 => ?_)
        ·
          have h8 := b2_z.mp h8
          refine gx_iconst (v := 0) C dX4_isPart_78 (by decide) ?_
          exact gx_iret C hr hlk (by first | rfl | exact nb_b2 _) ⟨rfl, by first | exact b2_t (by grind) | exact b2_f (by grind) | exact b2_c (by grind)⟩ dX4_isPart_79
        ·
          have h8 := b2_nz.mp h8
          refine gx_iconst (v := 1) C dX4_isPart_74 (by decide) ?_
          refine gx_goto (tgt := 79) C dX4_isPart_75 (by decide) ?_
          exact gx_iret C hr hlk (by first | rfl | exact nb_b2 _) ⟨rfl, by first | exact b2_t (by grind) | exact b2_f (by grind) | exact b2_c (by grind)⟩ dX4_isPart_79
    | 2, _, ej1 =>
      have ex1 : w = (2 : Int32) := ej1.trans (by decide)
      refine gx_tabIn (off := 36) (tgt := 37) C dX4_isPart_1 (by rw [ex1]; decide) (by rw [ex1]; decide) (by rw [ex1]; decide) (by decide) ?_
      refine gx_iload_n C dX4_isPart_37 (by rfl) (by rfl) ?_
      refine gx_i2l C dX4_isPart_38 ?_
      refine gx_lconst (v := 0) C dX4_isPart_39 (by decide) ?_
      refine gx_ldc2 C kl_X4_104 dX4_isPart_40 ?_
      refine gx_callSI (As := [.long v.toInt64, .long 0, .long 99]) (rest := []) C (c_X4_in E σ v 0 99 v.toInt64 0 99 (by first | rfl | decide) (by first | rfl | decide) (by first | rfl | decide)) z_X4_in (by rfl) ml_X4_45 (by rfl) (Nat.le_of_ble_eq_true rfl) ⟨Nat.le_of_ble_eq_true rfl, Nat.le_of_ble_eq_true rfl⟩ dX4_isPart_43 (fun r9 σ9 w9 => ?_)
      obtain ⟨u1, u2⟩ := w9; rw [u1, u2]; clear u1 u2
      exact gx_iret C hr hlk (by first | rfl | exact nb_b2 _) ⟨rfl, by first | exact b2_t (by grind) | exact b2_f (by grind) | exact b2_c (by grind)⟩ dX4_isPart_46
    | 3, _, ej1 =>
      have ex1 : w = (3 : Int32) := ej1.trans (by decide)
      refine gx_tabIn (off := 46) (tgt := 47) C dX4_isPart_1 (by rw [ex1]; decide) (by rw [ex1]; decide) (by rw [ex1]; decide) (by decide) ?_
      refine gx_iload_n C dX4_isPart_47 (by rfl) (by rfl) ?_
      refine gx_i2l C dX4_isPart_48 ?_
      refine gx_lconst (v := 0) C dX4_isPart_49 (by decide) ?_
      refine gx_ldc2 C kl_X4_106 dX4_isPart_50 ?_
      refine gx_callSI (As := [.long v.toInt64, .long 0, .long 3]) (rest := []) C (c_X4_in E σ v 0 3 v.toInt64 0 3 (by first | rfl | decide) (by first | rfl | decide) (by first | rfl | decide)) z_X4_in (by rfl) ml_X4_45 (by rfl) (Nat.le_of_ble_eq_true rfl) ⟨Nat.le_of_ble_eq_true rfl, Nat.le_of_ble_eq_true rfl⟩ dX4_isPart_53 (fun r10 σ10 w10 => ?_)
      obtain ⟨u1, u2⟩ := w10; rw [u1, u2]; clear u1 u2
      exact gx_iret C hr hlk (by first | rfl | exact nb_b2 _) ⟨rfl, by first | exact b2_t (by grind) | exact b2_f (by grind) | exact b2_c (by grind)⟩ dX4_isPart_56
    | j + 4, hj, _ => exact absurd hj (by omega)
set_option maxHeartbeats 4000000 in
set_option maxRecDepth 100000 in
theorem c_X4_mayPlot (E : En) (σ : Mm) (K : Mm) (hM : vM σ 50 = K) (hO : Ok K) (q : Nat) (hq : q < 12) : CtI E yX4_mayPlot cX4_mayPlot 3 (some .boolean) 1 22 [.ref (eA E 49), .int (nI q)] σ (fun rr σ2 => σ2 = σ ∧ rr = b2 (mpl K q = true)) := by
  obtain ⟨⟨hn, h12⟩, hpp, hlw, hsp, hz0⟩ := id hO
  refine CtI.of (by decide +kernel) (Nat.le_of_ble_eq_true rfl) (fun p e0 s m below meth c C hr hlk => ?_)
  refine gx_lv (lv' := [(0, .ref (eA E 49)), (1, .int (nI q))]) rfl ?_
  refine gx_aload_n C dX4_mayPlot_0 (by rfl) (by rfl) ?_
  refine gx_iload_n C dX4_mayPlot_1 (by rfl) (by rfl) ?_
  refine gx_iconst (v := 0) C dX4_mayPlot_2 (by decide) ?_
  refine gx_callVI (As := [.int (nI q), .int 0]) (rest := []) C (c_X4_is E σ q (by omega) 0 (by omega)) z_X4_is ck4 (by rfl) (by rfl) ml_X4_51 (by rfl) (Nat.le_of_ble_eq_true rfl) ⟨Nat.le_of_ble_eq_true rfl, Nat.le_of_ble_eq_true rfl⟩ dX4_mayPlot_3 (fun r1 σ1 w1 => ?_)
  obtain ⟨u1, u2⟩ := w1; rw [u1, u2]; clear u1 u2
  refine gx_st (st' := [.int (K 1 q)]) (by rw [mp_1 hM (p := q) (by omega)]) ?_
  refine gx_istore_n (lv2 := [(2, .int (K 1 q)), (0, .ref (eA E 49)), (1, .int (nI q))]) C dX4_mayPlot_6 (by rfl) (by decide) rfl ?_
  refine gx_iload_n C dX4_mayPlot_7 (by rfl) (by rfl) ?_
  refine gx_if_eq (tgt := 26) C dX4_mayPlot_8 (by decide) (fun h2 => ?_) (fun h2 => ?_)
  ·
    refine gx_iconst (v := 1) C dX4_mayPlot_26 (by decide) ?_
    refine gx_goto (tgt := 31) C dX4_mayPlot_27 (by decide) ?_
    exact gx_iret C hr hlk (by first | rfl | exact nb_b2 _) ⟨rfl, by first | exact b2_t (by unfold mpl; grind) | exact b2_f (by unfold mpl; grind)⟩ dX4_mayPlot_31
  ·
    refine gx_iload_n C dX4_mayPlot_11 (by rfl) (by rfl) ?_
    refine gx_iconst (v := 2) C dX4_mayPlot_12 (by decide) ?_
    refine gx_icmp_eq (tgt := 26) C dX4_mayPlot_13 (by decide) (fun h3 => ?_) (fun h3 => ?_)
    ·
      refine gx_iconst (v := 1) C dX4_mayPlot_26 (by decide) ?_
      refine gx_goto (tgt := 31) C dX4_mayPlot_27 (by decide) ?_
      exact gx_iret C hr hlk (by first | rfl | exact nb_b2 _) ⟨rfl, by first | exact b2_t (by unfold mpl; grind) | exact b2_f (by unfold mpl; grind)⟩ dX4_mayPlot_31
    ·
      refine gx_iload_n C dX4_mayPlot_16 (by rfl) (by rfl) ?_
      refine gx_iconst (v := 3) C dX4_mayPlot_17 (by decide) ?_
      refine gx_icmp_eq (tgt := 26) C dX4_mayPlot_18 (by decide) (fun h4 => ?_) (fun h4 => ?_)
      ·
        refine gx_iconst (v := 1) C dX4_mayPlot_26 (by decide) ?_
        refine gx_goto (tgt := 31) C dX4_mayPlot_27 (by decide) ?_
        exact gx_iret C hr hlk (by first | rfl | exact nb_b2 _) ⟨rfl, by first | exact b2_t (by unfold mpl; grind) | exact b2_f (by unfold mpl; grind)⟩ dX4_mayPlot_31
      ·
        refine gx_iload_n C dX4_mayPlot_21 (by rfl) (by rfl) ?_
        refine gx_iconst (v := 5) C dX4_mayPlot_22 (by decide) ?_
        refine gx_icmp_ne (tgt := 30) C dX4_mayPlot_23 (by decide) (fun h5 => ?_) (fun h5 => ?_)
        ·
          refine gx_iconst (v := 0) C dX4_mayPlot_30 (by decide) ?_
          exact gx_iret C hr hlk (by first | rfl | exact nb_b2 _) ⟨rfl, by first | exact b2_t (by unfold mpl; grind) | exact b2_f (by unfold mpl; grind)⟩ dX4_mayPlot_31
        ·
          refine gx_iconst (v := 1) C dX4_mayPlot_26 (by decide) ?_
          refine gx_goto (tgt := 31) C dX4_mayPlot_27 (by decide) ?_
          exact gx_iret C hr hlk (by first | rfl | exact nb_b2 _) ⟨rfl, by first | exact b2_t (by unfold mpl; grind) | exact b2_f (by unfold mpl; grind)⟩ dX4_mayPlot_31
set_option maxHeartbeats 4000000 in
set_option maxRecDepth 100000 in
theorem c_X4_isSafe (E : En) (σ : Mm) (K : Mm) (hM : vM σ 50 = K) (hO : Ok K) (q : Nat) (hq : q < nn K) (hno : ¬ K 2 q = -1) : CtI E yX4_isSafe cX4_isSafe 5 (some .boolean) 3 66 [.ref (eA E 49), .int (nI q)] σ (fun rr σ2 => σ2 = σ ∧ rr = b2 (¬ (0 < nI (cnt (fun t => blP K q t && mwP K q t) (nn K)) ∧ nI (cnt (blP K q) (nn K)) ≤ nI (cnt (fun t => blP K q t && mwP K q t) (nn K)) * K 9 1))) := by
  obtain ⟨⟨hn, h12⟩, hpp, hlw, hsp, hz0⟩ := id hO
  refine CtI.of (by decide +kernel) (Nat.le_of_ble_eq_true rfl) (fun p e0 s m below meth c C hr hlk => ?_)
  refine gx_lv (lv' := [(0, .ref (eA E 49)), (1, .int (nI q))]) rfl ?_
  refine gx_aload_n C dX4_isSafe_0 (by rfl) (by rfl) ?_
  refine gx_iload_n C dX4_isSafe_1 (by rfl) (by rfl) ?_
  refine gx_callVI (As := [.int (nI q)]) (rest := []) C (c_X4_below E σ K hM hO q (by omega) (by assumption)) z_X4_below ck4 (by rfl) (by rfl) ml_X4_135 (by rfl) (Nat.le_of_ble_eq_true rfl) ⟨Nat.le_of_ble_eq_true rfl, Nat.le_of_ble_eq_true rfl⟩ dX4_isSafe_2 (fun r1 σ1 w1 => ?_)
  obtain ⟨u1, u2⟩ := w1; rw [u1, u2]; clear u1 u2
  refine gx_istore_n (lv2 := [(2, .int (bset (nn K) (blP K q))), (0, .ref (eA E 49)), (1, .int (nI q))]) C dX4_isSafe_5 (by rfl) (by decide) rfl ?_
  refine gx_iconst (v := 0) C dX4_isSafe_6 (by decide) ?_
  refine gx_istore_n (lv2 := [(3, .int 0), (2, .int (bset (nn K) (blP K q))), (0, .ref (eA E 49)), (1, .int (nI q))]) C dX4_isSafe_7 (by rfl) (by decide) rfl ?_
  refine gx_iconst (v := 0) C dX4_isSafe_8 (by decide) ?_
  refine gx_istore (lv2 := [(4, .int 0), (3, .int 0), (2, .int (bset (nn K) (blP K q))), (0, .ref (eA E 49)), (1, .int (nI q))]) C dX4_isSafe_9 (by decide) rfl ?_
  have loop11 : ∀ (kf i : Nat), i ≤ nn K → nn K < i + kf → Gx E p e0 (rmF 3 66) s m ([.ref (eA E 49), .int (nI q)] : List Value).toArray below meth c (MQ below (va_Qi (fun rr σ2 => σ2 = σ ∧ rr = b2 (¬ (0 < nI (cnt (fun t => blP K q t && mwP K q t) (nn K)) ∧ nI (cnt (blP K q) (nn K)) ≤ nI (cnt (fun t => blP K q t && mwP K q t) (nn K)) * K 9 1))) (WQ E) (AA E s.heap.size)) ([.ref (eA E 49), .int (nI q)] : List Value).toArray s 0 0 (AA E s.heap.size)) 5 11 [(0, .ref (eA E 49)), (1, .int (nI q)), (2, .int (bset (nn K) (blP K q))), (3, .int (bset i (fun t => blP K q t && mwP K q t))), (4, .int (nI i))] [] σ := by
    intro kf
    induction kf with
    | zero => intro i q1 q2; exact absurd q2 (by omega)
    | succ kf ih11 =>
      intro i a11 b11
      refine gx_iload C dX4_isSafe_11 (by rfl) ?_
      refine gx_aload_n C dX4_isSafe_13 (by rfl) (by rfl) ?_
      refine gx_getr (j := 50) (k := 0) C ck4 (by rfl) (by rfl) (by decide) fl_X4_9 dX4_isSafe_14 ?_
      refine gx_bipush (v := 6) C dX4_isSafe_17 (by decide) ?_
      refine gx_ialdN (k := 6) C (by rfl) (by rfl) (by decide) (by decide) dX4_isSafe_19 ?_
      refine gx_st (st' := [.int (nI (nn K)), .int (nI i)]) (by rw [mp_n hM, hn]) ?_
      refine gx_icmp_ge (tgt := 85) C dX4_isSafe_20 (by decide) (fun h2 => ?_) (fun h2 => ?_)
      ·
        have h2 := (nI_leI (a := (nn K)) (b := i) (by omega) (by omega)).mp h2
        refine gx_aload_n C dX4_isSafe_85 (by rfl) (by rfl) ?_
        refine gx_iload_n C dX4_isSafe_86 (by rfl) (by rfl) ?_
        refine gx_callSI (As := [.int (bset i (fun t => blP K q t && mwP K q t))]) (rest := [.ref (eA E 49)]) C (c_X4_many E σ i (by omega) (fun t => blP K q t && mwP K q t)) z_X4_many (by rfl) ml_X4_58 (by rfl) (Nat.le_of_ble_eq_true rfl) ⟨Nat.le_of_ble_eq_true rfl, Nat.le_of_ble_eq_true rfl⟩ dX4_isSafe_87 (fun r3 σ3 w3 => ?_)
        obtain ⟨u1, u2⟩ := w3; rw [u1, u2]; clear u1 u2
        refine gx_iload_n C dX4_isSafe_90 (by rfl) (by rfl) ?_
        refine gx_callSI (As := [.int (bset (nn K) (blP K q))]) (rest := [.int (nI (cnt (fun t => blP K q t && mwP K q t) i)), .ref (eA E 49)]) C (c_X4_many E σ (nn K) (by omega) (blP K q)) z_X4_many (by rfl) ml_X4_58 (by rfl) (Nat.le_of_ble_eq_true rfl) ⟨Nat.le_of_ble_eq_true rfl, Nat.le_of_ble_eq_true rfl⟩ dX4_isSafe_91 (fun r4 σ4 w4 => ?_)
        obtain ⟨u1, u2⟩ := w4; rw [u1, u2]; clear u1 u2
        refine gx_callVI (As := [.int (nI (cnt (fun t => blP K q t && mwP K q t) i)), .int (nI (cnt (blP K q) (nn K)))]) (rest := []) C (c_X4_isEnough E σ K hM hO (nI (cnt (fun t => blP K q t && mwP K q t) i)) (nI (cnt (blP K q) (nn K)))) z_X4_isEnough ck4 (by rfl) (by rfl) ml_X4_141 (by rfl) (Nat.le_of_ble_eq_true rfl) ⟨Nat.le_of_ble_eq_true rfl, Nat.le_of_ble_eq_true rfl⟩ dX4_isSafe_94 (fun r5 σ5 w5 => ?_)
        obtain ⟨u1, u2⟩ := w5; rw [u1, u2]; clear u1 u2
        refine gx_if_ne (tgt := 104) C dX4_isSafe_97 (by decide) (fun h6 => ?_) (fun h6 => ?_)
        ·
          have h6 := b2_nz.mp h6
          refine gx_iconst (v := 0) C dX4_isSafe_104 (by decide) ?_
          exact gx_iret C hr hlk (by first | rfl | exact nb_b2 _) ⟨rfl, by have q1 : i = nn K := (by omega); subst q1; first | exact b2_t (by grind) | exact b2_f (by grind)⟩ dX4_isSafe_105
        ·
          have h6 := b2_z.mp h6
          refine gx_iconst (v := 1) C dX4_isSafe_100 (by decide) ?_
          refine gx_goto (tgt := 105) C dX4_isSafe_101 (by decide) ?_
          exact gx_iret C hr hlk (by first | rfl | exact nb_b2 _) ⟨rfl, by have q1 : i = nn K := (by omega); subst q1; first | exact b2_t (by grind) | exact b2_f (by grind)⟩ dX4_isSafe_105
      ·
        have h2 := (not_congr (nI_leI (a := (nn K)) (b := i) (by omega) (by omega))).mp h2
        refine gx_iload_n C dX4_isSafe_23 (by rfl) (by rfl) ?_
        refine gx_iload_n C dX4_isSafe_24 (by rfl) (by rfl) ?_
        refine gx_iload C dX4_isSafe_25 (by rfl) ?_
        refine gx_callSI (As := [.int (bset (nn K) (blP K q)), .int (nI i)]) (rest := [.int (bset i (fun t => blP K q t && mwP K q t))]) C (c_X4_has E σ (nn K) (by omega) (blP K q) i (by omega)) z_X4_has (by rfl) ml_X4_71 (by rfl) (Nat.le_of_ble_eq_true rfl) ⟨Nat.le_of_ble_eq_true rfl, Nat.le_of_ble_eq_true rfl⟩ dX4_isSafe_27 (fun r7 σ7 w7 => ?_)
        obtain ⟨u1, u2⟩ := w7; rw [u1, u2]; clear u1 u2
        refine gx_if_eq (tgt := 76) C dX4_isSafe_30 (by decide) (fun h8 => ?_) (fun h8 => ?_)
        ·
          have h8 := b2_z.mp h8
          refine gx_iconst (v := 0) C dX4_isSafe_76 (by decide) ?_
          refine gx_ior C dX4_isSafe_77 ?_
          refine gx_istore_n (lv2 := [(3, .int ((bset i (fun t => blP K q t && mwP K q t)) ||| 0)), (0, .ref (eA E 49)), (1, .int (nI q)), (2, .int (bset (nn K) (blP K q))), (4, .int (nI i))]) C dX4_isSafe_78 (by rfl) (by decide) rfl ?_
          refine gx_iinc (v := nI (i + 1)) (lv2 := [(4, .int (nI (i + 1))), (3, .int ((bset i (fun t => blP K q t && mwP K q t)) ||| 0)), (0, .ref (eA E 49)), (1, .int (nI q)), (2, .int (bset (nn K) (blP K q)))]) C dX4_isSafe_79 (by rfl) (by exact nI_p1 _) (by decide) rfl ?_
          refine gx_goto (tgt := 11) C dX4_isSafe_82 (by decide) ?_
          refine gx_sub [2, 3, 4, 1, 0] (lv' := [(0, .ref (eA E 49)), (1, .int (nI q)), (2, .int (bset (nn K) (blP K q))), (3, .int ((bset i (fun t => blP K q t && mwP K q t)) ||| 0)), (4, .int (nI (i + 1)))]) rfl ?_
          refine gx_lv (lv' := [(0, .ref (eA E 49)), (1, .int (nI q)), (2, .int (bset (nn K) (blP K q))), (3, .int (bset (i + 1) (fun t => blP K q t && mwP K q t))), (4, .int (nI (i + 1)))]) (by rw [or0, bset_f (n := i) (P := fun t => blP K q t && mwP K q t) (by omega) (by simp only [mwP]; grind)]) ?_
          exact ih11 (i + 1) (by omega) (by omega)
        ·
          have h8 := b2_nz.mp h8
          refine gx_aload_n C dX4_isSafe_33 (by rfl) (by rfl) ?_
          refine gx_iload C dX4_isSafe_34 (by rfl) ?_
          refine gx_callVI (As := [.int (nI i)]) (rest := [.int (bset i (fun t => blP K q t && mwP K q t))]) C (c_X4_mayPlot E σ K hM hO i (by omega)) z_X4_mayPlot ck4 (by rfl) (by rfl) ml_X4_182 (by rfl) (Nat.le_of_ble_eq_true rfl) ⟨Nat.le_of_ble_eq_true rfl, Nat.le_of_ble_eq_true rfl⟩ dX4_isSafe_36 (fun r9 σ9 w9 => ?_)
          obtain ⟨u1, u2⟩ := w9; rw [u1, u2]; clear u1 u2
          refine gx_if_ne (tgt := 69) C dX4_isSafe_39 (by decide) (fun h10 => ?_) (fun h10 => ?_)
          ·
            have h10 := b2_nz.mp h10
            refine gx_iconst (v := 1) C dX4_isSafe_69 (by decide) ?_
            refine gx_iload C dX4_isSafe_70 (by rfl) ?_
            refine gx_ishl C dX4_isSafe_72 ?_
            refine gx_goto (tgt := 77) C dX4_isSafe_73 (by decide) ?_
            refine gx_ior C dX4_isSafe_77 ?_
            refine gx_istore_n (lv2 := [(3, .int ((bset i (fun t => blP K q t && mwP K q t)) ||| (1 <<< ((nI i) &&& 31)))), (0, .ref (eA E 49)), (1, .int (nI q)), (2, .int (bset (nn K) (blP K q))), (4, .int (nI i))]) C dX4_isSafe_78 (by rfl) (by decide) rfl ?_
            refine gx_iinc (v := nI (i + 1)) (lv2 := [(4, .int (nI (i + 1))), (3, .int ((bset i (fun t => blP K q t && mwP K q t)) ||| (1 <<< ((nI i) &&& 31)))), (0, .ref (eA E 49)), (1, .int (nI q)), (2, .int (bset (nn K) (blP K q)))]) C dX4_isSafe_79 (by rfl) (by exact nI_p1 _) (by decide) rfl ?_
            refine gx_goto (tgt := 11) C dX4_isSafe_82 (by decide) ?_
            refine gx_sub [2, 3, 4, 1, 0] (lv' := [(0, .ref (eA E 49)), (1, .int (nI q)), (2, .int (bset (nn K) (blP K q))), (3, .int ((bset i (fun t => blP K q t && mwP K q t)) ||| (1 <<< ((nI i) &&& 31)))), (4, .int (nI (i + 1)))]) rfl ?_
            refine gx_lv (lv' := [(0, .ref (eA E 49)), (1, .int (nI q)), (2, .int (bset (nn K) (blP K q))), (3, .int (bset (i + 1) (fun t => blP K q t && mwP K q t))), (4, .int (nI (i + 1)))]) (by rw [bset_t (n := i) (P := fun t => blP K q t && mwP K q t) (by omega) (by simp only [mwP]; grind)]) ?_
            exact ih11 (i + 1) (by omega) (by omega)
          ·
            have h10 := b2_z.mp h10
            refine gx_aload_n C dX4_isSafe_42 (by rfl) (by rfl) ?_
            refine gx_iload C dX4_isSafe_43 (by rfl) ?_
            refine gx_iconst (v := 0) C dX4_isSafe_45 (by decide) ?_
            refine gx_callVI (As := [.int (nI i), .int 0]) (rest := [.int (bset i (fun t => blP K q t && mwP K q t))]) C (c_X4_is E σ i (by omega) 0 (by omega)) z_X4_is ck4 (by rfl) (by rfl) ml_X4_51 (by rfl) (Nat.le_of_ble_eq_true rfl) ⟨Nat.le_of_ble_eq_true rfl, Nat.le_of_ble_eq_true rfl⟩ dX4_isSafe_46 (fun r11 σ11 w11 => ?_)
            obtain ⟨u1, u2⟩ := w11; rw [u1, u2]; clear u1 u2
            refine gx_st (st' := [.int (K 1 i), .int (bset i (fun t => blP K q t && mwP K q t))]) (by rw [mp_1 hM (p := i) (by omega)]) ?_
            refine gx_iconst (v := 4) C dX4_isSafe_49 (by decide) ?_
            refine gx_icmp_ne (tgt := 76) C dX4_isSafe_50 (by decide) (fun h14 => ?_) (fun h14 => ?_)
            ·
              refine gx_iconst (v := 0) C dX4_isSafe_76 (by decide) ?_
              refine gx_ior C dX4_isSafe_77 ?_
              refine gx_istore_n (lv2 := [(3, .int ((bset i (fun t => blP K q t && mwP K q t)) ||| 0)), (0, .ref (eA E 49)), (1, .int (nI q)), (2, .int (bset (nn K) (blP K q))), (4, .int (nI i))]) C dX4_isSafe_78 (by rfl) (by decide) rfl ?_
              refine gx_iinc (v := nI (i + 1)) (lv2 := [(4, .int (nI (i + 1))), (3, .int ((bset i (fun t => blP K q t && mwP K q t)) ||| 0)), (0, .ref (eA E 49)), (1, .int (nI q)), (2, .int (bset (nn K) (blP K q)))]) C dX4_isSafe_79 (by rfl) (by exact nI_p1 _) (by decide) rfl ?_
              refine gx_goto (tgt := 11) C dX4_isSafe_82 (by decide) ?_
              refine gx_sub [2, 3, 4, 1, 0] (lv' := [(0, .ref (eA E 49)), (1, .int (nI q)), (2, .int (bset (nn K) (blP K q))), (3, .int ((bset i (fun t => blP K q t && mwP K q t)) ||| 0)), (4, .int (nI (i + 1)))]) rfl ?_
              refine gx_lv (lv' := [(0, .ref (eA E 49)), (1, .int (nI q)), (2, .int (bset (nn K) (blP K q))), (3, .int (bset (i + 1) (fun t => blP K q t && mwP K q t))), (4, .int (nI (i + 1)))]) (by rw [or0, bset_f (n := i) (P := fun t => blP K q t && mwP K q t) (by omega) (by simp only [mwP]; grind)]) ?_
              exact ih11 (i + 1) (by omega) (by omega)
            ·
              refine gx_aload_n C dX4_isSafe_53 (by rfl) (by rfl) ?_
              refine gx_iload C dX4_isSafe_54 (by rfl) ?_
              refine gx_iconst (v := 3) C dX4_isSafe_56 (by decide) ?_
              refine gx_callVI (As := [.int (nI i), .int 3]) (rest := [.int (bset i (fun t => blP K q t && mwP K q t))]) C (c_X4_is E σ i (by omega) 3 (by omega)) z_X4_is ck4 (by rfl) (by rfl) ml_X4_51 (by rfl) (Nat.le_of_ble_eq_true rfl) ⟨Nat.le_of_ble_eq_true rfl, Nat.le_of_ble_eq_true rfl⟩ dX4_isSafe_57 (fun r15 σ15 w15 => ?_)
              obtain ⟨u1, u2⟩ := w15; rw [u1, u2]; clear u1 u2
              refine gx_st (st' := [.int (K 4 i), .int (bset i (fun t => blP K q t && mwP K q t))]) (by rw [mp_4 hM (p := i) (by omega)]) ?_
              refine gx_aload_n C dX4_isSafe_60 (by rfl) (by rfl) ?_
              refine gx_iload_n C dX4_isSafe_61 (by rfl) (by rfl) ?_
              refine gx_iconst (v := 3) C dX4_isSafe_62 (by decide) ?_
              refine gx_callVI (As := [.int (nI q), .int 3]) (rest := [.int (K 4 i), .int (bset i (fun t => blP K q t && mwP K q t))]) C (c_X4_is E σ q (by omega) 3 (by omega)) z_X4_is ck4 (by rfl) (by rfl) ml_X4_51 (by rfl) (Nat.le_of_ble_eq_true rfl) ⟨Nat.le_of_ble_eq_true rfl, Nat.le_of_ble_eq_true rfl⟩ dX4_isSafe_63 (fun r16 σ16 w16 => ?_)
              obtain ⟨u1, u2⟩ := w16; rw [u1, u2]; clear u1 u2
              refine gx_st (st' := [.int (K 4 q), .int (K 4 i), .int (bset i (fun t => blP K q t && mwP K q t))]) (by rw [mp_4 hM (p := q) (by omega)]) ?_
              refine gx_icmp_eq (tgt := 76) C dX4_isSafe_66 (by decide) (fun h17 => ?_) (fun h17 => ?_)
              ·
                refine gx_iconst (v := 0) C dX4_isSafe_76 (by decide) ?_
                refine gx_ior C dX4_isSafe_77 ?_
                refine gx_istore_n (lv2 := [(3, .int ((bset i (fun t => blP K q t && mwP K q t)) ||| 0)), (0, .ref (eA E 49)), (1, .int (nI q)), (2, .int (bset (nn K) (blP K q))), (4, .int (nI i))]) C dX4_isSafe_78 (by rfl) (by decide) rfl ?_
                refine gx_iinc (v := nI (i + 1)) (lv2 := [(4, .int (nI (i + 1))), (3, .int ((bset i (fun t => blP K q t && mwP K q t)) ||| 0)), (0, .ref (eA E 49)), (1, .int (nI q)), (2, .int (bset (nn K) (blP K q)))]) C dX4_isSafe_79 (by rfl) (by exact nI_p1 _) (by decide) rfl ?_
                refine gx_goto (tgt := 11) C dX4_isSafe_82 (by decide) ?_
                refine gx_sub [2, 3, 4, 1, 0] (lv' := [(0, .ref (eA E 49)), (1, .int (nI q)), (2, .int (bset (nn K) (blP K q))), (3, .int ((bset i (fun t => blP K q t && mwP K q t)) ||| 0)), (4, .int (nI (i + 1)))]) rfl ?_
                refine gx_lv (lv' := [(0, .ref (eA E 49)), (1, .int (nI q)), (2, .int (bset (nn K) (blP K q))), (3, .int (bset (i + 1) (fun t => blP K q t && mwP K q t))), (4, .int (nI (i + 1)))]) (by rw [or0, bset_f (n := i) (P := fun t => blP K q t && mwP K q t) (by omega) (by simp only [mwP]; grind)]) ?_
                exact ih11 (i + 1) (by omega) (by omega)
              ·
                refine gx_iconst (v := 1) C dX4_isSafe_69 (by decide) ?_
                refine gx_iload C dX4_isSafe_70 (by rfl) ?_
                refine gx_ishl C dX4_isSafe_72 ?_
                refine gx_goto (tgt := 77) C dX4_isSafe_73 (by decide) ?_
                refine gx_ior C dX4_isSafe_77 ?_
                refine gx_istore_n (lv2 := [(3, .int ((bset i (fun t => blP K q t && mwP K q t)) ||| (1 <<< ((nI i) &&& 31)))), (0, .ref (eA E 49)), (1, .int (nI q)), (2, .int (bset (nn K) (blP K q))), (4, .int (nI i))]) C dX4_isSafe_78 (by rfl) (by decide) rfl ?_
                refine gx_iinc (v := nI (i + 1)) (lv2 := [(4, .int (nI (i + 1))), (3, .int ((bset i (fun t => blP K q t && mwP K q t)) ||| (1 <<< ((nI i) &&& 31)))), (0, .ref (eA E 49)), (1, .int (nI q)), (2, .int (bset (nn K) (blP K q)))]) C dX4_isSafe_79 (by rfl) (by exact nI_p1 _) (by decide) rfl ?_
                refine gx_goto (tgt := 11) C dX4_isSafe_82 (by decide) ?_
                refine gx_sub [2, 3, 4, 1, 0] (lv' := [(0, .ref (eA E 49)), (1, .int (nI q)), (2, .int (bset (nn K) (blP K q))), (3, .int ((bset i (fun t => blP K q t && mwP K q t)) ||| (1 <<< ((nI i) &&& 31)))), (4, .int (nI (i + 1)))]) rfl ?_
                refine gx_lv (lv' := [(0, .ref (eA E 49)), (1, .int (nI q)), (2, .int (bset (nn K) (blP K q))), (3, .int (bset (i + 1) (fun t => blP K q t && mwP K q t))), (4, .int (nI (i + 1)))]) (by rw [bset_t (n := i) (P := fun t => blP K q t && mwP K q t) (by omega) (by simp only [mwP]; grind)]) ?_
                exact ih11 (i + 1) (by omega) (by omega)
  refine gx_sub [3, 4, 2, 1, 0] (lv' := [(0, .ref (eA E 49)), (1, .int (nI q)), (2, .int (bset (nn K) (blP K q))), (3, .int 0), (4, .int 0)]) rfl ?_
  refine gx_lv (lv' := [(0, .ref (eA E 49)), (1, .int (nI q)), (2, .int (bset (nn K) (blP K q))), (3, .int (bset 0 (fun t => blP K q t && mwP K q t))), (4, .int (nI 0))]) (by rfl) ?_
  exact loop11 (nn K + 1) 0 (by omega) (by omega)
set_option maxHeartbeats 4000000 in
set_option maxRecDepth 100000 in
theorem c_X4_draw (E : En) (σ : Mm) (K : Mm) (hM : vM σ 50 = K) (hO : Ok K) : CtI E yX4_draw cX4_draw 1 (some .int) 0 0 [.ref (eA E 49)] σ (fun rr σ2 => rr = ush (drZ (K 0 3)) 8 ∧ vM σ2 50 = up2 K 0 3 (drZ (K 0 3)) ∧ F1 50 σ σ2) := by
  obtain ⟨⟨hn, h12⟩, hpp, hlw, hsp, hz0⟩ := id hO
  refine CtI.of (by decide +kernel) (Nat.le_of_ble_eq_true rfl) (fun p e0 s m below meth c C hr hlk => ?_)
  refine gx_lv (lv' := [(0, .ref (eA E 49))]) rfl ?_
  refine gx_aload_n C dX4_draw_0 (by rfl) (by rfl) ?_
  refine gx_getr (j := 50) (k := 0) C ck4 (by rfl) (by rfl) (by decide) fl_X4_9 dX4_draw_1 ?_
  refine gx_iconst (v := 5) C dX4_draw_4 (by decide) ?_
  refine gx_aload_n C dX4_draw_5 (by rfl) (by rfl) ?_
  refine gx_getr (j := 50) (k := 0) C ck4 (by rfl) (by rfl) (by decide) fl_X4_9 dX4_draw_6 ?_
  refine gx_iconst (v := 5) C dX4_draw_9 (by decide) ?_
  refine gx_ialdN (k := 5) C (by rfl) (by rfl) (by decide) (by decide) dX4_draw_10 ?_
  refine gx_st (st' := [.int (K 0 3), .int 5, .ref (eA E 50)]) (by rw [mp_z hM]) ?_
  refine gx_ldc C kc_X4_191 dX4_draw_11 ?_
  refine gx_imul C dX4_draw_13 ?_
  refine gx_sipush (v := 12345) C dX4_draw_14 (by decide) ?_
  refine gx_iadd C dX4_draw_17 ?_
  refine gx_iastN (k := 5) C (by rfl) (by rfl) (by decide) (by decide) dX4_draw_18 ?_
  have hM1 : vM (up2 σ 50 5 (((K 0 3) * 1103515245) + 12345)) 50 = up2 K 0 3 (((K 0 3) * 1103515245) + 12345) := by rw [vM_up (j := 0) (p := 3) (by omega) (by decide) (by rfl), hM]
  refine gx_aload_n C dX4_draw_19 (by rfl) (by rfl) ?_
  refine gx_getr (j := 50) (k := 0) C ck4 (by rfl) (by rfl) (by decide) fl_X4_9 dX4_draw_20 ?_
  refine gx_iconst (v := 5) C dX4_draw_23 (by decide) ?_
  refine gx_ialdN (k := 5) C (by rfl) (by rfl) (by decide) (by decide) dX4_draw_24 ?_
  refine gx_st (st' := [.int ((up2 K 0 3 (((K 0 3) * 1103515245) + 12345)) 0 3)]) (by rw [mp_z hM1]) ?_
  refine gx_bipush (v := 8) C dX4_draw_25 (by decide) ?_
  refine gx_iushr C rfl dX4_draw_27 ?_
  exact gx_iret C hr hlk rfl ⟨by rw [up2_up, if_pos ⟨rfl, rfl⟩]; rfl, hM1, F1.rf.up⟩ dX4_draw_28
theorem m1_of {x : Int32} (h : -1 ≤ x) (h0 : x < 0) : x = -1 := Decidable.byContradiction (fun q => ge0 h q h0)
theorem grg_f {K : Mm} {i : Nat} (h : K 6 i = -1) : nI (cnt (fun q => !decide (K 6 q = -1)) i) + 0 = nI (cnt (fun q => !decide (K 6 q = -1)) (i + 1)) := by
  rw [add0, cnt]; simp [h]
theorem grg_t {K : Mm} {i : Nat} (h : ¬ K 6 i = -1) : nI (cnt (fun q => !decide (K 6 q = -1)) i) + 1 = nI (cnt (fun q => !decide (K 6 q = -1)) (i + 1)) := by
  rw [cnt, nI_1]; simp [h]
set_option maxHeartbeats 4000000 in
set_option maxRecDepth 100000 in
theorem c_X4_grudging (E : En) (σ : Mm) (K : Mm) (hM : vM σ 50 = K) (hO : Ok K) : CtI E yX4_grudging cX4_grudging 3 (some .int) 1 22 [.ref (eA E 49)] σ (fun rr σ2 => σ2 = σ ∧ rr = nI (cnt (fun q => !decide (K 6 q = -1)) (nn K))) := by
  obtain ⟨⟨hn, h12⟩, hpp, hlw, hsp, hz0⟩ := id hO
  refine CtI.of (by decide +kernel) (Nat.le_of_ble_eq_true rfl) (fun p e0 s m below meth c C hr hlk => ?_)
  refine gx_lv (lv' := [(0, .ref (eA E 49))]) rfl ?_
  refine gx_iconst (v := 0) C dX4_grudging_0 (by decide) ?_
  refine gx_istore_n (lv2 := [(1, .int 0), (0, .ref (eA E 49))]) C dX4_grudging_1 (by rfl) (by decide) rfl ?_
  refine gx_iconst (v := 0) C dX4_grudging_2 (by decide) ?_
  refine gx_istore_n (lv2 := [(2, .int 0), (1, .int 0), (0, .ref (eA E 49))]) C dX4_grudging_3 (by rfl) (by decide) rfl ?_
  have loop4 : ∀ (kf i : Nat), i ≤ nn K → nn K < i + kf → Gx E p e0 (rmF 1 22) s m ([.ref (eA E 49)] : List Value).toArray below meth c (MQ below (va_Qi (fun rr σ2 => σ2 = σ ∧ rr = nI (cnt (fun q => !decide (K 6 q = -1)) (nn K))) (WQ E) (AA E s.heap.size)) ([.ref (eA E 49)] : List Value).toArray s 0 0 (AA E s.heap.size)) 3 4 [(0, .ref (eA E 49)), (1, .int (nI (cnt (fun q => !decide (K 6 q = -1)) i))), (2, .int (nI i))] [] σ := by
    intro kf
    induction kf with
    | zero => intro i q1 q2; exact absurd q2 (by omega)
    | succ kf ih4 =>
      intro i a4 b4
      refine gx_iload_n C dX4_grudging_4 (by rfl) (by rfl) ?_
      refine gx_aload_n C dX4_grudging_5 (by rfl) (by rfl) ?_
      refine gx_getr (j := 50) (k := 0) C ck4 (by rfl) (by rfl) (by decide) fl_X4_9 dX4_grudging_6 ?_
      refine gx_bipush (v := 6) C dX4_grudging_9 (by decide) ?_
      refine gx_ialdN (k := 6) C (by rfl) (by rfl) (by decide) (by decide) dX4_grudging_11 ?_
      refine gx_st (st' := [.int (nI (nn K)), .int (nI i)]) (by rw [mp_n hM, hn]) ?_
      refine gx_icmp_ge (tgt := 38) C dX4_grudging_12 (by decide) (fun h1 => ?_) (fun h1 => ?_)
      ·
        have h1 := (nI_leI (a := (nn K)) (b := i) (by omega) (by omega)).mp h1
        refine gx_iload_n C dX4_grudging_38 (by rfl) (by rfl) ?_
        exact gx_iret C hr hlk rfl ⟨rfl, by rw [show i = nn K by omega]⟩ dX4_grudging_39
      ·
        have h1 := (not_congr (nI_leI (a := (nn K)) (b := i) (by omega) (by omega))).mp h1
        refine gx_iload_n C dX4_grudging_15 (by rfl) (by rfl) ?_
        refine gx_aload_n C dX4_grudging_16 (by rfl) (by rfl) ?_
        refine gx_iload_n C dX4_grudging_17 (by rfl) (by rfl) ?_
        refine gx_iconst (v := 5) C dX4_grudging_18 (by decide) ?_
        refine gx_callVI (As := [.int (nI i), .int 5]) (rest := [.int (nI (cnt (fun q => !decide (K 6 q = -1)) i))]) C (c_X4_is E σ i (by omega) 5 (by omega)) z_X4_is ck4 (by rfl) (by rfl) ml_X4_51 (by rfl) (Nat.le_of_ble_eq_true rfl) ⟨Nat.le_of_ble_eq_true rfl, Nat.le_of_ble_eq_true rfl⟩ dX4_grudging_19 (fun r2 σ2 w2 => ?_)
        obtain ⟨u1, u2⟩ := w2; rw [u1, u2]; clear u1 u2
        refine gx_st (st' := [.int (K 6 i), .int (nI (cnt (fun q => !decide (K 6 q = -1)) i))]) (by rw [mp_6 hM (p := i) (by omega)]) ?_
        refine gx_if_ge (tgt := 29) C dX4_grudging_22 (by decide) (fun h3 => ?_) (fun h3 => ?_)
        ·
          refine gx_iconst (v := 1) C dX4_grudging_29 (by decide) ?_
          refine gx_iadd C dX4_grudging_30 ?_
          refine gx_istore_n (lv2 := [(1, .int ((nI (cnt (fun q => !decide (K 6 q = -1)) i)) + 1)), (0, .ref (eA E 49)), (2, .int (nI i))]) C dX4_grudging_31 (by rfl) (by decide) rfl ?_
          refine gx_iinc (v := nI (i + 1)) (lv2 := [(2, .int (nI (i + 1))), (1, .int ((nI (cnt (fun q => !decide (K 6 q = -1)) i)) + 1)), (0, .ref (eA E 49))]) C dX4_grudging_32 (by rfl) (by exact nI_p1 _) (by decide) rfl ?_
          refine gx_goto (tgt := 4) C dX4_grudging_35 (by decide) ?_
          refine gx_sub [2, 1, 0] (lv' := [(0, .ref (eA E 49)), (1, .int ((nI (cnt (fun q => !decide (K 6 q = -1)) i)) + 1)), (2, .int (nI (i + 1)))]) rfl ?_
          refine gx_lv (lv' := [(0, .ref (eA E 49)), (1, .int (nI (cnt (fun q => !decide (K 6 q = -1)) (i + 1)))), (2, .int (nI (i + 1)))]) (by rw [grg_t (fun q9 => absurd (by rw [q9]; decide : K 6 i < 0) (by first | assumption | exact Int32.not_lt.mpr (by assumption)))]) ?_
          exact ih4 (i + 1) (by omega) (by omega)
        ·
          refine gx_iconst (v := 0) C dX4_grudging_25 (by decide) ?_
          refine gx_goto (tgt := 30) C dX4_grudging_26 (by decide) ?_
          refine gx_iadd C dX4_grudging_30 ?_
          refine gx_istore_n (lv2 := [(1, .int ((nI (cnt (fun q => !decide (K 6 q = -1)) i)) + 0)), (0, .ref (eA E 49)), (2, .int (nI i))]) C dX4_grudging_31 (by rfl) (by decide) rfl ?_
          refine gx_iinc (v := nI (i + 1)) (lv2 := [(2, .int (nI (i + 1))), (1, .int ((nI (cnt (fun q => !decide (K 6 q = -1)) i)) + 0)), (0, .ref (eA E 49))]) C dX4_grudging_32 (by rfl) (by exact nI_p1 _) (by decide) rfl ?_
          refine gx_goto (tgt := 4) C dX4_grudging_35 (by decide) ?_
          refine gx_sub [2, 1, 0] (lv' := [(0, .ref (eA E 49)), (1, .int ((nI (cnt (fun q => !decide (K 6 q = -1)) i)) + 0)), (2, .int (nI (i + 1)))]) rfl ?_
          refine gx_lv (lv' := [(0, .ref (eA E 49)), (1, .int (nI (cnt (fun q => !decide (K 6 q = -1)) (i + 1)))), (2, .int (nI (i + 1)))]) (by rw [grg_f (m1_of (hpp i (by omega)).2.2.2.2.1 (by first | assumption | exact Int32.not_le.mp (by assumption)))]) ?_
          exact ih4 (i + 1) (by omega) (by omega)
  refine gx_sub [2, 1, 0] (lv' := [(0, .ref (eA E 49)), (1, .int 0), (2, .int 0)]) rfl ?_
  refine gx_lv (lv' := [(0, .ref (eA E 49)), (1, .int (nI (cnt (fun q => !decide (K 6 q = -1)) 0))), (2, .int (nI 0))]) (by rfl) ?_
  exact loop4 (nn K + 1) 0 (by omega) (by omega)
set_option maxHeartbeats 4000000 in
set_option maxRecDepth 100000 in
theorem c_X4_orNone (E : En) (σ : Mm) (v : Int32) : CtI E yX4_orNone cX4_orNone 2 (some .int) 1 21 [.ref (eA E 49), .int v] σ (fun rr σ2 => (v < 0 → σ2 = up2 σ 54 3 (σ 54 3 + 1) ∧ rr = -1000004) ∧ (¬ v < 0 → σ2 = σ ∧ rr = v)) := by
  refine CtI.of (by decide +kernel) (Nat.le_of_ble_eq_true rfl) (fun p e0 s m below meth c C hr hlk => ?_)
  refine gx_lv (lv' := [(0, .ref (eA E 49)), (1, .int v)]) rfl ?_
  refine gx_iload_n C dX4_orNone_0 (by rfl) (by rfl) ?_
  refine gx_if_ge (tgt := 13) C dX4_orNone_1 (by decide) (fun h1 => ?_) (fun h1 => ?_)
  ·
    refine gx_iload_n C dX4_orNone_13 (by rfl) (by rfl) ?_
    exact gx_iret C hr hlk rfl ⟨fun q => by first | exact ⟨rfl, rfl⟩ | exact absurd q (by first | assumption | exact Int32.not_lt.mpr (by assumption)), fun q => by first | exact ⟨rfl, rfl⟩ | exact absurd (by first | assumption | exact Int32.not_le.mp (by assumption)) q⟩ dX4_orNone_14
  ·
    refine gx_aload_n C dX4_orNone_4 (by rfl) (by rfl) ?_
    refine gx_ldc C kc_X4_38 dX4_orNone_5 ?_
    refine gx_callVI (As := [.int (-1000004)]) (rest := []) C (c_X4_finds E σ (-1000004) 3 (by decide) (by decide)) z_X4_finds ck4 (by rfl) (by rfl) ml_X4_39 (by rfl) (Nat.le_of_ble_eq_true rfl) ⟨Nat.le_of_ble_eq_true rfl, Nat.le_of_ble_eq_true rfl⟩ dX4_orNone_7 (fun r2 σ2 w2 => ?_)
    obtain ⟨u1, u2⟩ := w2; rw [u1, u2]; clear u1 u2
    refine gx_goto (tgt := 14) C dX4_orNone_10 (by decide) ?_
    exact gx_iret C hr hlk rfl ⟨fun q => by first | exact ⟨rfl, rfl⟩ | exact absurd q (by first | assumption | exact Int32.not_lt.mpr (by assumption)), fun q => by first | exact ⟨rfl, rfl⟩ | exact absurd (by first | assumption | exact Int32.not_le.mp (by assumption)) q⟩ dX4_orNone_14
set_option maxHeartbeats 4000000 in
set_option maxRecDepth 100000 in
theorem c_X4_above_0 (E : En) (σ : Mm) : CtI E yX4_above cX4_above 1 (some .int) 0 0 [.int 0] σ (fun rr σ2 => σ2 = σ ∧ rr = (-1)) := by
  refine CtI.of (by decide +kernel) (Nat.le_of_ble_eq_true rfl) (fun p e0 s m below meth c C hr hlk => ?_)
  refine gx_lv (lv' := [(0, .int 0)]) rfl ?_
  refine gx_iload_n C dX4_above_0 (by rfl) (by rfl) ?_
  refine gx_tabIn (off := 43) (tgt := 44) C dX4_above_1 (by decide) (by decide) (by decide) (by decide) ?_
  refine gx_iconst (v := (-1)) C dX4_above_44 (by decide) ?_
  exact gx_iret C hr hlk rfl ⟨rfl, rfl⟩ dX4_above_45
set_option maxHeartbeats 4000000 in
set_option maxRecDepth 100000 in
theorem c_X4_above_1 (E : En) (σ : Mm) : CtI E yX4_above cX4_above 1 (some .int) 0 0 [.int 1] σ (fun rr σ2 => σ2 = σ ∧ rr = 0) := by
  refine CtI.of (by decide +kernel) (Nat.le_of_ble_eq_true rfl) (fun p e0 s m below meth c C hr hlk => ?_)
  refine gx_lv (lv' := [(0, .int 1)]) rfl ?_
  refine gx_iload_n C dX4_above_0 (by rfl) (by rfl) ?_
  refine gx_tabIn (off := 49) (tgt := 50) C dX4_above_1 (by decide) (by decide) (by decide) (by decide) ?_
  refine gx_iconst (v := 0) C dX4_above_50 (by decide) ?_
  exact gx_iret C hr hlk rfl ⟨rfl, rfl⟩ dX4_above_51
set_option maxHeartbeats 4000000 in
set_option maxRecDepth 100000 in
theorem c_X4_above_2 (E : En) (σ : Mm) : CtI E yX4_above cX4_above 1 (some .int) 0 0 [.int 2] σ (fun rr σ2 => σ2 = σ ∧ rr = 0) := by
  refine CtI.of (by decide +kernel) (Nat.le_of_ble_eq_true rfl) (fun p e0 s m below meth c C hr hlk => ?_)
  refine gx_lv (lv' := [(0, .int 2)]) rfl ?_
  refine gx_iload_n C dX4_above_0 (by rfl) (by rfl) ?_
  refine gx_tabIn (off := 49) (tgt := 50) C dX4_above_1 (by decide) (by decide) (by decide) (by decide) ?_
  refine gx_iconst (v := 0) C dX4_above_50 (by decide) ?_
  exact gx_iret C hr hlk rfl ⟨rfl, rfl⟩ dX4_above_51
set_option maxHeartbeats 4000000 in
set_option maxRecDepth 100000 in
theorem c_X4_above_3 (E : En) (σ : Mm) : CtI E yX4_above cX4_above 1 (some .int) 0 0 [.int 3] σ (fun rr σ2 => σ2 = σ ∧ rr = 2) := by
  refine CtI.of (by decide +kernel) (Nat.le_of_ble_eq_true rfl) (fun p e0 s m below meth c C hr hlk => ?_)
  refine gx_lv (lv' := [(0, .int 3)]) rfl ?_
  refine gx_iload_n C dX4_above_0 (by rfl) (by rfl) ?_
  refine gx_tabIn (off := 45) (tgt := 46) C dX4_above_1 (by decide) (by decide) (by decide) (by decide) ?_
  refine gx_iconst (v := 2) C dX4_above_46 (by decide) ?_
  exact gx_iret C hr hlk rfl ⟨rfl, rfl⟩ dX4_above_47
set_option maxHeartbeats 4000000 in
set_option maxRecDepth 100000 in
theorem c_X4_above_4 (E : En) (σ : Mm) : CtI E yX4_above cX4_above 1 (some .int) 0 0 [.int 4] σ (fun rr σ2 => σ2 = σ ∧ rr = 1) := by
  refine CtI.of (by decide +kernel) (Nat.le_of_ble_eq_true rfl) (fun p e0 s m below meth c C hr hlk => ?_)
  refine gx_lv (lv' := [(0, .int 4)]) rfl ?_
  refine gx_iload_n C dX4_above_0 (by rfl) (by rfl) ?_
  refine gx_tabIn (off := 47) (tgt := 48) C dX4_above_1 (by decide) (by decide) (by decide) (by decide) ?_
  refine gx_iconst (v := 1) C dX4_above_48 (by decide) ?_
  exact gx_iret C hr hlk rfl ⟨rfl, rfl⟩ dX4_above_49
set_option maxHeartbeats 4000000 in
set_option maxRecDepth 100000 in
theorem c_X4_above_5 (E : En) (σ : Mm) : CtI E yX4_above cX4_above 1 (some .int) 0 0 [.int 5] σ (fun rr σ2 => σ2 = σ ∧ rr = 0) := by
  refine CtI.of (by decide +kernel) (Nat.le_of_ble_eq_true rfl) (fun p e0 s m below meth c C hr hlk => ?_)
  refine gx_lv (lv' := [(0, .int 5)]) rfl ?_
  refine gx_iload_n C dX4_above_0 (by rfl) (by rfl) ?_
  refine gx_tabIn (off := 49) (tgt := 50) C dX4_above_1 (by decide) (by decide) (by decide) (by decide) ?_
  refine gx_iconst (v := 0) C dX4_above_50 (by decide) ?_
  exact gx_iret C hr hlk rfl ⟨rfl, rfl⟩ dX4_above_51
set_option maxHeartbeats 4000000 in
set_option maxRecDepth 100000 in
theorem c_X4_above_6 (E : En) (σ : Mm) : CtI E yX4_above cX4_above 1 (some .int) 0 0 [.int 6] σ (fun rr σ2 => σ2 = σ ∧ rr = 1) := by
  refine CtI.of (by decide +kernel) (Nat.le_of_ble_eq_true rfl) (fun p e0 s m below meth c C hr hlk => ?_)
  refine gx_lv (lv' := [(0, .int 6)]) rfl ?_
  refine gx_iload_n C dX4_above_0 (by rfl) (by rfl) ?_
  refine gx_tabIn (off := 47) (tgt := 48) C dX4_above_1 (by decide) (by decide) (by decide) (by decide) ?_
  refine gx_iconst (v := 1) C dX4_above_48 (by decide) ?_
  exact gx_iret C hr hlk rfl ⟨rfl, rfl⟩ dX4_above_49
