set_option maxHeartbeats 4000000 in
set_option maxRecDepth 100000 in
theorem c_X2_tellItem (E : En) (σ : Mm) (B : Nat → Int32) (t : Nat) (hT : Tp σ B t) (i : Nat) (hi : i ≤ t) (K : Mm) (hE : Emp σ 37 K) (hO : Ok K) : CtI E yX2_tellItem cX2_tellItem 4 (some .boolean) 7 154 [.ref (eA E 3), .ref (eA E 37)] (tk σ B t i) (fun rr σ2 => TR B t σ (itR B t K i) rr σ2) := by
  have ht := hT.2.1
  have h12 := hO.1.2
  refine CtI.of (by decide +kernel) (Nat.le_of_ble_eq_true rfl) (fun p e0 s m below meth c C hr hlk => ?_)
  refine gx_lv (lv' := [(0, .ref (eA E 3)), (1, .ref (eA E 37))]) rfl ?_
  refine gx_aload_n C dX2_tellItem_0 (by rfl) (by rfl) ?_
  refine gx_ldcS 0 C rfl dX2_tellItem_1 ?_
  refine gx_callVI (As := [.ref (eZ E (100 + 0))]) (rest := []) C (c_X2_isWord E σ B t hT i hi 0 (by omega)) z_X2_isWord ck2 (by rfl) (by rfl) ml_X2_34 (by rfl) (Nat.le_of_ble_eq_true rfl) ⟨Nat.le_of_ble_eq_true rfl, Nat.le_of_ble_eq_true rfl⟩ dX2_tellItem_3 (fun r1 σ1 w1 => ?_)
  obtain ⟨u1, u2⟩ := w1; rw [u1, u2]; clear u1 u2
  refine gx_if_eq (tgt := 15) C dX2_tellItem_6 (by decide) (fun h2 => ?_) (fun h2 => ?_)
  ·
    have h2 := b2_z.mp h2
    have hnr := h2
    refine gx_aload_n C dX2_tellItem_15 (by rfl) (by rfl) ?_
    refine gx_callVI (As := []) (rest := []) C (c_X2_lawTold E σ B t hT i hi) z_X2_lawTold ck2 (by rfl) (by rfl) ml_X2_41 (by rfl) (Nat.le_of_ble_eq_true rfl) ⟨Nat.le_of_ble_eq_true rfl, Nat.le_of_ble_eq_true rfl⟩ dX2_tellItem_16 (fun r3 σ3 w3 => ?_)
    obtain ⟨u1, u2⟩ := w3; rw [u1, u2]; clear u1 u2
    refine gx_istore_n (lv2 := [(2, .int (lwH B t i)), (0, .ref (eA E 3)), (1, .ref (eA E 37))]) C dX2_tellItem_19 (by rfl) (by decide) rfl ?_
    refine gx_iload_n C dX2_tellItem_20 (by rfl) (by rfl) ?_
    refine gx_iconst (v := 0) C dX2_tellItem_21 (by decide) ?_
    refine gx_iconst (v := 2) C dX2_tellItem_22 (by decide) ?_
    refine gx_callNI (As := [.int (lwH B t i), .int 0, .int 2]) (rest := []) C (c_X3_isWithin E (tk σ B t i) (lwH B t i) 0 2) z_X3_isWithin (by rfl) (C.2.2.2.2.2.2.2.2.2.2.2.2.2.2.2.2.1) (by rfl) (Nat.le_of_ble_eq_true rfl) ⟨Nat.le_of_ble_eq_true rfl, Nat.le_of_ble_eq_true rfl⟩ dX2_tellItem_23 (fun r4 σ4 w4 => ?_)
    obtain ⟨u1, u2⟩ := w4; rw [u1, u2]; clear u1 u2
    refine gx_if_eq (tgt := 49) C dX2_tellItem_26 (by decide) (fun h5 => ?_) (fun h5 => ?_)
    ·
      have h5 := b2_z.mp h5
      have hlw : ¬ 0 ≤ lwH B t i := fun q9 => h5 ⟨q9, by rcases lwH_or B t i with e | e | e | e <;> rw [e] <;> decide⟩
      refine gx_aload_n C dX2_tellItem_49 (by rfl) (by rfl) ?_
      refine gx_callVI (As := []) (rest := []) C (c_X2_kindTold E σ B t hT i hi) z_X2_kindTold ck2 (by rfl) (by rfl) ml_X2_64 (by rfl) (Nat.le_of_ble_eq_true rfl) ⟨Nat.le_of_ble_eq_true rfl, Nat.le_of_ble_eq_true rfl⟩ dX2_tellItem_50 (fun r6 σ6 w6 => ?_)
      obtain ⟨u1, u2⟩ := w6; rw [u1, u2]; clear u1 u2
      refine gx_istore_n (lv2 := [(3, .int (kdH B t i)), (2, .int (lwH B t i)), (0, .ref (eA E 3)), (1, .ref (eA E 37))]) C dX2_tellItem_53 (by rfl) (by decide) rfl ?_
      refine gx_iload_n C dX2_tellItem_54 (by rfl) (by rfl) ?_
      refine gx_callNI (As := [.int (kdH B t i)]) (rest := []) C (c_X3_isKind E (tk σ B t i) (kdH B t i)) z_X3_isKind (by rfl) (C.2.2.2.2.2.2.2.2.2.2.2.2.2.2.2.2.2.1) (by rfl) (Nat.le_of_ble_eq_true rfl) ⟨Nat.le_of_ble_eq_true rfl, Nat.le_of_ble_eq_true rfl⟩ dX2_tellItem_55 (fun r7 σ7 w7 => ?_)
      obtain ⟨u1, u2⟩ := w7; rw [u1, u2]; clear u1 u2
      refine gx_if_eq (tgt := 83) C dX2_tellItem_58 (by decide) (fun h8 => ?_) (fun h8 => ?_)
      ·
        have h8 := b2_z.mp h8
        have hkn := h8
        refine gx_iconst (v := 0) C dX2_tellItem_83 (by decide) ?_
        exact gx_iret C hr hlk (by first | rfl | exact nb_b2 _) (TR.no Ft.rf hT (by unfold itR; rw [if_neg hnr, if_neg hlw]; unfold psR; rw [if_neg (fun q9 => by first | omega | exact hkn ⟨q9.1, kdH_6 B t i⟩)])) dX2_tellItem_84
      ·
        have h8 := b2_nz.mp h8
        refine gx_aload_n C dX2_tellItem_61 (by rfl) (by rfl) ?_
        refine gx_geti (k := 11) C ck0 (by rfl) (by rfl) (by decide) fl_X2_71 dX2_tellItem_62 ?_
        refine gx_st (st' := [.int (nI (nn K))]) (by rw [(Emp.tk (B := B) (t := t) (j := i) hE).n, hO.1.1]) ?_
        refine gx_bipush (v := 12) C dX2_tellItem_65 (by decide) ?_
        refine gx_icmp_ge (tgt := 83) C dX2_tellItem_67 (by decide) (fun h9 => ?_) (fun h9 => ?_)
        ·
          have h9 := (nI_leI (a := 12) (b := (nn K)) (by omega) (by omega)).mp h9
          refine gx_iconst (v := 0) C dX2_tellItem_83 (by decide) ?_
          exact gx_iret C hr hlk (by first | rfl | exact nb_b2 _) (TR.no Ft.rf hT (by unfold itR; rw [if_neg hnr, if_neg hlw]; unfold psR; rw [if_neg (fun q9 => by first | omega | exact hkn ⟨q9.1, kdH_6 B t i⟩)])) dX2_tellItem_84
        ·
          have h9 := (not_congr (nI_leI (a := 12) (b := (nn K)) (by omega) (by omega))).mp h9
          refine gx_aload_n C dX2_tellItem_70 (by rfl) (by rfl) ?_
          refine gx_aload_n C dX2_tellItem_71 (by rfl) (by rfl) ?_
          refine gx_iload_n C dX2_tellItem_72 (by rfl) (by rfl) ?_
          refine gx_callVI (As := [.ref (eA E 37), .int (kdH B t i)]) (rest := []) C (c_X2_tellPerson E σ B t hT i hi K hE hO (by omega) (kdH B t i) ⟨by grind, kdH_6 B t i⟩) z_X2_tellPerson ck2 (by rfl) (by rfl) ml_X2_74 (by rfl) (Nat.le_of_ble_eq_true rfl) ⟨Nat.le_of_ble_eq_true rfl, Nat.le_of_ble_eq_true rfl⟩ dX2_tellItem_73 (fun r10 σ10 w10 => ?_)
          obtain ⟨τ10, j10, rfl, hF10, hT10, ⟨K10, hx10, rfl, hE10⟩ | ⟨hx10, rfl⟩⟩ := w10
          ·
            refine gx_if_eq (tgt := 83) C dX2_tellItem_76 (by decide) (fun h11 => ?_) (fun h11 => ?_)
            ·
              exact absurd h11 (by decide)
            ·
              clear h11
              refine gx_iconst (v := 1) C dX2_tellItem_79 (by decide) ?_
              refine gx_goto (tgt := 84) C dX2_tellItem_80 (by decide) ?_
              exact gx_iret C hr hlk (by first | rfl | exact nb_b2 _) (TR.yes (Ft.tr Ft.rf hF10) hT10 hE10 (by unfold itR; rw [if_neg hnr, if_neg hlw]; unfold psR; rw [if_pos ⟨by grind, by omega⟩]; exact hx10)) dX2_tellItem_84
          ·
            refine gx_if_eq (tgt := 83) C dX2_tellItem_76 (by decide) (fun h12 => ?_) (fun h12 => ?_)
            ·
              clear h12
              refine gx_iconst (v := 0) C dX2_tellItem_83 (by decide) ?_
              exact gx_iret C hr hlk (by first | rfl | exact nb_b2 _) (TR.no (Ft.tr Ft.rf hF10) hT10 (by unfold itR; rw [if_neg hnr, if_neg hlw]; unfold psR; rw [if_pos ⟨by grind, by omega⟩]; exact hx10)) dX2_tellItem_84
            ·
              exact absurd h12 (by decide)
    ·
      have h5 := b2_nz.mp h5
      obtain ⟨w, hw3, ew⟩ : ∃ w, w < 3 ∧ lwH B t i = nI w := by
        obtain ⟨w, h1, h2⟩ := i_nat (M := 2) (n := 2) (by decide) h5
        exact ⟨w, by omega, h2⟩
      have cw : cl (lwH B t i) = w := by rw [ew]; exact nI_clamp (by omega)
      have hl0 := h5.1
      refine gx_lv (lv' := [(2, .int (nI w)), (0, .ref (eA E 3)), (1, .ref (eA E 37))]) (by rw [ew]) ?_
      refine gx_aload_n C dX2_tellItem_29 (by rfl) (by rfl) ?_
      refine gx_aload_n C dX2_tellItem_30 (by rfl) (by rfl) ?_
      refine gx_getr (j := 47) (k := 9) C ck0 (by rfl) (by rfl) (by decide) fl_X2_49 dX2_tellItem_31 ?_
      refine gx_iload_n C dX2_tellItem_34 (by rfl) (by rfl) ?_
      refine gx_statN (q := 1) C C.2.2.2.2.2.2.2.2.1.1 (C.2.2.2.2.2.2.2.2.2.2.2.2.2.2.2.2.2.2.1) dX2_tellItem_35 ?_
      refine gx_iload_n C dX2_tellItem_38 (by rfl) (by rfl) ?_
      refine gx_ext (k := w) (v := jLeast.getD w 0) C C.2.2.2.2.2.2.2.2.1.2 rfl (by omega) (by decide) (by rfl) dX2_tellItem_39 ?_
      refine gx_statN (q := 2) C C.2.2.2.2.2.2.2.2.2.1.1 (C.2.2.2.2.2.2.2.2.2.2.2.2.2.2.2.2.2.2.2) dX2_tellItem_40 ?_
      refine gx_iload_n C dX2_tellItem_43 (by rfl) (by rfl) ?_
      refine gx_ext (k := w) (v := jMost.getD w 0) C C.2.2.2.2.2.2.2.2.2.1.2 rfl (by omega) (by decide) (by rfl) dX2_tellItem_44 ?_
      refine gx_callVI (As := [.ref (eA E 47), .int (nI w), .int (jLeast.getD w 0), .int (jMost.getD w 0)]) (rest := []) C (c_X2_tellNumber E σ B t hT i hi 47 2 (by rfl) (by decide) (by decide) w (by omega) (jLeast.getD w 0) (jMost.getD w 0)) z_X2_tellNumber ck2 (by rfl) (by rfl) ml_X2_60 (by rfl) (Nat.le_of_ble_eq_true rfl) ⟨Nat.le_of_ble_eq_true rfl, Nat.le_of_ble_eq_true rfl⟩ dX2_tellItem_45 (fun r13 σ13 w13 => ?_)
      by_cases hN13 : qN B t (qE B t i) (jLeast.getD w 0) (jMost.getD w 0) = true
      ·
        obtain ⟨rfl, rfl⟩ := w13.1 hN13
        exact gx_iret C hr hlk (by first | rfl | exact nb_b2 _) (TR.yes (Ft.up Ft.rf (by omega) (by omega)) (Tp.up hT (by omega)) (hE.u9 (p := w) (v := qV B t (qE B t i)) (by omega)) (by unfold itR; rw [if_neg hnr, if_pos hl0, cw]; unfold lwR; rw [if_pos hN13])) dX2_tellItem_48
      ·
        obtain ⟨rfl, rfl⟩ := w13.2 hN13
        exact gx_iret C hr hlk (by first | rfl | exact nb_b2 _) (TR.no Ft.rf hT (by unfold itR; rw [if_neg hnr, if_pos hl0, cw]; unfold lwR; rw [if_neg hN13])) dX2_tellItem_48
  ·
    have h2 := b2_nz.mp h2
    refine gx_aload_n C dX2_tellItem_9 (by rfl) (by rfl) ?_
    refine gx_aload_n C dX2_tellItem_10 (by rfl) (by rfl) ?_
    refine gx_callVI (As := [.ref (eA E 37)]) (rest := []) C (c_X2_tellRank E σ B t hT i hi K hE hO) z_X2_tellRank ck2 (by rfl) (by rfl) ml_X2_38 (by rfl) (Nat.le_of_ble_eq_true rfl) ⟨Nat.le_of_ble_eq_true rfl, Nat.le_of_ble_eq_true rfl⟩ dX2_tellItem_11 (fun r14 σ14 w14 => ?_)
    exact gx_iret C hr hlk (TR.nb w14) (TR.eq w14 Ft.rf (by unfold itR; rw [if_pos (by assumption)])) dX2_tellItem_14
set_option maxHeartbeats 4000000 in
set_option maxRecDepth 100000 in
theorem c_X2_tell (E : En) (σ : Mm) (B : Nat → Int32) (t : Nat) (hT : Tp σ B t) (K : Mm) (hE : Emp σ 37 K) (hO : Ok K) : CtI E yX2_tell cX2_tell 3 (some .int) 8 177 [.ref (eA E 3), .ref (eA E 37)] σ (fun rr σ2 => rr = (txR B t 121 1 K 0).2 ∧ ∃ τ j, σ2 = tk τ B t j ∧ Ft σ τ ∧ Tp τ B t ∧ ∀ K2, (txR B t 121 1 K 0).1 = some K2 → Emp τ 37 K2) := by
  have ht := hT.2.1
  refine CtI.of (by decide +kernel) (Nat.le_of_ble_eq_true rfl) (fun p e0 s m below meth c C hr hlk => ?_)
  refine gx_lv (lv' := [(0, .ref (eA E 3)), (1, .ref (eA E 37))]) rfl ?_
  refine gx_mm (σ' := ts σ (σ 3 2) (σ 3 3) (σ 3 4) (σ 3 5)) ts_self.symm ?_
  refine gx_aload_n C dX2_tell_0 (by rfl) (by rfl) ?_
  refine gx_iconst (v := 0) C dX2_tell_1 (by decide) ?_
  refine gx_puti (k := 3) C ck2 (by rfl) (by rfl) (by decide) (by rfl) rfl rfl fl_X2_15 dX2_tell_2 ?_
  refine gx_mm (σ' := ts σ (σ 3 2) 0 (σ 3 4) (σ 3 5)) ts_w3 ?_
  refine gx_aload_n C dX2_tell_5 (by rfl) (by rfl) ?_
  refine gx_callVV (As := []) (rest := []) C (c_X2_next E σ B t hT (σ 3 2) 0 (Nat.zero_le _) (σ 3 4) (σ 3 5)) z_X2_next ck2 (by rfl) (by rfl) ml_X2_19 (by rfl) (Nat.le_of_ble_eq_true rfl) ⟨Nat.le_of_ble_eq_true rfl, Nat.le_of_ble_eq_true rfl⟩ dX2_tell_6 (fun σ1 w1 => ?_)
  rw [w1]; clear w1
  refine gx_iconst (v := 1) C dX2_tell_9 (by decide) ?_
  refine gx_istore_n (lv2 := [(2, .int 1), (0, .ref (eA E 3)), (1, .ref (eA E 37))]) C dX2_tell_10 (by rfl) (by decide) rfl ?_
  have loop11 : ∀ (f : Nat) (n : Nat) (τ Kc : Mm) (j : Nat), f + n = 122 → n ≤ 121 → Emp τ 37 Kc → Ok Kc → Ft σ τ → Tp τ B t → j ≤ t → 121 ≤ f + j → txR B t f n Kc j = txR B t 121 1 K 0 → Gx E p e0 (rmF 8 177) s m ([.ref (eA E 3), .ref (eA E 37)] : List Value).toArray below meth c (MQ below (va_Qi (fun rr σ2 => rr = (txR B t 121 1 K 0).2 ∧ ∃ τ j, σ2 = tk τ B t j ∧ Ft σ τ ∧ Tp τ B t ∧ ∀ K2, (txR B t 121 1 K 0).1 = some K2 → Emp τ 37 K2) (WQ E) (AA E s.heap.size)) ([.ref (eA E 3), .ref (eA E 37)] : List Value).toArray s 0 0 (AA E s.heap.size)) 3 11 [(0, .ref (eA E 3)), (1, .ref (eA E 37)), (2, .int (nI n))] [] (tk τ B t j) := by
    intro f
    induction f with
    | zero => intro n τ Kc j hf hn121 hEc hOc hFc hTc hj hfj eT; exact absurd hf (by omega)
    | succ f ih11 =>
      intro n τ Kc j hf hn121 hEc hOc hFc hTc hj hfj eT
      refine gx_iload_n C dX2_tell_11 (by rfl) (by rfl) ?_
      refine gx_bipush (v := 120) C dX2_tell_12 (by decide) ?_
      refine gx_icmp_gt (tgt := 58) C dX2_tell_14 (by decide) (fun h2 => ?_) (fun h2 => ?_)
      ·
        have h2 := (nI_ltI (a := 120) (b := n) (by omega) (by omega)).mp h2
        refine gx_iconst (v := (-1)) C dX2_tell_58 (by decide) ?_
        refine gx_aload_n C dX2_tell_59 (by rfl) (by rfl) ?_
        refine gx_geti (k := 2) C ck2 (by rfl) (by rfl) (by decide) fl_X2_29 dX2_tell_60 ?_
        refine gx_st (st' := [.int (nI (qS B t j)), .int (-1)]) (by rw [tk_2]) ?_
        refine gx_isub C dX2_tell_63 ?_
        exact gx_iret C hr hlk rfl ⟨by rw [← eT, (tx_end (B := B) (t := t) (K := Kc) (i := j) (f := f) (n := n) (by omega))], τ, j, rfl, hFc, hTc, fun K2 q9 => by rw [← eT, (tx_end (B := B) (t := t) (K := Kc) (i := j) (f := f) (n := n) (by omega))] at q9; exact nomatch q9⟩ dX2_tell_64
      ·
        have h2 := (not_congr (nI_ltI (a := 120) (b := n) (by omega) (by omega))).mp h2
        refine gx_aload_n C dX2_tell_17 (by rfl) (by rfl) ?_
        refine gx_aload_n C dX2_tell_18 (by rfl) (by rfl) ?_
        refine gx_callVI (As := [.ref (eA E 37)]) (rest := []) C (c_X2_tellItem E τ B t hTc j hj Kc hEc hOc) z_X2_tellItem ck2 (by rfl) (by rfl) ml_X2_22 (by rfl) (Nat.le_of_ble_eq_true rfl) ⟨Nat.le_of_ble_eq_true rfl, Nat.le_of_ble_eq_true rfl⟩ dX2_tell_19 (fun r3 σ3 w3 => ?_)
        obtain ⟨τ3, j3, rfl, hF3, hT3, ⟨K3, hx3, rfl, hE3⟩ | ⟨hx3, rfl⟩⟩ := w3
        ·
          have hg3 : j3 ≤ t := by have := gd_it (B := B) hOc hj; rw [hx3] at this; exact this.1.2
          have hO3 : Ok K3 := by have := gd_it (B := B) hOc hj; rw [hx3] at this; exact this.2 _ rfl
          have hge3 : j ≤ j3 := by have := gd_it (B := B) hOc hj; rw [hx3] at this; exact this.1.1
          have hk43 : qK B t j3 ≤ 4 := qk_le
          refine gx_if_ne (tgt := 28) C dX2_tell_22 (by decide) (fun h4 => ?_) (fun h4 => ?_)
          ·
            clear h4
            refine gx_aload_n C dX2_tell_28 (by rfl) (by rfl) ?_
            refine gx_geti (k := 4) C ck2 (by rfl) (by rfl) (by decide) fl_X2_26 dX2_tell_29 ?_
            refine gx_st (st' := [.int (nI (qK B t j3))]) (by rw [tk_4]) ?_
            refine gx_if_ne (tgt := 37) C dX2_tell_32 (by decide) (fun h5 => ?_) (fun h5 => ?_)
            ·
              have hz9 : ¬ qK B t j3 = 0 := fun q9 => h5 (by rw [q9]; rfl)
              refine gx_aload_n C dX2_tell_37 (by rfl) (by rfl) ?_
              refine gx_geti (k := 4) C ck2 (by rfl) (by rfl) (by decide) fl_X2_26 dX2_tell_38 ?_
              refine gx_st (st' := [.int (nI (qK B t j3))]) (by rw [tk_4]) ?_
              refine gx_iconst (v := 3) C dX2_tell_41 (by decide) ?_
              refine gx_icmp_eq (tgt := 48) C dX2_tell_42 (by decide) (fun h6 => ?_) (fun h6 => ?_)
              ·
                have h6 := (nI_eq (a := (qK B t j3)) (b := 3) (by omega) (by omega)).mp h6
                refine gx_aload_n C dX2_tell_48 (by rfl) (by rfl) ?_
                refine gx_callVV (As := []) (rest := []) C (c_X2_next2 E τ3 B t hT3 j3 hg3) z_X2_next ck2 (by rfl) (by rfl) ml_X2_19 (by rfl) (Nat.le_of_ble_eq_true rfl) ⟨Nat.le_of_ble_eq_true rfl, Nat.le_of_ble_eq_true rfl⟩ dX2_tell_49 (fun σ7 w7 => ?_)
                rw [w7]; clear w7
                refine gx_iinc (v := nI (n + 1)) (lv2 := [(2, .int (nI (n + 1))), (0, .ref (eA E 3)), (1, .ref (eA E 37))]) C dX2_tell_52 (by rfl) (by exact nI_p1 _) (by decide) rfl ?_
                refine gx_goto (tgt := 11) C dX2_tell_55 (by decide) ?_
                refine gx_sub [1, 2, 0] (lv' := [(0, .ref (eA E 3)), (1, .ref (eA E 37)), (2, .int (nI (n + 1)))]) rfl ?_
                exact ih11 (n + 1) τ3 K3 (qE B t j3) (by omega) (by omega) hE3 hO3 (Ft.tr hFc hF3) hT3 (qE_le (B := B) hg3) (by have := hge3; have := qE_gt (B := B) (t := t) (i := j3) (by omega); have := qS_ge (B := B) (t := t) (i := j3); omega) (by rw [← eT, tx_go hx3 (by omega)])
              ·
                have h6 := (not_congr (nI_eq (a := (qK B t j3)) (b := 3) (by omega) (by omega))).mp h6
                refine gx_goto (tgt := 58) C dX2_tell_45 (by decide) ?_
                refine gx_iconst (v := (-1)) C dX2_tell_58 (by decide) ?_
                refine gx_aload_n C dX2_tell_59 (by rfl) (by rfl) ?_
                refine gx_geti (k := 2) C ck2 (by rfl) (by rfl) (by decide) fl_X2_29 dX2_tell_60 ?_
                refine gx_st (st' := [.int (nI (qS B t j3)), .int (-1)]) (by rw [tk_2]) ?_
                refine gx_isub C dX2_tell_63 ?_
                exact gx_iret C hr hlk rfl ⟨by rw [← eT, (tx_bad hx3 (by omega) (by omega))], τ3, j3, rfl, (Ft.tr hFc hF3), hT3, fun K2 q9 => by rw [← eT, (tx_bad hx3 (by omega) (by omega))] at q9; exact nomatch q9⟩ dX2_tell_64
            ·
              have hz9 : qK B t j3 = 0 := (nI_eq (b := 0) (by omega) (by omega)).mp h5
              refine gx_iload_n C dX2_tell_35 (by rfl) (by rfl) ?_
              exact gx_iret C hr hlk rfl ⟨by rw [← eT, (tx_ok hx3 (by omega))], τ3, j3, rfl, (Ft.tr hFc hF3), hT3, fun K2 q9 => by rw [← eT, (tx_ok hx3 (by omega))] at q9; exact Option.some.inj q9 ▸ hE3⟩ dX2_tell_36
          ·
            exact absurd h4 (by decide)
        ·
          have hg3 : j3 ≤ t := by have := gd_it (B := B) hOc hj; rw [hx3] at this; exact this.1.2
          refine gx_if_ne (tgt := 28) C dX2_tell_22 (by decide) (fun h8 => ?_) (fun h8 => ?_)
          ·
            exact absurd h8 (by decide)
          ·
            clear h8
            refine gx_goto (tgt := 58) C dX2_tell_25 (by decide) ?_
            refine gx_iconst (v := (-1)) C dX2_tell_58 (by decide) ?_
            refine gx_aload_n C dX2_tell_59 (by rfl) (by rfl) ?_
            refine gx_geti (k := 2) C ck2 (by rfl) (by rfl) (by decide) fl_X2_29 dX2_tell_60 ?_
            refine gx_st (st' := [.int (nI (qS B t j3)), .int (-1)]) (by rw [tk_2]) ?_
            refine gx_isub C dX2_tell_63 ?_
            exact gx_iret C hr hlk rfl ⟨by rw [← eT, (tx_no hx3)], τ3, j3, rfl, (Ft.tr hFc hF3), hT3, fun K2 q9 => by rw [← eT, (tx_no hx3)] at q9; exact nomatch q9⟩ dX2_tell_64
  refine gx_sub [1, 2, 0] (lv' := [(0, .ref (eA E 3)), (1, .ref (eA E 37)), (2, .int 1)]) rfl ?_
  refine gx_lv (lv' := [(0, .ref (eA E 3)), (1, .ref (eA E 37)), (2, .int (nI 1))]) (by rfl) ?_
  exact loop11 121 1 σ K 0 (by omega) (by omega) hE hO Ft.rf hT (Nat.zero_le _) (by omega) rfl
set_option maxHeartbeats 4000000 in
set_option maxRecDepth 100000 in
theorem c_X3_text (E : En) (σ : Mm) (K L : Mm) (g : Int32) (F : Nat → Int32) (tl : Int32) (Bt W Z : Nat → Int32) (N : Mm) (hC : CR σ (K, L, g, F, tl, Bt, W, Z, N)) : CtI E yX3_text cX3_text 2 (some .int) 9 199 [.ref (eA E 0)] σ (fun rr σ2 => rr = (opText (K, L, g, F, tl, Bt, W, Z, N)).1 ∧ CR σ2 (opText (K, L, g, F, tl, Bt, W, Z, N)).2 ∧ FC σ σ2) := by
  obtain ⟨⟨hK, hO⟩, ⟨hg1, hg2, hg3⟩, hFd, ⟨⟨htl, htl2⟩, hBt⟩, hSh⟩ := id hC
  obtain ⟨⟨hn, h12⟩, hpp, hlw, hsp, hz0⟩ := id hO
  obtain ⟨t0, ht0, rfl⟩ := htl2
  have ct0 : cl (nI t0) = t0 := nI_clamp (by omega)
  refine CtI.of (by decide +kernel) (Nat.le_of_ble_eq_true rfl) (fun p e0 s m below meth c C hr hlk => ?_)
  refine gx_lv (lv' := [(0, .ref (eA E 0))]) rfl ?_
  refine gx_aload_n C dX3_text_0 (by rfl) (by rfl) ?_
  refine gx_getr (j := 37) (k := 3) C ck3 (by rfl) (by rfl) (by decide) fl_X3_19 dX3_text_1 ?_
  refine gx_aload_n C dX3_text_4 (by rfl) (by rfl) ?_
  refine gx_getr (j := 13) (k := 0) C ck3 (by rfl) (by rfl) (by decide) fl_X3_10 dX3_text_5 ?_
  refine gx_callVV (As := [.ref (eA E 13)]) (rest := []) C (c_X0_becomeLike E σ 37 isE_37 13 isE_13 (by decide) K hK) z_X0_becomeLike ck0 (by rfl) (by rfl) ml_X3_169 (by rfl) (Nat.le_of_ble_eq_true rfl) ⟨Nat.le_of_ble_eq_true rfl, Nat.le_of_ble_eq_true rfl⟩ dX3_text_8 (fun σ1 w1 => ?_)
  obtain ⟨hK1, hF1⟩ := w1
  have hK1_13 := Emp.fr (e := 13) (e2 := 37) hK hF1 (by decide)
  refine gx_aload_n C dX3_text_11 (by rfl) (by rfl) ?_
  refine gx_getr (j := 3) (k := 4) C ck3 (by rfl) (by rfl) (by decide) fl_X3_25 dX3_text_12 ?_
  refine gx_aload_n C dX3_text_15 (by rfl) (by rfl) ?_
  refine gx_getr (j := 37) (k := 3) C ck3 (by rfl) (by rfl) (by decide) fl_X3_19 dX3_text_16 ?_
  have hT1 : Tp σ1 Bt t0 := ⟨by rw [hF1 3 (by omega)]; exact htl, ht0, fun q hq => by rw [hF1 4 (by omega)]; exact hBt q hq⟩
  refine gx_callVI (As := [.ref (eA E 37)]) (rest := []) C (c_X2_tell E σ1 Bt t0 hT1 K hK1 hO) z_X2_tell ck2 (by rfl) (by rfl) ml_X3_222 (by rfl) (Nat.le_of_ble_eq_true rfl) ⟨Nat.le_of_ble_eq_true rfl, Nat.le_of_ble_eq_true rfl⟩ dX3_text_19 (fun r2 σ2 w2 => ?_)
  obtain ⟨er, τ, j, rfl, hFt, hTt, hEt⟩ := w2
  have hf9 : ∀ i, ¬ i = 3 → (i < 37 ∨ 49 ≤ i) → tk τ Bt t0 j i = σ i := fun i y1 y2 => by rw [tk_o y1, hFt i y1 y2]; exact hF1 i (by omega)
  rcases tx_all ht0 121 1 K 0 hO (Nat.zero_le _) (by omega) with ⟨K2, r2, ex, hO2, hr2⟩ | ⟨r2, ex, hr2⟩
  ·
    refine gx_st (st' := [.int r2]) (by rw [er, ex]) ?_
    have hE2 : Emp (tk τ Bt t0 j) 37 K2 := (hEt K2 (by rw [ex])).tk
    refine gx_istore_n (lv2 := [(1, .int r2), (0, .ref (eA E 0))]) C dX3_text_22 (by rfl) (by decide) rfl ?_
    refine gx_iload_n C dX3_text_23 (by rfl) (by rfl) ?_
    refine gx_if_lt (tgt := 38) C dX3_text_24 (by decide) (fun h3 => ?_) (fun h3 => ?_)
    ·
      exact absurd h3 hr2
    ·
      refine gx_aload_n C dX3_text_27 (by rfl) (by rfl) ?_
      refine gx_getr (j := 13) (k := 0) C ck3 (by rfl) (by rfl) (by decide) fl_X3_10 dX3_text_28 ?_
      refine gx_aload_n C dX3_text_31 (by rfl) (by rfl) ?_
      refine gx_getr (j := 37) (k := 3) C ck3 (by rfl) (by rfl) (by decide) fl_X3_19 dX3_text_32 ?_
      refine gx_callVV (As := [.ref (eA E 37)]) (rest := []) C (c_X0_becomeLike E (tk τ Bt t0 j) 13 isE_13 37 isE_37 (by decide) K2 hE2) z_X0_becomeLike ck0 (by rfl) (by rfl) ml_X3_169 (by rfl) (Nat.le_of_ble_eq_true rfl) ⟨Nat.le_of_ble_eq_true rfl, Nat.le_of_ble_eq_true rfl⟩ dX3_text_35 (fun σ4 w4 => ?_)
      obtain ⟨hK4, hF4⟩ := w4
      have hK4_37 := Emp.fr (e := 37) (e2 := 13) hE2 hF4 (by decide)
      refine gx_aload_n C dX3_text_38 (by rfl) (by rfl) ?_
      refine gx_getr (j := 3) (k := 4) C ck3 (by rfl) (by rfl) (by decide) fl_X3_25 dX3_text_39 ?_
      refine gx_iconst (v := 0) C dX3_text_42 (by decide) ?_
      refine gx_puti (k := 1) C ck2 (by rfl) (by rfl) (by decide) (by rfl) rfl rfl fl_X3_216 dX3_text_43 ?_
      have hK5 : Emp (up2 σ4 3 1 0) 37 K2 := hK4_37.w (by omega)
      have hK6 : Emp (up2 σ4 3 1 0) 13 K2 := hK4.w (by omega)
      refine gx_iload_n C dX3_text_46 (by rfl) (by rfl) ?_
      exact gx_iret C hr hlk rfl (by have key : opText (K, L, g, F, nI t0, Bt, W, Z, N) = (r2, (K2, L, g, F, 0, Bt, W, Z, N)) := (by unfold opText; simp only [ct0, ex, Option.getD]); rw [key]; exact ⟨rfl, fin_tx hC (fun i y1 y2 => by rw [hF4 i (by omega)]; exact hf9 i y1 (by omega)) hK4 hO2⟩) dX3_text_47
  ·
    refine gx_st (st' := [.int r2]) (by rw [er, ex]) ?_
    have hK9 : Emp (tk τ Bt t0 j) 13 K := hK.eq (fun i hi => hf9 _ (by omega) (by omega))
    refine gx_istore_n (lv2 := [(1, .int r2), (0, .ref (eA E 0))]) C dX3_text_22 (by rfl) (by decide) rfl ?_
    refine gx_iload_n C dX3_text_23 (by rfl) (by rfl) ?_
    refine gx_if_lt (tgt := 38) C dX3_text_24 (by decide) (fun h7 => ?_) (fun h7 => ?_)
    ·
      refine gx_aload_n C dX3_text_38 (by rfl) (by rfl) ?_
      refine gx_getr (j := 3) (k := 4) C ck3 (by rfl) (by rfl) (by decide) fl_X3_25 dX3_text_39 ?_
      refine gx_iconst (v := 0) C dX3_text_42 (by decide) ?_
      refine gx_puti (k := 1) C ck2 (by rfl) (by rfl) (by decide) (by rfl) rfl rfl fl_X3_216 dX3_text_43 ?_
      have hK8 : Emp (up2 (tk τ Bt t0 j) 3 1 0) 13 K := hK9.w (by omega)
      refine gx_iload_n C dX3_text_46 (by rfl) (by rfl) ?_
      exact gx_iret C hr hlk rfl (by have key : opText (K, L, g, F, nI t0, Bt, W, Z, N) = (r2, (K, L, g, F, 0, Bt, W, Z, N)) := (by unfold opText; simp only [ct0, ex, Option.getD]); rw [key]; exact ⟨rfl, fin_tx hC (fun i y1 y2 => hf9 i y1 (by omega)) hK9 hO⟩) dX3_text_47
    ·
      exact absurd hr2 h7
