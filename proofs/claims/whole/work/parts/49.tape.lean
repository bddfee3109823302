set_option maxHeartbeats 4000000 in
set_option maxRecDepth 100000 in
theorem c_X2_sortAt (E : En) (σ : Mm) (B : Nat → Int32) (t : Nat) (hT : Tp σ B t) (j : Nat) (hj : j ≤ 120) : CtI E yX2_sortAt cX2_sortAt 3 (some .int) 0 0 [.ref (eA E 3), .int (nI j)] σ (fun rr σ2 => σ2 = σ ∧ rr = nI (qk B t j)) := by
  have ht := hT.2.1
  refine CtI.of (by decide +kernel) (Nat.le_of_ble_eq_true rfl) (fun p e0 s m below meth c C hr hlk => ?_)
  refine gx_lv (lv' := [(0, .ref (eA E 3)), (1, .int (nI j))]) rfl ?_
  refine gx_iload_n C dX2_sortAt_0 (by rfl) (by rfl) ?_
  refine gx_aload_n C dX2_sortAt_1 (by rfl) (by rfl) ?_
  refine gx_geti (k := 1) C ck2 (by rfl) (by rfl) (by decide) fl_X2_151 dX2_sortAt_2 ?_
  refine gx_st (st' := [.int (nI t), .int (nI j)]) (by rw [hT.1]) ?_
  refine gx_icmp_lt (tgt := 10) C dX2_sortAt_5 (by decide) (fun h1 => ?_) (fun h1 => ?_)
  ·
    have h1 := (nI_ltI (a := j) (b := t) (by omega) (by omega)).mp h1
    refine gx_aload_n C dX2_sortAt_10 (by rfl) (by rfl) ?_
    refine gx_getr (j := 4) (k := 0) C ck2 (by rfl) (by rfl) (by decide) fl_X2_9 dX2_sortAt_11 ?_
    refine gx_iload_n C dX2_sortAt_14 (by rfl) (by rfl) ?_
    refine gx_ialdN (k := j) C (by rfl) rfl (by omega) (by decide) dX2_sortAt_15 ?_
    refine gx_st (st' := [.int (B j)]) (by rw [hT.2.2 j (by omega)]) ?_
    refine gx_istore_n (lv2 := [(2, .int (B j)), (0, .ref (eA E 3)), (1, .int (nI j))]) C dX2_sortAt_16 (by rfl) (by decide) rfl ?_
    refine gx_iload_n C dX2_sortAt_17 (by rfl) (by rfl) ?_
    refine gx_bipush (v := 97) C dX2_sortAt_18 (by decide) ?_
    refine gx_icmp_lt (tgt := 31) C dX2_sortAt_20 (by decide) (fun h2 => ?_) (fun h2 => ?_)
    ·
      refine gx_iload_n C dX2_sortAt_31 (by rfl) (by rfl) ?_
      refine gx_bipush (v := 48) C dX2_sortAt_32 (by decide) ?_
      refine gx_icmp_lt (tgt := 45) C dX2_sortAt_34 (by decide) (fun h3 => ?_) (fun h3 => ?_)
      ·
        refine gx_iload_n C dX2_sortAt_45 (by rfl) (by rfl) ?_
        refine gx_bipush (v := 59) C dX2_sortAt_46 (by decide) ?_
        refine gx_icmp_ne (tgt := 55) C dX2_sortAt_48 (by decide) (fun h4 => ?_) (fun h4 => ?_)
        ·
          refine gx_iconst (v := 4) C dX2_sortAt_55 (by decide) ?_
          exact gx_iret C hr hlk rfl ⟨rfl, by unfold qk; first | (rw [if_neg (by omega)]; rfl) | (rw [if_pos (by omega)]; first | (rw [if_pos (by grind)]; rfl) | (rw [if_neg (by grind), if_pos (by grind)]; rfl) | (rw [if_neg (by grind), if_neg (by grind), if_pos (by grind)]; rfl) | (rw [if_neg (by grind), if_neg (by grind), if_neg (by grind)]; rfl))⟩ dX2_sortAt_56
        ·
          refine gx_iconst (v := 3) C dX2_sortAt_51 (by decide) ?_
          refine gx_goto (tgt := 56) C dX2_sortAt_52 (by decide) ?_
          exact gx_iret C hr hlk rfl ⟨rfl, by unfold qk; first | (rw [if_neg (by omega)]; rfl) | (rw [if_pos (by omega)]; first | (rw [if_pos (by grind)]; rfl) | (rw [if_neg (by grind), if_pos (by grind)]; rfl) | (rw [if_neg (by grind), if_neg (by grind), if_pos (by grind)]; rfl) | (rw [if_neg (by grind), if_neg (by grind), if_neg (by grind)]; rfl))⟩ dX2_sortAt_56
      ·
        refine gx_iload_n C dX2_sortAt_37 (by rfl) (by rfl) ?_
        refine gx_bipush (v := 57) C dX2_sortAt_38 (by decide) ?_
        refine gx_icmp_gt (tgt := 45) C dX2_sortAt_40 (by decide) (fun h5 => ?_) (fun h5 => ?_)
        ·
          refine gx_iload_n C dX2_sortAt_45 (by rfl) (by rfl) ?_
          refine gx_bipush (v := 59) C dX2_sortAt_46 (by decide) ?_
          refine gx_icmp_ne (tgt := 55) C dX2_sortAt_48 (by decide) (fun h6 => ?_) (fun h6 => ?_)
          ·
            refine gx_iconst (v := 4) C dX2_sortAt_55 (by decide) ?_
            exact gx_iret C hr hlk rfl ⟨rfl, by unfold qk; first | (rw [if_neg (by omega)]; rfl) | (rw [if_pos (by omega)]; first | (rw [if_pos (by grind)]; rfl) | (rw [if_neg (by grind), if_pos (by grind)]; rfl) | (rw [if_neg (by grind), if_neg (by grind), if_pos (by grind)]; rfl) | (rw [if_neg (by grind), if_neg (by grind), if_neg (by grind)]; rfl))⟩ dX2_sortAt_56
          ·
            refine gx_iconst (v := 3) C dX2_sortAt_51 (by decide) ?_
            refine gx_goto (tgt := 56) C dX2_sortAt_52 (by decide) ?_
            exact gx_iret C hr hlk rfl ⟨rfl, by unfold qk; first | (rw [if_neg (by omega)]; rfl) | (rw [if_pos (by omega)]; first | (rw [if_pos (by grind)]; rfl) | (rw [if_neg (by grind), if_pos (by grind)]; rfl) | (rw [if_neg (by grind), if_neg (by grind), if_pos (by grind)]; rfl) | (rw [if_neg (by grind), if_neg (by grind), if_neg (by grind)]; rfl))⟩ dX2_sortAt_56
        ·
          refine gx_iconst (v := 2) C dX2_sortAt_43 (by decide) ?_
          exact gx_iret C hr hlk rfl ⟨rfl, by unfold qk; first | (rw [if_neg (by omega)]; rfl) | (rw [if_pos (by omega)]; first | (rw [if_pos (by grind)]; rfl) | (rw [if_neg (by grind), if_pos (by grind)]; rfl) | (rw [if_neg (by grind), if_neg (by grind), if_pos (by grind)]; rfl) | (rw [if_neg (by grind), if_neg (by grind), if_neg (by grind)]; rfl))⟩ dX2_sortAt_44
    ·
      refine gx_iload_n C dX2_sortAt_23 (by rfl) (by rfl) ?_
      refine gx_bipush (v := 122) C dX2_sortAt_24 (by decide) ?_
      refine gx_icmp_gt (tgt := 31) C dX2_sortAt_26 (by decide) (fun h7 => ?_) (fun h7 => ?_)
      ·
        refine gx_iload_n C dX2_sortAt_31 (by rfl) (by rfl) ?_
        refine gx_bipush (v := 48) C dX2_sortAt_32 (by decide) ?_
        refine gx_icmp_lt (tgt := 45) C dX2_sortAt_34 (by decide) (fun h8 => ?_) (fun h8 => ?_)
        ·
          refine gx_iload_n C dX2_sortAt_45 (by rfl) (by rfl) ?_
          refine gx_bipush (v := 59) C dX2_sortAt_46 (by decide) ?_
          refine gx_icmp_ne (tgt := 55) C dX2_sortAt_48 (by decide) (fun h9 => ?_) (fun h9 => ?_)
          ·
            refine gx_iconst (v := 4) C dX2_sortAt_55 (by decide) ?_
            exact gx_iret C hr hlk rfl ⟨rfl, by unfold qk; first | (rw [if_neg (by omega)]; rfl) | (rw [if_pos (by omega)]; first | (rw [if_pos (by grind)]; rfl) | (rw [if_neg (by grind), if_pos (by grind)]; rfl) | (rw [if_neg (by grind), if_neg (by grind), if_pos (by grind)]; rfl) | (rw [if_neg (by grind), if_neg (by grind), if_neg (by grind)]; rfl))⟩ dX2_sortAt_56
          ·
            refine gx_iconst (v := 3) C dX2_sortAt_51 (by decide) ?_
            refine gx_goto (tgt := 56) C dX2_sortAt_52 (by decide) ?_
            exact gx_iret C hr hlk rfl ⟨rfl, by unfold qk; first | (rw [if_neg (by omega)]; rfl) | (rw [if_pos (by omega)]; first | (rw [if_pos (by grind)]; rfl) | (rw [if_neg (by grind), if_pos (by grind)]; rfl) | (rw [if_neg (by grind), if_neg (by grind), if_pos (by grind)]; rfl) | (rw [if_neg (by grind), if_neg (by grind), if_neg (by grind)]; rfl))⟩ dX2_sortAt_56
        ·
          refine gx_iload_n C dX2_sortAt_37 (by rfl) (by rfl) ?_
          refine gx_bipush (v := 57) C dX2_sortAt_38 (by decide) ?_
          refine gx_icmp_gt (tgt := 45) C dX2_sortAt_40 (by decide) (fun h10 => ?_) (fun h10 => ?_)
          ·
            refine gx_iload_n C dX2_sortAt_45 (by rfl) (by rfl) ?_
            refine gx_bipush (v := 59) C dX2_sortAt_46 (by decide) ?_
            refine gx_icmp_ne (tgt := 55) C dX2_sortAt_48 (by decide) (fun h11 => ?_) (fun h11 => ?_)
            ·
              refine gx_iconst (v := 4) C dX2_sortAt_55 (by decide) ?_
              exact gx_iret C hr hlk rfl ⟨rfl, by unfold qk; first | (rw [if_neg (by omega)]; rfl) | (rw [if_pos (by omega)]; first | (rw [if_pos (by grind)]; rfl) | (rw [if_neg (by grind), if_pos (by grind)]; rfl) | (rw [if_neg (by grind), if_neg (by grind), if_pos (by grind)]; rfl) | (rw [if_neg (by grind), if_neg (by grind), if_neg (by grind)]; rfl))⟩ dX2_sortAt_56
            ·
              refine gx_iconst (v := 3) C dX2_sortAt_51 (by decide) ?_
              refine gx_goto (tgt := 56) C dX2_sortAt_52 (by decide) ?_
              exact gx_iret C hr hlk rfl ⟨rfl, by unfold qk; first | (rw [if_neg (by omega)]; rfl) | (rw [if_pos (by omega)]; first | (rw [if_pos (by grind)]; rfl) | (rw [if_neg (by grind), if_pos (by grind)]; rfl) | (rw [if_neg (by grind), if_neg (by grind), if_pos (by grind)]; rfl) | (rw [if_neg (by grind), if_neg (by grind), if_neg (by grind)]; rfl))⟩ dX2_sortAt_56
          ·
            refine gx_iconst (v := 2) C dX2_sortAt_43 (by decide) ?_
            exact gx_iret C hr hlk rfl ⟨rfl, by unfold qk; first | (rw [if_neg (by omega)]; rfl) | (rw [if_pos (by omega)]; first | (rw [if_pos (by grind)]; rfl) | (rw [if_neg (by grind), if_pos (by grind)]; rfl) | (rw [if_neg (by grind), if_neg (by grind), if_pos (by grind)]; rfl) | (rw [if_neg (by grind), if_neg (by grind), if_neg (by grind)]; rfl))⟩ dX2_sortAt_44
      ·
        refine gx_iconst (v := 1) C dX2_sortAt_29 (by decide) ?_
        exact gx_iret C hr hlk rfl ⟨rfl, by unfold qk; first | (rw [if_neg (by omega)]; rfl) | (rw [if_pos (by omega)]; first | (rw [if_pos (by grind)]; rfl) | (rw [if_neg (by grind), if_pos (by grind)]; rfl) | (rw [if_neg (by grind), if_neg (by grind), if_pos (by grind)]; rfl) | (rw [if_neg (by grind), if_neg (by grind), if_neg (by grind)]; rfl))⟩ dX2_sortAt_30
  ·
    have h1 := (not_congr (nI_ltI (a := j) (b := t) (by omega) (by omega))).mp h1
    refine gx_iconst (v := 0) C dX2_sortAt_8 (by decide) ?_
    exact gx_iret C hr hlk rfl ⟨rfl, by unfold qk; first | (rw [if_neg (by omega)]; rfl) | (rw [if_pos (by omega)]; first | (rw [if_pos (by grind)]; rfl) | (rw [if_neg (by grind), if_pos (by grind)]; rfl) | (rw [if_neg (by grind), if_neg (by grind), if_pos (by grind)]; rfl) | (rw [if_neg (by grind), if_neg (by grind), if_neg (by grind)]; rfl))⟩ dX2_sortAt_9
set_option maxHeartbeats 4000000 in
set_option maxRecDepth 100000 in
theorem c_X2_valueTold (E : En) (σ : Mm) (B : Nat → Int32) (t : Nat) (hT : Tp σ B t) (s0 e1 : Nat) (hse : s0 ≤ e1) (het : e1 ≤ t) (c1 d1 : Int32) : CtI E yX2_valueTold cX2_valueTold 3 (some .int) 0 0 [.ref (eA E 3)] (ts σ (nI s0) (nI e1) c1 d1) (fun rr σ2 => σ2 = ts σ (nI s0) (nI e1) c1 d1 ∧ rr = qvv B s0 (e1 - s0)) := by
  have ht := hT.2.1
  refine CtI.of (by decide +kernel) (Nat.le_of_ble_eq_true rfl) (fun p e0 s m below meth c C hr hlk => ?_)
  refine gx_lv (lv' := [(0, .ref (eA E 3))]) rfl ?_
  refine gx_iconst (v := 0) C dX2_valueTold_0 (by decide) ?_
  refine gx_istore_n (lv2 := [(1, .int 0), (0, .ref (eA E 3))]) C dX2_valueTold_1 (by rfl) (by decide) rfl ?_
  refine gx_aload_n C dX2_valueTold_2 (by rfl) (by rfl) ?_
  refine gx_geti (k := 2) C ck2 (by rfl) (by rfl) (by decide) fl_X2_29 dX2_valueTold_3 ?_
  refine gx_st (st' := [.int (nI s0)]) (by rw [ts_2]) ?_
  refine gx_istore_n (lv2 := [(2, .int (nI s0)), (1, .int 0), (0, .ref (eA E 3))]) C dX2_valueTold_6 (by rfl) (by decide) rfl ?_
  have loop7 : ∀ (f : Nat) (n : Nat), e1 + 1 ≤ s0 + n + f → s0 + n ≤ e1 → Gx E p e0 (rmF 0 0) s m ([.ref (eA E 3)] : List Value).toArray below meth c (MQ below (va_Qi (fun rr σ2 => σ2 = ts σ (nI s0) (nI e1) c1 d1 ∧ rr = qvv B s0 (e1 - s0)) (WQ E) (AA E s.heap.size)) ([.ref (eA E 3)] : List Value).toArray s 0 0 (AA E s.heap.size)) 3 7 [(0, .ref (eA E 3)), (1, .int (qvv B s0 n)), (2, .int (nI (s0 + n)))] [] (ts σ (nI s0) (nI e1) c1 d1) := by
    intro f
    induction f with
    | zero => intro n hf hn; exact absurd hf (by omega)
    | succ f ih7 =>
      intro n hf hn
      refine gx_iload_n C dX2_valueTold_7 (by rfl) (by rfl) ?_
      refine gx_aload_n C dX2_valueTold_8 (by rfl) (by rfl) ?_
      refine gx_geti (k := 3) C ck2 (by rfl) (by rfl) (by decide) fl_X2_15 dX2_valueTold_9 ?_
      refine gx_st (st' := [.int (nI e1), .int (nI (s0 + n))]) (by rw [ts_3]) ?_
      refine gx_icmp_ge (tgt := 43) C dX2_valueTold_12 (by decide) (fun h1 => ?_) (fun h1 => ?_)
      ·
        have h1 := (nI_leI (a := e1) (b := (s0 + n)) (by omega) (by omega)).mp h1
        refine gx_iload_n C dX2_valueTold_43 (by rfl) (by rfl) ?_
        exact gx_iret C hr hlk rfl ⟨rfl, by first | exact qvv_en (by assumption) (by omega) | rw [show n = e1 - s0 by omega]⟩ dX2_valueTold_44
      ·
        have h1 := (not_congr (nI_leI (a := e1) (b := (s0 + n)) (by omega) (by omega))).mp h1
        refine gx_iload_n C dX2_valueTold_15 (by rfl) (by rfl) ?_
        refine gx_sipush (v := 9999) C dX2_valueTold_16 (by decide) ?_
        refine gx_icmp_gt (tgt := 43) C dX2_valueTold_19 (by decide) (fun h2 => ?_) (fun h2 => ?_)
        ·
          refine gx_iload_n C dX2_valueTold_43 (by rfl) (by rfl) ?_
          exact gx_iret C hr hlk rfl ⟨rfl, by first | exact qvv_en (by assumption) (by omega) | rw [show n = e1 - s0 by omega]⟩ dX2_valueTold_44
        ·
          refine gx_iload_n C dX2_valueTold_22 (by rfl) (by rfl) ?_
          refine gx_bipush (v := 10) C dX2_valueTold_23 (by decide) ?_
          refine gx_imul C dX2_valueTold_25 ?_
          refine gx_aload_n C dX2_valueTold_26 (by rfl) (by rfl) ?_
          refine gx_getr (j := 4) (k := 0) C ck2 (by rfl) (by rfl) (by decide) fl_X2_9 dX2_valueTold_27 ?_
          refine gx_iload_n C dX2_valueTold_30 (by rfl) (by rfl) ?_
          refine gx_ialdN (k := (s0 + n)) C (by rfl) rfl (by omega) (by decide) dX2_valueTold_31 ?_
          refine gx_st (st' := [.int (B (s0 + n)), .int ((qvv B s0 n) * 10)]) (by rw [(Tp.ts hT).2.2 (s0 + n) (by omega)]) ?_
          refine gx_iadd C dX2_valueTold_32 ?_
          refine gx_bipush (v := 48) C dX2_valueTold_33 (by decide) ?_
          refine gx_isub C dX2_valueTold_35 ?_
          refine gx_istore_n (lv2 := [(1, .int ((((qvv B s0 n) * 10) + (B (s0 + n))) - 48)), (0, .ref (eA E 3)), (2, .int (nI (s0 + n)))]) C dX2_valueTold_36 (by rfl) (by decide) rfl ?_
          refine gx_iinc (v := nI (s0 + n + 1)) (lv2 := [(2, .int (nI (s0 + n + 1))), (1, .int ((((qvv B s0 n) * 10) + (B (s0 + n))) - 48)), (0, .ref (eA E 3))]) C dX2_valueTold_37 (by rfl) (by exact nI_p1 _) (by decide) rfl ?_
          refine gx_goto (tgt := 7) C dX2_valueTold_40 (by decide) ?_
          refine gx_sub [2, 1, 0] (lv' := [(0, .ref (eA E 3)), (1, .int ((((qvv B s0 n) * 10) + (B (s0 + n))) - 48)), (2, .int (nI (s0 + n + 1)))]) rfl ?_
          refine gx_lv (lv' := [(0, .ref (eA E 3)), (1, .int (qvv B s0 (n + 1))), (2, .int (nI (s0 + (n + 1))))]) (by rw [qvv, if_neg (by assumption)]; rfl) ?_
          exact ih7 (n + 1) (by omega) (by omega)
  refine gx_sub [2, 1, 0] (lv' := [(0, .ref (eA E 3)), (1, .int 0), (2, .int (nI s0))]) rfl ?_
  refine gx_lv (lv' := [(0, .ref (eA E 3)), (1, .int (qvv B s0 0)), (2, .int (nI (s0 + 0)))]) (by rfl) ?_
  exact loop7 (e1 + 1) 0 (by omega) (by omega)
set_option maxHeartbeats 4000000 in
set_option maxRecDepth 100000 in
theorem c_X2_next (E : En) (σ : Mm) (B : Nat → Int32) (t : Nat) (hT : Tp σ B t) (a1 : Int32) (i : Nat) (hi : i ≤ t) (c1 d1 : Int32) : CtV E yX2_next cX2_next 2 none 1 22 [.ref (eA E 3)] (ts σ a1 (nI i) c1 d1) (fun σ2 => σ2 = tk σ B t i) := by
  have ht := hT.2.1
  refine CtV.of (by decide +kernel) (Nat.le_of_ble_eq_true rfl) (fun p e0 s m below meth c C hr hlk => ?_)
  refine gx_lv (lv' := [(0, .ref (eA E 3))]) rfl ?_
  refine gx_aload_n C dX2_next_0 (by rfl) (by rfl) ?_
  refine gx_aload_n C dX2_next_1 (by rfl) (by rfl) ?_
  refine gx_geti (k := 3) C ck2 (by rfl) (by rfl) (by decide) fl_X2_15 dX2_next_2 ?_
  refine gx_st (st' := [.int (nI i), .ref (eA E 3)]) (by rw [ts_3]) ?_
  refine gx_puti (k := 2) C ck2 (by rfl) (by rfl) (by decide) (by rfl) rfl rfl fl_X2_29 dX2_next_5 ?_
  refine gx_mm (σ' := ts σ (nI i) (nI i) c1 d1) ts_w2 ?_
  have loop8 : ∀ (f : Nat) (s0 : Nat), t + 1 ≤ s0 + f → s0 ≤ t → qS B t s0 = qS B t i → Gx E p e0 (rmF 1 22) s m ([.ref (eA E 3)] : List Value).toArray below meth c (MQ below (va_Qv (fun σ2 => σ2 = tk σ B t i) (WQ E) (AA E s.heap.size)) ([.ref (eA E 3)] : List Value).toArray s 0 0 (AA E s.heap.size)) 2 8 [(0, .ref (eA E 3))] [] (ts σ (nI s0) (nI i) c1 d1) := by
    intro f
    induction f with
    | zero => intro s0 hf hs0 hq; exact absurd hf (by omega)
    | succ f ih8 =>
      intro s0 hf hs0 hq
      refine gx_aload_n C dX2_next_8 (by rfl) (by rfl) ?_
      refine gx_geti (k := 2) C ck2 (by rfl) (by rfl) (by decide) fl_X2_29 dX2_next_9 ?_
      refine gx_st (st' := [.int (nI s0)]) (by rw [ts_2]) ?_
      refine gx_aload_n C dX2_next_12 (by rfl) (by rfl) ?_
      refine gx_geti (k := 1) C ck2 (by rfl) (by rfl) (by decide) fl_X2_151 dX2_next_13 ?_
      refine gx_st (st' := [.int (nI t), .int (nI s0)]) (by rw [(Tp.ts hT).1]) ?_
      refine gx_icmp_ge (tgt := 46) C dX2_next_16 (by decide) (fun h1 => ?_) (fun h1 => ?_)
      ·
        have h1 := (nI_leI (a := t) (b := s0) (by omega) (by omega)).mp h1
        have hs : qS B t i = s0 := by rw [← hq, qS_e (fun q9 => by first | omega | exact absurd q9.2 (by assumption))]
        have hq4 : qk B t s0 ≤ 4 := qk_le
        have hk : qK B t i = qk B t s0 := by unfold qK; rw [hs]
        refine gx_aload_n C dX2_next_46 (by rfl) (by rfl) ?_
        refine gx_aload_n C dX2_next_47 (by rfl) (by rfl) ?_
        refine gx_aload_n C dX2_next_48 (by rfl) (by rfl) ?_
        refine gx_geti (k := 2) C ck2 (by rfl) (by rfl) (by decide) fl_X2_29 dX2_next_49 ?_
        refine gx_st (st' := [.int (nI s0), .ref (eA E 3), .ref (eA E 3)]) (by rw [ts_2]) ?_
        refine gx_callVI (As := [.int (nI s0)]) (rest := [.ref (eA E 3)]) C (c_X2_sortAt E (ts σ (nI s0) (nI i) c1 d1) B t (Tp.ts hT) s0 (by omega)) z_X2_sortAt ck2 (by rfl) (by rfl) ml_X2_153 (by rfl) (Nat.le_of_ble_eq_true rfl) ⟨Nat.le_of_ble_eq_true rfl, Nat.le_of_ble_eq_true rfl⟩ dX2_next_52 (fun r2 σ2 w2 => ?_)
        obtain ⟨u1, u2⟩ := w2; rw [u1, u2]; clear u1 u2
        refine gx_puti (k := 4) C ck2 (by rfl) (by rfl) (by decide) (by rfl) rfl rfl fl_X2_26 dX2_next_55 ?_
        refine gx_mm (σ' := ts σ (nI s0) (nI i) (nI (qk B t s0)) d1) ts_w4 ?_
        refine gx_aload_n C dX2_next_58 (by rfl) (by rfl) ?_
        refine gx_aload_n C dX2_next_59 (by rfl) (by rfl) ?_
        refine gx_geti (k := 2) C ck2 (by rfl) (by rfl) (by decide) fl_X2_29 dX2_next_60 ?_
        refine gx_st (st' := [.int (nI s0), .ref (eA E 3)]) (by rw [ts_2]) ?_
        refine gx_iconst (v := 1) C dX2_next_63 (by decide) ?_
        refine gx_iadd C dX2_next_64 ?_
        refine gx_st (st' := [.int (nI (s0 + 1)), .ref (eA E 3)]) (by rw [show (nI s0) + 1 = nI (s0 + 1) from nI_add s0 1]) ?_
        refine gx_aload_n C dX2_next_65 (by rfl) (by rfl) ?_
        refine gx_geti (k := 1) C ck2 (by rfl) (by rfl) (by decide) fl_X2_151 dX2_next_66 ?_
        refine gx_st (st' := [.int (nI t), .int (nI (s0 + 1)), .ref (eA E 3)]) (by rw [(Tp.ts hT).1]) ?_
        refine gx_min C ml_X2_156 (Nat.le_of_ble_eq_true rfl) (Nat.le_of_ble_eq_true rfl) dX2_next_69 ?_
        obtain ⟨e1, he1⟩ : ∃ e1, e1 = if s0 < t then s0 + 1 else t := ⟨_, rfl⟩
        have he2 : s0 ≤ e1 ∧ e1 ≤ t := by rw [he1]; split <;> omega
        refine gx_st (st' := [.int (nI e1), .ref (eA E 3)]) (by rw [show (if (nI t) < (nI (s0 + 1)) then (nI t) else (nI (s0 + 1))) = nI e1 from (qmin (by omega) (by omega)).trans (by rw [← he1])]) ?_
        refine gx_puti (k := 3) C ck2 (by rfl) (by rfl) (by decide) (by rfl) rfl rfl fl_X2_15 dX2_next_72 ?_
        refine gx_mm (σ' := ts σ (nI s0) (nI e1) (nI (qk B t s0)) d1) ts_w3 ?_
        refine gx_aload_n C dX2_next_75 (by rfl) (by rfl) ?_
        refine gx_geti (k := 4) C ck2 (by rfl) (by rfl) (by decide) fl_X2_26 dX2_next_76 ?_
        refine gx_st (st' := [.int (nI (qk B t s0))]) (by rw [ts_4]) ?_
        refine gx_iconst (v := 1) C dX2_next_79 (by decide) ?_
        refine gx_icmp_eq (tgt := 91) C dX2_next_80 (by decide) (fun h3 => ?_) (fun h3 => ?_)
        ·
          have h3 := (nI_eq (a := (qk B t s0)) (b := 1) (by omega) (by omega)).mp h3
          refine gx_iconst (v := 1) C dX2_next_91 (by decide) ?_
          refine gx_goto (tgt := 96) C dX2_next_92 (by decide) ?_
          refine gx_istore_n (lv2 := [(1, .int 1), (0, .ref (eA E 3))]) C dX2_next_96 (by rfl) (by decide) rfl ?_
          have hsl : s0 < t := qk_lt (show ¬ qk B t s0 = 0 by omega)
          have he3 : e1 = s0 + 1 := by rw [he1, if_pos hsl]
          have loop97 : ∀ (g : Nat) (j : Nat), t + 1 ≤ j + g → j ≤ t → s0 < j → qX B t (qk B t s0) j = qE B t i → Gx E p e0 (rmF 1 22) s m ([.ref (eA E 3)] : List Value).toArray below meth c (MQ below (va_Qv (fun σ2 => σ2 = tk σ B t i) (WQ E) (AA E s.heap.size)) ([.ref (eA E 3)] : List Value).toArray s 0 0 (AA E s.heap.size)) 2 97 [(0, .ref (eA E 3)), (1, .int 1)] [] (ts σ (nI s0) (nI j) (nI (qk B t s0)) d1) := by
            intro g
            induction g with
            | zero => intro j hg hj hsj hX; exact absurd hg (by omega)
            | succ g ih97 =>
              intro j hg hj hsj hX
              have hj4 : qk B t j ≤ 4 := qk_le
              refine gx_iload_n C dX2_next_97 (by rfl) (by rfl) ?_
              refine gx_if_eq (tgt := 140) C dX2_next_98 (by decide) (fun h4 => ?_) (fun h4 => ?_)
              ·
                exact absurd h4 (by decide)
              ·
                clear h4
                refine gx_aload_n C dX2_next_101 (by rfl) (by rfl) ?_
                refine gx_geti (k := 3) C ck2 (by rfl) (by rfl) (by decide) fl_X2_15 dX2_next_102 ?_
                refine gx_st (st' := [.int (nI j)]) (by rw [ts_3]) ?_
                refine gx_aload_n C dX2_next_105 (by rfl) (by rfl) ?_
                refine gx_geti (k := 1) C ck2 (by rfl) (by rfl) (by decide) fl_X2_151 dX2_next_106 ?_
                refine gx_st (st' := [.int (nI t), .int (nI j)]) (by rw [(Tp.ts hT).1]) ?_
                refine gx_icmp_ge (tgt := 140) C dX2_next_109 (by decide) (fun h5 => ?_) (fun h5 => ?_)
                ·
                  have h5 := (nI_leI (a := t) (b := j) (by omega) (by omega)).mp h5
                  have he : qE B t i = j := by rw [← hX, qX_e (fun q9 => by first | exact absurd q9 (by assumption) | (have := qk_lt (show ¬ qk B t j = 0 by omega); omega))]
                  refine gx_aload_n C dX2_next_140 (by rfl) (by rfl) ?_
                  refine gx_aload_n C dX2_next_141 (by rfl) (by rfl) ?_
                  refine gx_geti (k := 4) C ck2 (by rfl) (by rfl) (by decide) fl_X2_26 dX2_next_142 ?_
                  refine gx_st (st' := [.int (nI (qk B t s0)), .ref (eA E 3)]) (by rw [ts_4]) ?_
                  refine gx_iconst (v := 2) C dX2_next_145 (by decide) ?_
                  refine gx_icmp_ne (tgt := 156) C dX2_next_146 (by decide) (fun h6 => ?_) (fun h6 => ?_)
                  ·
                    have h6 := (not_congr (nI_eq (a := (qk B t s0)) (b := 2) (by omega) (by omega))).mp h6
                    refine gx_iconst (v := 0) C dX2_next_156 (by decide) ?_
                    refine gx_puti (k := 5) C ck2 (by rfl) (by rfl) (by decide) (by rfl) rfl rfl fl_X2_82 dX2_next_157 ?_
                    refine gx_mm (σ' := ts σ (nI s0) (nI j) (nI (qk B t s0)) 0) ts_w5 ?_
                    exact gx_vret C hr hlk (tk_mk hs he hk (by first | (exfalso; omega) | (unfold qV; rw [if_pos (by omega), hs, he]) | (unfold qV; rw [if_neg (by omega)]))) dX2_next_160
                  ·
                    have h6 := (nI_eq (a := (qk B t s0)) (b := 2) (by omega) (by omega)).mp h6
                    refine gx_aload_n C dX2_next_149 (by rfl) (by rfl) ?_
                    refine gx_callVI (As := []) (rest := [.ref (eA E 3)]) C (c_X2_valueTold E σ B t hT s0 j (by omega) (by omega) (nI (qk B t s0)) d1) z_X2_valueTold ck2 (by rfl) (by rfl) ml_X2_161 (by rfl) (Nat.le_of_ble_eq_true rfl) ⟨Nat.le_of_ble_eq_true rfl, Nat.le_of_ble_eq_true rfl⟩ dX2_next_150 (fun r7 σ7 w7 => ?_)
                    obtain ⟨u1, u2⟩ := w7; rw [u1, u2]; clear u1 u2
                    refine gx_goto (tgt := 157) C dX2_next_153 (by decide) ?_
                    refine gx_puti (k := 5) C ck2 (by rfl) (by rfl) (by decide) (by rfl) rfl rfl fl_X2_82 dX2_next_157 ?_
                    refine gx_mm (σ' := ts σ (nI s0) (nI j) (nI (qk B t s0)) (qvv B s0 (j - s0))) ts_w5 ?_
                    exact gx_vret C hr hlk (tk_mk hs he hk (by first | (exfalso; omega) | (unfold qV; rw [if_pos (by omega), hs, he]) | (unfold qV; rw [if_neg (by omega)]))) dX2_next_160
                ·
                  have h5 := (not_congr (nI_leI (a := t) (b := j) (by omega) (by omega))).mp h5
                  refine gx_aload_n C dX2_next_112 (by rfl) (by rfl) ?_
                  refine gx_aload_n C dX2_next_113 (by rfl) (by rfl) ?_
                  refine gx_geti (k := 3) C ck2 (by rfl) (by rfl) (by decide) fl_X2_15 dX2_next_114 ?_
                  refine gx_st (st' := [.int (nI j), .ref (eA E 3)]) (by rw [ts_3]) ?_
                  refine gx_callVI (As := [.int (nI j)]) (rest := []) C (c_X2_sortAt E (ts σ (nI s0) (nI j) (nI (qk B t s0)) d1) B t (Tp.ts hT) j (by omega)) z_X2_sortAt ck2 (by rfl) (by rfl) ml_X2_153 (by rfl) (Nat.le_of_ble_eq_true rfl) ⟨Nat.le_of_ble_eq_true rfl, Nat.le_of_ble_eq_true rfl⟩ dX2_next_117 (fun r8 σ8 w8 => ?_)
                  obtain ⟨u1, u2⟩ := w8; rw [u1, u2]; clear u1 u2
                  refine gx_aload_n C dX2_next_120 (by rfl) (by rfl) ?_
                  refine gx_geti (k := 4) C ck2 (by rfl) (by rfl) (by decide) fl_X2_26 dX2_next_121 ?_
                  refine gx_st (st' := [.int (nI (qk B t s0)), .int (nI (qk B t j))]) (by rw [ts_4]) ?_
                  refine gx_icmp_ne (tgt := 140) C dX2_next_124 (by decide) (fun h9 => ?_) (fun h9 => ?_)
                  ·
                    have h9 := (not_congr (nI_eq (a := (qk B t j)) (b := (qk B t s0)) (by omega) (by omega))).mp h9
                    have he : qE B t i = j := by rw [← hX, qX_e (fun q9 => by first | exact absurd q9 (by assumption) | (have := qk_lt (show ¬ qk B t j = 0 by omega); omega))]
                    refine gx_aload_n C dX2_next_140 (by rfl) (by rfl) ?_
                    refine gx_aload_n C dX2_next_141 (by rfl) (by rfl) ?_
                    refine gx_geti (k := 4) C ck2 (by rfl) (by rfl) (by decide) fl_X2_26 dX2_next_142 ?_
                    refine gx_st (st' := [.int (nI (qk B t s0)), .ref (eA E 3)]) (by rw [ts_4]) ?_
                    refine gx_iconst (v := 2) C dX2_next_145 (by decide) ?_
                    refine gx_icmp_ne (tgt := 156) C dX2_next_146 (by decide) (fun h10 => ?_) (fun h10 => ?_)
                    ·
                      have h10 := (not_congr (nI_eq (a := (qk B t s0)) (b := 2) (by omega) (by omega))).mp h10
                      refine gx_iconst (v := 0) C dX2_next_156 (by decide) ?_
                      refine gx_puti (k := 5) C ck2 (by rfl) (by rfl) (by decide) (by rfl) rfl rfl fl_X2_82 dX2_next_157 ?_
                      refine gx_mm (σ' := ts σ (nI s0) (nI j) (nI (qk B t s0)) 0) ts_w5 ?_
                      exact gx_vret C hr hlk (tk_mk hs he hk (by first | (exfalso; omega) | (unfold qV; rw [if_pos (by omega), hs, he]) | (unfold qV; rw [if_neg (by omega)]))) dX2_next_160
                    ·
                      have h10 := (nI_eq (a := (qk B t s0)) (b := 2) (by omega) (by omega)).mp h10
                      refine gx_aload_n C dX2_next_149 (by rfl) (by rfl) ?_
                      refine gx_callVI (As := []) (rest := [.ref (eA E 3)]) C (c_X2_valueTold E σ B t hT s0 j (by omega) (by omega) (nI (qk B t s0)) d1) z_X2_valueTold ck2 (by rfl) (by rfl) ml_X2_161 (by rfl) (Nat.le_of_ble_eq_true rfl) ⟨Nat.le_of_ble_eq_true rfl, Nat.le_of_ble_eq_true rfl⟩ dX2_next_150 (fun r11 σ11 w11 => ?_)
                      obtain ⟨u1, u2⟩ := w11; rw [u1, u2]; clear u1 u2
                      refine gx_goto (tgt := 157) C dX2_next_153 (by decide) ?_
                      refine gx_puti (k := 5) C ck2 (by rfl) (by rfl) (by decide) (by rfl) rfl rfl fl_X2_82 dX2_next_157 ?_
                      refine gx_mm (σ' := ts σ (nI s0) (nI j) (nI (qk B t s0)) (qvv B s0 (j - s0))) ts_w5 ?_
                      exact gx_vret C hr hlk (tk_mk hs he hk (by first | (exfalso; omega) | (unfold qV; rw [if_pos (by omega), hs, he]) | (unfold qV; rw [if_neg (by omega)]))) dX2_next_160
                  ·
                    have h9 := (nI_eq (a := (qk B t j)) (b := (qk B t s0)) (by omega) (by omega)).mp h9
                    refine gx_aload_n C dX2_next_127 (by rfl) (by rfl) ?_
                    refine gx_dup C (by rfl) dX2_next_128 ?_
                    refine gx_geti (k := 3) C ck2 (by rfl) (by rfl) (by decide) fl_X2_15 dX2_next_129 ?_
                    refine gx_st (st' := [.int (nI j), .ref (eA E 3)]) (by rw [ts_3]) ?_
                    refine gx_iconst (v := 1) C dX2_next_132 (by decide) ?_
                    refine gx_iadd C dX2_next_133 ?_
                    refine gx_st (st' := [.int (nI (j + 1)), .ref (eA E 3)]) (by rw [show (nI j) + 1 = nI (j + 1) from nI_add j 1]) ?_
                    refine gx_puti (k := 3) C ck2 (by rfl) (by rfl) (by decide) (by rfl) rfl rfl fl_X2_15 dX2_next_134 ?_
                    refine gx_mm (σ' := ts σ (nI s0) (nI (j + 1)) (nI (qk B t s0)) d1) ts_w3 ?_
                    refine gx_goto (tgt := 97) C dX2_next_137 (by decide) ?_
                    exact ih97 (j + 1) (by omega) (by omega) (by omega) ((qX_s (by omega) (by assumption)).symm.trans hX)
          refine gx_sub [1, 0] (lv' := [(0, .ref (eA E 3)), (1, .int 1)]) rfl ?_
          exact loop97 (t + 1) e1 (by omega) (by omega) (by omega) (by rw [he3, qE_12 (by omega), hk, hs])
        ·
          have h3 := (not_congr (nI_eq (a := (qk B t s0)) (b := 1) (by omega) (by omega))).mp h3
          refine gx_aload_n C dX2_next_83 (by rfl) (by rfl) ?_
          refine gx_geti (k := 4) C ck2 (by rfl) (by rfl) (by decide) fl_X2_26 dX2_next_84 ?_
          refine gx_st (st' := [.int (nI (qk B t s0))]) (by rw [ts_4]) ?_
          refine gx_iconst (v := 2) C dX2_next_87 (by decide) ?_
          refine gx_icmp_ne (tgt := 95) C dX2_next_88 (by decide) (fun h12 => ?_) (fun h12 => ?_)
          ·
            have h12 := (not_congr (nI_eq (a := (qk B t s0)) (b := 2) (by omega) (by omega))).mp h12
            refine gx_iconst (v := 0) C dX2_next_95 (by decide) ?_
            refine gx_istore_n (lv2 := [(1, .int 0), (0, .ref (eA E 3))]) C dX2_next_96 (by rfl) (by decide) rfl ?_
            refine gx_iload_n C dX2_next_97 (by rfl) (by rfl) ?_
            refine gx_if_eq (tgt := 140) C dX2_next_98 (by decide) (fun h13 => ?_) (fun h13 => ?_)
            ·
              clear h13
              have he : qE B t i = e1 := by
                by_cases h9 : qk B t s0 = 0
                · rw [qE_0 (by omega), hs, he1, if_neg (by have := qk_0 h9; omega)]; have := qk_0 h9; omega
                · rw [qE_34 (by omega) (by omega), hs, he1, if_pos (qk_lt h9)]
              refine gx_aload_n C dX2_next_140 (by rfl) (by rfl) ?_
              refine gx_aload_n C dX2_next_141 (by rfl) (by rfl) ?_
              refine gx_geti (k := 4) C ck2 (by rfl) (by rfl) (by decide) fl_X2_26 dX2_next_142 ?_
              refine gx_st (st' := [.int (nI (qk B t s0)), .ref (eA E 3)]) (by rw [ts_4]) ?_
              refine gx_iconst (v := 2) C dX2_next_145 (by decide) ?_
              refine gx_icmp_ne (tgt := 156) C dX2_next_146 (by decide) (fun h14 => ?_) (fun h14 => ?_)
              ·
                have h14 := (not_congr (nI_eq (a := (qk B t s0)) (b := 2) (by omega) (by omega))).mp h14
                refine gx_iconst (v := 0) C dX2_next_156 (by decide) ?_
                refine gx_puti (k := 5) C ck2 (by rfl) (by rfl) (by decide) (by rfl) rfl rfl fl_X2_82 dX2_next_157 ?_
                refine gx_mm (σ' := ts σ (nI s0) (nI e1) (nI (qk B t s0)) 0) ts_w5 ?_
                exact gx_vret C hr hlk (tk_mk hs he hk (by first | (exfalso; omega) | (unfold qV; rw [if_pos (by omega), hs, he]) | (unfold qV; rw [if_neg (by omega)]))) dX2_next_160
              ·
                have h14 := (nI_eq (a := (qk B t s0)) (b := 2) (by omega) (by omega)).mp h14
                refine gx_aload_n C dX2_next_149 (by rfl) (by rfl) ?_
                refine gx_callVI (As := []) (rest := [.ref (eA E 3)]) C (c_X2_valueTold E σ B t hT s0 e1 (by omega) (by omega) (nI (qk B t s0)) d1) z_X2_valueTold ck2 (by rfl) (by rfl) ml_X2_161 (by rfl) (Nat.le_of_ble_eq_true rfl) ⟨Nat.le_of_ble_eq_true rfl, Nat.le_of_ble_eq_true rfl⟩ dX2_next_150 (fun r15 σ15 w15 => ?_)
                obtain ⟨u1, u2⟩ := w15; rw [u1, u2]; clear u1 u2
                refine gx_goto (tgt := 157) C dX2_next_153 (by decide) ?_
                refine gx_puti (k := 5) C ck2 (by rfl) (by rfl) (by decide) (by rfl) rfl rfl fl_X2_82 dX2_next_157 ?_
                refine gx_mm (σ' := ts σ (nI s0) (nI e1) (nI (qk B t s0)) (qvv B s0 (e1 - s0))) ts_w5 ?_
                exact gx_vret C hr hlk (tk_mk hs he hk (by first | (exfalso; omega) | (unfold qV; rw [if_pos (by omega), hs, he]) | (unfold qV; rw [if_neg (by omega)]))) dX2_next_160
            ·
              exact absurd h13 (by decide)
          ·
            have h12 := (nI_eq (a := (qk B t s0)) (b := 2) (by omega) (by omega)).mp h12
            refine gx_iconst (v := 1) C dX2_next_91 (by decide) ?_
            refine gx_goto (tgt := 96) C dX2_next_92 (by decide) ?_
            refine gx_istore_n (lv2 := [(1, .int 1), (0, .ref (eA E 3))]) C dX2_next_96 (by rfl) (by decide) rfl ?_
            have hsl : s0 < t := qk_lt (show ¬ qk B t s0 = 0 by omega)
            have he3 : e1 = s0 + 1 := by rw [he1, if_pos hsl]
            have loop97 : ∀ (g : Nat) (j : Nat), t + 1 ≤ j + g → j ≤ t → s0 < j → qX B t (qk B t s0) j = qE B t i → Gx E p e0 (rmF 1 22) s m ([.ref (eA E 3)] : List Value).toArray below meth c (MQ below (va_Qv (fun σ2 => σ2 = tk σ B t i) (WQ E) (AA E s.heap.size)) ([.ref (eA E 3)] : List Value).toArray s 0 0 (AA E s.heap.size)) 2 97 [(0, .ref (eA E 3)), (1, .int 1)] [] (ts σ (nI s0) (nI j) (nI (qk B t s0)) d1) := by
              intro g
              induction g with
              | zero => intro j hg hj hsj hX; exact absurd hg (by omega)
              | succ g ih97 =>
                intro j hg hj hsj hX
                have hj4 : qk B t j ≤ 4 := qk_le
                refine gx_iload_n C dX2_next_97 (by rfl) (by rfl) ?_
                refine gx_if_eq (tgt := 140) C dX2_next_98 (by decide) (fun h16 => ?_) (fun h16 => ?_)
                ·
                  exact absurd h16 (by decide)
                ·
                  clear h16
                  refine gx_aload_n C dX2_next_101 (by rfl) (by rfl) ?_
                  refine gx_geti (k := 3) C ck2 (by rfl) (by rfl) (by decide) fl_X2_15 dX2_next_102 ?_
                  refine gx_st (st' := [.int (nI j)]) (by rw [ts_3]) ?_
                  refine gx_aload_n C dX2_next_105 (by rfl) (by rfl) ?_
                  refine gx_geti (k := 1) C ck2 (by rfl) (by rfl) (by decide) fl_X2_151 dX2_next_106 ?_
                  refine gx_st (st' := [.int (nI t), .int (nI j)]) (by rw [(Tp.ts hT).1]) ?_
                  refine gx_icmp_ge (tgt := 140) C dX2_next_109 (by decide) (fun h17 => ?_) (fun h17 => ?_)
                  ·
                    have h17 := (nI_leI (a := t) (b := j) (by omega) (by omega)).mp h17
                    have he : qE B t i = j := by rw [← hX, qX_e (fun q9 => by first | exact absurd q9 (by assumption) | (have := qk_lt (show ¬ qk B t j = 0 by omega); omega))]
                    refine gx_aload_n C dX2_next_140 (by rfl) (by rfl) ?_
                    refine gx_aload_n C dX2_next_141 (by rfl) (by rfl) ?_
                    refine gx_geti (k := 4) C ck2 (by rfl) (by rfl) (by decide) fl_X2_26 dX2_next_142 ?_
                    refine gx_st (st' := [.int (nI (qk B t s0)), .ref (eA E 3)]) (by rw [ts_4]) ?_
                    refine gx_iconst (v := 2) C dX2_next_145 (by decide) ?_
                    refine gx_icmp_ne (tgt := 156) C dX2_next_146 (by decide) (fun h18 => ?_) (fun h18 => ?_)
                    ·
                      have h18 := (not_congr (nI_eq (a := (qk B t s0)) (b := 2) (by omega) (by omega))).mp h18
                      refine gx_iconst (v := 0) C dX2_next_156 (by decide) ?_
                      refine gx_puti (k := 5) C ck2 (by rfl) (by rfl) (by decide) (by rfl) rfl rfl fl_X2_82 dX2_next_157 ?_
                      refine gx_mm (σ' := ts σ (nI s0) (nI j) (nI (qk B t s0)) 0) ts_w5 ?_
                      exact gx_vret C hr hlk (tk_mk hs he hk (by first | (exfalso; omega) | (unfold qV; rw [if_pos (by omega), hs, he]) | (unfold qV; rw [if_neg (by omega)]))) dX2_next_160
                    ·
                      have h18 := (nI_eq (a := (qk B t s0)) (b := 2) (by omega) (by omega)).mp h18
                      refine gx_aload_n C dX2_next_149 (by rfl) (by rfl) ?_
                      refine gx_callVI (As := []) (rest := [.ref (eA E 3)]) C (c_X2_valueTold E σ B t hT s0 j (by omega) (by omega) (nI (qk B t s0)) d1) z_X2_valueTold ck2 (by rfl) (by rfl) ml_X2_161 (by rfl) (Nat.le_of_ble_eq_true rfl) ⟨Nat.le_of_ble_eq_true rfl, Nat.le_of_ble_eq_true rfl⟩ dX2_next_150 (fun r19 σ19 w19 => ?_)
                      obtain ⟨u1, u2⟩ := w19; rw [u1, u2]; clear u1 u2
                      refine gx_goto (tgt := 157) C dX2_next_153 (by decide) ?_
                      refine gx_puti (k := 5) C ck2 (by rfl) (by rfl) (by decide) (by rfl) rfl rfl fl_X2_82 dX2_next_157 ?_
                      refine gx_mm (σ' := ts σ (nI s0) (nI j) (nI (qk B t s0)) (qvv B s0 (j - s0))) ts_w5 ?_
                      exact gx_vret C hr hlk (tk_mk hs he hk (by first | (exfalso; omega) | (unfold qV; rw [if_pos (by omega), hs, he]) | (unfold qV; rw [if_neg (by omega)]))) dX2_next_160
                  ·
                    have h17 := (not_congr (nI_leI (a := t) (b := j) (by omega) (by omega))).mp h17
                    refine gx_aload_n C dX2_next_112 (by rfl) (by rfl) ?_
                    refine gx_aload_n C dX2_next_113 (by rfl) (by rfl) ?_
                    refine gx_geti (k := 3) C ck2 (by rfl) (by rfl) (by decide) fl_X2_15 dX2_next_114 ?_
                    refine gx_st (st' := [.int (nI j), .ref (eA E 3)]) (by rw [ts_3]) ?_
                    refine gx_callVI (As := [.int (nI j)]) (rest := []) C (c_X2_sortAt E (ts σ (nI s0) (nI j) (nI (qk B t s0)) d1) B t (Tp.ts hT) j (by omega)) z_X2_sortAt ck2 (by rfl) (by rfl) ml_X2_153 (by rfl) (Nat.le_of_ble_eq_true rfl) ⟨Nat.le_of_ble_eq_true rfl, Nat.le_of_ble_eq_true rfl⟩ dX2_next_117 (fun r20 σ20 w20 => ?_)
                    obtain ⟨u1, u2⟩ := w20; rw [u1, u2]; clear u1 u2
                    refine gx_aload_n C dX2_next_120 (by rfl) (by rfl) ?_
                    refine gx_geti (k := 4) C ck2 (by rfl) (by rfl) (by decide) fl_X2_26 dX2_next_121 ?_
                    refine gx_st (st' := [.int (nI (qk B t s0)), .int (nI (qk B t j))]) (by rw [ts_4]) ?_
                    refine gx_icmp_ne (tgt := 140) C dX2_next_124 (by decide) (fun h21 => ?_) (fun h21 => ?_)
                    ·
                      have h21 := (not_congr (nI_eq (a := (qk B t j)) (b := (qk B t s0)) (by omega) (by omega))).mp h21
                      have he : qE B t i = j := by rw [← hX, qX_e (fun q9 => by first | exact absurd q9 (by assumption) | (have := qk_lt (show ¬ qk B t j = 0 by omega); omega))]
                      refine gx_aload_n C dX2_next_140 (by rfl) (by rfl) ?_
                      refine gx_aload_n C dX2_next_141 (by rfl) (by rfl) ?_
                      refine gx_geti (k := 4) C ck2 (by rfl) (by rfl) (by decide) fl_X2_26 dX2_next_142 ?_
                      refine gx_st (st' := [.int (nI (qk B t s0)), .ref (eA E 3)]) (by rw [ts_4]) ?_
                      refine gx_iconst (v := 2) C dX2_next_145 (by decide) ?_
                      refine gx_icmp_ne (tgt := 156) C dX2_next_146 (by decide) (fun h22 => ?_) (fun h22 => ?_)
                      ·
                        have h22 := (not_congr (nI_eq (a := (qk B t s0)) (b := 2) (by omega) (by omega))).mp h22
                        refine gx_iconst (v := 0) C dX2_next_156 (by decide) ?_
                        refine gx_puti (k := 5) C ck2 (by rfl) (by rfl) (by decide) (by rfl) rfl rfl fl_X2_82 dX2_next_157 ?_
                        refine gx_mm (σ' := ts σ (nI s0) (nI j) (nI (qk B t s0)) 0) ts_w5 ?_
                        exact gx_vret C hr hlk (tk_mk hs he hk (by first | (exfalso; omega) | (unfold qV; rw [if_pos (by omega), hs, he]) | (unfold qV; rw [if_neg (by omega)]))) dX2_next_160
                      ·
                        have h22 := (nI_eq (a := (qk B t s0)) (b := 2) (by omega) (by omega)).mp h22
                        refine gx_aload_n C dX2_next_149 (by rfl) (by rfl) ?_
                        refine gx_callVI (As := []) (rest := [.ref (eA E 3)]) C (c_X2_valueTold E σ B t hT s0 j (by omega) (by omega) (nI (qk B t s0)) d1) z_X2_valueTold ck2 (by rfl) (by rfl) ml_X2_161 (by rfl) (Nat.le_of_ble_eq_true rfl) ⟨Nat.le_of_ble_eq_true rfl, Nat.le_of_ble_eq_true rfl⟩ dX2_next_150 (fun r23 σ23 w23 => ?_)
                        obtain ⟨u1, u2⟩ := w23; rw [u1, u2]; clear u1 u2
                        refine gx_goto (tgt := 157) C dX2_next_153 (by decide) ?_
                        refine gx_puti (k := 5) C ck2 (by rfl) (by rfl) (by decide) (by rfl) rfl rfl fl_X2_82 dX2_next_157 ?_
                        refine gx_mm (σ' := ts σ (nI s0) (nI j) (nI (qk B t s0)) (qvv B s0 (j - s0))) ts_w5 ?_
                        exact gx_vret C hr hlk (tk_mk hs he hk (by first | (exfalso; omega) | (unfold qV; rw [if_pos (by omega), hs, he]) | (unfold qV; rw [if_neg (by omega)]))) dX2_next_160
                    ·
                      have h21 := (nI_eq (a := (qk B t j)) (b := (qk B t s0)) (by omega) (by omega)).mp h21
                      refine gx_aload_n C dX2_next_127 (by rfl) (by rfl) ?_
                      refine gx_dup C (by rfl) dX2_next_128 ?_
                      refine gx_geti (k := 3) C ck2 (by rfl) (by rfl) (by decide) fl_X2_15 dX2_next_129 ?_
                      refine gx_st (st' := [.int (nI j), .ref (eA E 3)]) (by rw [ts_3]) ?_
                      refine gx_iconst (v := 1) C dX2_next_132 (by decide) ?_
                      refine gx_iadd C dX2_next_133 ?_
                      refine gx_st (st' := [.int (nI (j + 1)), .ref (eA E 3)]) (by rw [show (nI j) + 1 = nI (j + 1) from nI_add j 1]) ?_
                      refine gx_puti (k := 3) C ck2 (by rfl) (by rfl) (by decide) (by rfl) rfl rfl fl_X2_15 dX2_next_134 ?_
                      refine gx_mm (σ' := ts σ (nI s0) (nI (j + 1)) (nI (qk B t s0)) d1) ts_w3 ?_
                      refine gx_goto (tgt := 97) C dX2_next_137 (by decide) ?_
                      exact ih97 (j + 1) (by omega) (by omega) (by omega) ((qX_s (by omega) (by assumption)).symm.trans hX)
            refine gx_sub [1, 0] (lv' := [(0, .ref (eA E 3)), (1, .int 1)]) rfl ?_
            exact loop97 (t + 1) e1 (by omega) (by omega) (by omega) (by rw [he3, qE_12 (by omega), hk, hs])
      ·
        have h1 := (not_congr (nI_leI (a := t) (b := s0) (by omega) (by omega))).mp h1
        refine gx_aload_n C dX2_next_19 (by rfl) (by rfl) ?_
        refine gx_getr (j := 4) (k := 0) C ck2 (by rfl) (by rfl) (by decide) fl_X2_9 dX2_next_20 ?_
        refine gx_aload_n C dX2_next_23 (by rfl) (by rfl) ?_
        refine gx_geti (k := 2) C ck2 (by rfl) (by rfl) (by decide) fl_X2_29 dX2_next_24 ?_
        refine gx_st (st' := [.int (nI s0), .ref (eA E 4)]) (by rw [ts_2]) ?_
        refine gx_ialdN (k := s0) C (by rfl) rfl (by omega) (by decide) dX2_next_27 ?_
        refine gx_st (st' := [.int (B s0)]) (by rw [(Tp.ts hT).2.2 s0 (by omega)]) ?_
        refine gx_bipush (v := 32) C dX2_next_28 (by decide) ?_
        refine gx_icmp_ne (tgt := 46) C dX2_next_30 (by decide) (fun h24 => ?_) (fun h24 => ?_)
        ·
          have hs : qS B t i = s0 := by rw [← hq, qS_e (fun q9 => by first | omega | exact absurd q9.2 (by assumption))]
          have hq4 : qk B t s0 ≤ 4 := qk_le
          have hk : qK B t i = qk B t s0 := by unfold qK; rw [hs]
          refine gx_aload_n C dX2_next_46 (by rfl) (by rfl) ?_
          refine gx_aload_n C dX2_next_47 (by rfl) (by rfl) ?_
          refine gx_aload_n C dX2_next_48 (by rfl) (by rfl) ?_
          refine gx_geti (k := 2) C ck2 (by rfl) (by rfl) (by decide) fl_X2_29 dX2_next_49 ?_
          refine gx_st (st' := [.int (nI s0), .ref (eA E 3), .ref (eA E 3)]) (by rw [ts_2]) ?_
          refine gx_callVI (As := [.int (nI s0)]) (rest := [.ref (eA E 3)]) C (c_X2_sortAt E (ts σ (nI s0) (nI i) c1 d1) B t (Tp.ts hT) s0 (by omega)) z_X2_sortAt ck2 (by rfl) (by rfl) ml_X2_153 (by rfl) (Nat.le_of_ble_eq_true rfl) ⟨Nat.le_of_ble_eq_true rfl, Nat.le_of_ble_eq_true rfl⟩ dX2_next_52 (fun r25 σ25 w25 => ?_)
          obtain ⟨u1, u2⟩ := w25; rw [u1, u2]; clear u1 u2
          refine gx_puti (k := 4) C ck2 (by rfl) (by rfl) (by decide) (by rfl) rfl rfl fl_X2_26 dX2_next_55 ?_
          refine gx_mm (σ' := ts σ (nI s0) (nI i) (nI (qk B t s0)) d1) ts_w4 ?_
          refine gx_aload_n C dX2_next_58 (by rfl) (by rfl) ?_
          refine gx_aload_n C dX2_next_59 (by rfl) (by rfl) ?_
          refine gx_geti (k := 2) C ck2 (by rfl) (by rfl) (by decide) fl_X2_29 dX2_next_60 ?_
          refine gx_st (st' := [.int (nI s0), .ref (eA E 3)]) (by rw [ts_2]) ?_
          refine gx_iconst (v := 1) C dX2_next_63 (by decide) ?_
          refine gx_iadd C dX2_next_64 ?_
          refine gx_st (st' := [.int (nI (s0 + 1)), .ref (eA E 3)]) (by rw [show (nI s0) + 1 = nI (s0 + 1) from nI_add s0 1]) ?_
          refine gx_aload_n C dX2_next_65 (by rfl) (by rfl) ?_
          refine gx_geti (k := 1) C ck2 (by rfl) (by rfl) (by decide) fl_X2_151 dX2_next_66 ?_
          refine gx_st (st' := [.int (nI t), .int (nI (s0 + 1)), .ref (eA E 3)]) (by rw [(Tp.ts hT).1]) ?_
          refine gx_min C ml_X2_156 (Nat.le_of_ble_eq_true rfl) (Nat.le_of_ble_eq_true rfl) dX2_next_69 ?_
          obtain ⟨e1, he1⟩ : ∃ e1, e1 = if s0 < t then s0 + 1 else t := ⟨_, rfl⟩
          have he2 : s0 ≤ e1 ∧ e1 ≤ t := by rw [he1]; split <;> omega
          refine gx_st (st' := [.int (nI e1), .ref (eA E 3)]) (by rw [show (if (nI t) < (nI (s0 + 1)) then (nI t) else (nI (s0 + 1))) = nI e1 from (qmin (by omega) (by omega)).trans (by rw [← he1])]) ?_
          refine gx_puti (k := 3) C ck2 (by rfl) (by rfl) (by decide) (by rfl) rfl rfl fl_X2_15 dX2_next_72 ?_
          refine gx_mm (σ' := ts σ (nI s0) (nI e1) (nI (qk B t s0)) d1) ts_w3 ?_
          refine gx_aload_n C dX2_next_75 (by rfl) (by rfl) ?_
          refine gx_geti (k := 4) C ck2 (by rfl) (by rfl) (by decide) fl_X2_26 dX2_next_76 ?_
          refine gx_st (st' := [.int (nI (qk B t s0))]) (by rw [ts_4]) ?_
          refine gx_iconst (v := 1) C dX2_next_79 (by decide) ?_
          refine gx_icmp_eq (tgt := 91) C dX2_next_80 (by decide) (fun h26 => ?_) (fun h26 => ?_)
          ·
            have h26 := (nI_eq (a := (qk B t s0)) (b := 1) (by omega) (by omega)).mp h26
            refine gx_iconst (v := 1) C dX2_next_91 (by decide) ?_
            refine gx_goto (tgt := 96) C dX2_next_92 (by decide) ?_
            refine gx_istore_n (lv2 := [(1, .int 1), (0, .ref (eA E 3))]) C dX2_next_96 (by rfl) (by decide) rfl ?_
            have hsl : s0 < t := qk_lt (show ¬ qk B t s0 = 0 by omega)
            have he3 : e1 = s0 + 1 := by rw [he1, if_pos hsl]
            have loop97 : ∀ (g : Nat) (j : Nat), t + 1 ≤ j + g → j ≤ t → s0 < j → qX B t (qk B t s0) j = qE B t i → Gx E p e0 (rmF 1 22) s m ([.ref (eA E 3)] : List Value).toArray below meth c (MQ below (va_Qv (fun σ2 => σ2 = tk σ B t i) (WQ E) (AA E s.heap.size)) ([.ref (eA E 3)] : List Value).toArray s 0 0 (AA E s.heap.size)) 2 97 [(0, .ref (eA E 3)), (1, .int 1)] [] (ts σ (nI s0) (nI j) (nI (qk B t s0)) d1) := by
              intro g
              induction g with
              | zero => intro j hg hj hsj hX; exact absurd hg (by omega)
              | succ g ih97 =>
                intro j hg hj hsj hX
                have hj4 : qk B t j ≤ 4 := qk_le
                refine gx_iload_n C dX2_next_97 (by rfl) (by rfl) ?_
                refine gx_if_eq (tgt := 140) C dX2_next_98 (by decide) (fun h27 => ?_) (fun h27 => ?_)
                ·
                  exact absurd h27 (by decide)
                ·
                  clear h27
                  refine gx_aload_n C dX2_next_101 (by rfl) (by rfl) ?_
                  refine gx_geti (k := 3) C ck2 (by rfl) (by rfl) (by decide) fl_X2_15 dX2_next_102 ?_
                  refine gx_st (st' := [.int (nI j)]) (by rw [ts_3]) ?_
                  refine gx_aload_n C dX2_next_105 (by rfl) (by rfl) ?_
                  refine gx_geti (k := 1) C ck2 (by rfl) (by rfl) (by decide) fl_X2_151 dX2_next_106 ?_
                  refine gx_st (st' := [.int (nI t), .int (nI j)]) (by rw [(Tp.ts hT).1]) ?_
                  refine gx_icmp_ge (tgt := 140) C dX2_next_109 (by decide) (fun h28 => ?_) (fun h28 => ?_)
                  ·
                    have h28 := (nI_leI (a := t) (b := j) (by omega) (by omega)).mp h28
                    have he : qE B t i = j := by rw [← hX, qX_e (fun q9 => by first | exact absurd q9 (by assumption) | (have := qk_lt (show ¬ qk B t j = 0 by omega); omega))]
                    refine gx_aload_n C dX2_next_140 (by rfl) (by rfl) ?_
                    refine gx_aload_n C dX2_next_141 (by rfl) (by rfl) ?_
                    refine gx_geti (k := 4) C ck2 (by rfl) (by rfl) (by decide) fl_X2_26 dX2_next_142 ?_
                    refine gx_st (st' := [.int (nI (qk B t s0)), .ref (eA E 3)]) (by rw [ts_4]) ?_
                    refine gx_iconst (v := 2) C dX2_next_145 (by decide) ?_
                    refine gx_icmp_ne (tgt := 156) C dX2_next_146 (by decide) (fun h29 => ?_) (fun h29 => ?_)
                    ·
                      have h29 := (not_congr (nI_eq (a := (qk B t s0)) (b := 2) (by omega) (by omega))).mp h29
                      refine gx_iconst (v := 0) C dX2_next_156 (by decide) ?_
                      refine gx_puti (k := 5) C ck2 (by rfl) (by rfl) (by decide) (by rfl) rfl rfl fl_X2_82 dX2_next_157 ?_
                      refine gx_mm (σ' := ts σ (nI s0) (nI j) (nI (qk B t s0)) 0) ts_w5 ?_
                      exact gx_vret C hr hlk (tk_mk hs he hk (by first | (exfalso; omega) | (unfold qV; rw [if_pos (by omega), hs, he]) | (unfold qV; rw [if_neg (by omega)]))) dX2_next_160
                    ·
                      have h29 := (nI_eq (a := (qk B t s0)) (b := 2) (by omega) (by omega)).mp h29
                      refine gx_aload_n C dX2_next_149 (by rfl) (by rfl) ?_
                      refine gx_callVI (As := []) (rest := [.ref (eA E 3)]) C (c_X2_valueTold E σ B t hT s0 j (by omega) (by omega) (nI (qk B t s0)) d1) z_X2_valueTold ck2 (by rfl) (by rfl) ml_X2_161 (by rfl) (Nat.le_of_ble_eq_true rfl) ⟨Nat.le_of_ble_eq_true rfl, Nat.le_of_ble_eq_true rfl⟩ dX2_next_150 (fun r30 σ30 w30 => ?_)
                      obtain ⟨u1, u2⟩ := w30; rw [u1, u2]; clear u1 u2
                      refine gx_goto (tgt := 157) C dX2_next_153 (by decide) ?_
                      refine gx_puti (k := 5) C ck2 (by rfl) (by rfl) (by decide) (by rfl) rfl rfl fl_X2_82 dX2_next_157 ?_
                      refine gx_mm (σ' := ts σ (nI s0) (nI j) (nI (qk B t s0)) (qvv B s0 (j - s0))) ts_w5 ?_
                      exact gx_vret C hr hlk (tk_mk hs he hk (by first | (exfalso; omega) | (unfold qV; rw [if_pos (by omega), hs, he]) | (unfold qV; rw [if_neg (by omega)]))) dX2_next_160
                  ·
                    have h28 := (not_congr (nI_leI (a := t) (b := j) (by omega) (by omega))).mp h28
                    refine gx_aload_n C dX2_next_112 (by rfl) (by rfl) ?_
                    refine gx_aload_n C dX2_next_113 (by rfl) (by rfl) ?_
                    refine gx_geti (k := 3) C ck2 (by rfl) (by rfl) (by decide) fl_X2_15 dX2_next_114 ?_
                    refine gx_st (st' := [.int (nI j), .ref (eA E 3)]) (by rw [ts_3]) ?_
                    refine gx_callVI (As := [.int (nI j)]) (rest := []) C (c_X2_sortAt E (ts σ (nI s0) (nI j) (nI (qk B t s0)) d1) B t (Tp.ts hT) j (by omega)) z_X2_sortAt ck2 (by rfl) (by rfl) ml_X2_153 (by rfl) (Nat.le_of_ble_eq_true rfl) ⟨Nat.le_of_ble_eq_true rfl, Nat.le_of_ble_eq_true rfl⟩ dX2_next_117 (fun r31 σ31 w31 => ?_)
                    obtain ⟨u1, u2⟩ := w31; rw [u1, u2]; clear u1 u2
                    refine gx_aload_n C dX2_next_120 (by rfl) (by rfl) ?_
                    refine gx_geti (k := 4) C ck2 (by rfl) (by rfl) (by decide) fl_X2_26 dX2_next_121 ?_
                    refine gx_st (st' := [.int (nI (qk B t s0)), .int (nI (qk B t j))]) (by rw [ts_4]) ?_
                    refine gx_icmp_ne (tgt := 140) C dX2_next_124 (by decide) (fun h32 => ?_) (fun h32 => ?_)
                    ·
                      have h32 := (not_congr (nI_eq (a := (qk B t j)) (b := (qk B t s0)) (by omega) (by omega))).mp h32
                      have he : qE B t i = j := by rw [← hX, qX_e (fun q9 => by first | exact absurd q9 (by assumption) | (have := qk_lt (show ¬ qk B t j = 0 by omega); omega))]
                      refine gx_aload_n C dX2_next_140 (by rfl) (by rfl) ?_
                      refine gx_aload_n C dX2_next_141 (by rfl) (by rfl) ?_
                      refine gx_geti (k := 4) C ck2 (by rfl) (by rfl) (by decide) fl_X2_26 dX2_next_142 ?_
                      refine gx_st (st' := [.int (nI (qk B t s0)), .ref (eA E 3)]) (by rw [ts_4]) ?_
                      refine gx_iconst (v := 2) C dX2_next_145 (by decide) ?_
                      refine gx_icmp_ne (tgt := 156) C dX2_next_146 (by decide) (fun h33 => ?_) (fun h33 => ?_)
                      ·
                        have h33 := (not_congr (nI_eq (a := (qk B t s0)) (b := 2) (by omega) (by omega))).mp h33
                        refine gx_iconst (v := 0) C dX2_next_156 (by decide) ?_
                        refine gx_puti (k := 5) C ck2 (by rfl) (by rfl) (by decide) (by rfl) rfl rfl fl_X2_82 dX2_next_157 ?_
                        refine gx_mm (σ' := ts σ (nI s0) (nI j) (nI (qk B t s0)) 0) ts_w5 ?_
                        exact gx_vret C hr hlk (tk_mk hs he hk (by first | (exfalso; omega) | (unfold qV; rw [if_pos (by omega), hs, he]) | (unfold qV; rw [if_neg (by omega)]))) dX2_next_160
                      ·
                        have h33 := (nI_eq (a := (qk B t s0)) (b := 2) (by omega) (by omega)).mp h33
                        refine gx_aload_n C dX2_next_149 (by rfl) (by rfl) ?_
                        refine gx_callVI (As := []) (rest := [.ref (eA E 3)]) C (c_X2_valueTold E σ B t hT s0 j (by omega) (by omega) (nI (qk B t s0)) d1) z_X2_valueTold ck2 (by rfl) (by rfl) ml_X2_161 (by rfl) (Nat.le_of_ble_eq_true rfl) ⟨Nat.le_of_ble_eq_true rfl, Nat.le_of_ble_eq_true rfl⟩ dX2_next_150 (fun r34 σ34 w34 => ?_)
                        obtain ⟨u1, u2⟩ := w34; rw [u1, u2]; clear u1 u2
                        refine gx_goto (tgt := 157) C dX2_next_153 (by decide) ?_
                        refine gx_puti (k := 5) C ck2 (by rfl) (by rfl) (by decide) (by rfl) rfl rfl fl_X2_82 dX2_next_157 ?_
                        refine gx_mm (σ' := ts σ (nI s0) (nI j) (nI (qk B t s0)) (qvv B s0 (j - s0))) ts_w5 ?_
                        exact gx_vret C hr hlk (tk_mk hs he hk (by first | (exfalso; omega) | (unfold qV; rw [if_pos (by omega), hs, he]) | (unfold qV; rw [if_neg (by omega)]))) dX2_next_160
                    ·
                      have h32 := (nI_eq (a := (qk B t j)) (b := (qk B t s0)) (by omega) (by omega)).mp h32
                      refine gx_aload_n C dX2_next_127 (by rfl) (by rfl) ?_
                      refine gx_dup C (by rfl) dX2_next_128 ?_
                      refine gx_geti (k := 3) C ck2 (by rfl) (by rfl) (by decide) fl_X2_15 dX2_next_129 ?_
                      refine gx_st (st' := [.int (nI j), .ref (eA E 3)]) (by rw [ts_3]) ?_
                      refine gx_iconst (v := 1) C dX2_next_132 (by decide) ?_
                      refine gx_iadd C dX2_next_133 ?_
                      refine gx_st (st' := [.int (nI (j + 1)), .ref (eA E 3)]) (by rw [show (nI j) + 1 = nI (j + 1) from nI_add j 1]) ?_
                      refine gx_puti (k := 3) C ck2 (by rfl) (by rfl) (by decide) (by rfl) rfl rfl fl_X2_15 dX2_next_134 ?_
                      refine gx_mm (σ' := ts σ (nI s0) (nI (j + 1)) (nI (qk B t s0)) d1) ts_w3 ?_
                      refine gx_goto (tgt := 97) C dX2_next_137 (by decide) ?_
                      exact ih97 (j + 1) (by omega) (by omega) (by omega) ((qX_s (by omega) (by assumption)).symm.trans hX)
            refine gx_sub [1, 0] (lv' := [(0, .ref (eA E 3)), (1, .int 1)]) rfl ?_
            exact loop97 (t + 1) e1 (by omega) (by omega) (by omega) (by rw [he3, qE_12 (by omega), hk, hs])
          ·
            have h26 := (not_congr (nI_eq (a := (qk B t s0)) (b := 1) (by omega) (by omega))).mp h26
            refine gx_aload_n C dX2_next_83 (by rfl) (by rfl) ?_
            refine gx_geti (k := 4) C ck2 (by rfl) (by rfl) (by decide) fl_X2_26 dX2_next_84 ?_
            refine gx_st (st' := [.int (nI (qk B t s0))]) (by rw [ts_4]) ?_
            refine gx_iconst (v := 2) C dX2_next_87 (by decide) ?_
            refine gx_icmp_ne (tgt := 95) C dX2_next_88 (by decide) (fun h35 => ?_) (fun h35 => ?_)
            ·
              have h35 := (not_congr (nI_eq (a := (qk B t s0)) (b := 2) (by omega) (by omega))).mp h35
              refine gx_iconst (v := 0) C dX2_next_95 (by decide) ?_
              refine gx_istore_n (lv2 := [(1, .int 0), (0, .ref (eA E 3))]) C dX2_next_96 (by rfl) (by decide) rfl ?_
              refine gx_iload_n C dX2_next_97 (by rfl) (by rfl) ?_
              refine gx_if_eq (tgt := 140) C dX2_next_98 (by decide) (fun h36 => ?_) (fun h36 => ?_)
              ·
                clear h36
                have he : qE B t i = e1 := by
                  by_cases h9 : qk B t s0 = 0
                  · rw [qE_0 (by omega), hs, he1, if_neg (by have := qk_0 h9; omega)]; have := qk_0 h9; omega
                  · rw [qE_34 (by omega) (by omega), hs, he1, if_pos (qk_lt h9)]
                refine gx_aload_n C dX2_next_140 (by rfl) (by rfl) ?_
                refine gx_aload_n C dX2_next_141 (by rfl) (by rfl) ?_
                refine gx_geti (k := 4) C ck2 (by rfl) (by rfl) (by decide) fl_X2_26 dX2_next_142 ?_
                refine gx_st (st' := [.int (nI (qk B t s0)), .ref (eA E 3)]) (by rw [ts_4]) ?_
                refine gx_iconst (v := 2) C dX2_next_145 (by decide) ?_
                refine gx_icmp_ne (tgt := 156) C dX2_next_146 (by decide) (fun h37 => ?_) (fun h37 => ?_)
                ·
                  have h37 := (not_congr (nI_eq (a := (qk B t s0)) (b := 2) (by omega) (by omega))).mp h37
                  refine gx_iconst (v := 0) C dX2_next_156 (by decide) ?_
                  refine gx_puti (k := 5) C ck2 (by rfl) (by rfl) (by decide) (by rfl) rfl rfl fl_X2_82 dX2_next_157 ?_
                  refine gx_mm (σ' := ts σ (nI s0) (nI e1) (nI (qk B t s0)) 0) ts_w5 ?_
                  exact gx_vret C hr hlk (tk_mk hs he hk (by first | (exfalso; omega) | (unfold qV; rw [if_pos (by omega), hs, he]) | (unfold qV; rw [if_neg (by omega)]))) dX2_next_160
                ·
                  have h37 := (nI_eq (a := (qk B t s0)) (b := 2) (by omega) (by omega)).mp h37
                  refine gx_aload_n C dX2_next_149 (by rfl) (by rfl) ?_
                  refine gx_callVI (As := []) (rest := [.ref (eA E 3)]) C (c_X2_valueTold E σ B t hT s0 e1 (by omega) (by omega) (nI (qk B t s0)) d1) z_X2_valueTold ck2 (by rfl) (by rfl) ml_X2_161 (by rfl) (Nat.le_of_ble_eq_true rfl) ⟨Nat.le_of_ble_eq_true rfl, Nat.le_of_ble_eq_true rfl⟩ dX2_next_150 (fun r38 σ38 w38 => ?_)
                  obtain ⟨u1, u2⟩ := w38; rw [u1, u2]; clear u1 u2
                  refine gx_goto (tgt := 157) C dX2_next_153 (by decide) ?_
                  refine gx_puti (k := 5) C ck2 (by rfl) (by rfl) (by decide) (by rfl) rfl rfl fl_X2_82 dX2_next_157 ?_
                  refine gx_mm (σ' := ts σ (nI s0) (nI e1) (nI (qk B t s0)) (qvv B s0 (e1 - s0))) ts_w5 ?_
                  exact gx_vret C hr hlk (tk_mk hs he hk (by first | (exfalso; omega) | (unfold qV; rw [if_pos (by omega), hs, he]) | (unfold qV; rw [if_neg (by omega)]))) dX2_next_160
              ·
                exact absurd h36 (by decide)
            ·
              have h35 := (nI_eq (a := (qk B t s0)) (b := 2) (by omega) (by omega)).mp h35
              refine gx_iconst (v := 1) C dX2_next_91 (by decide) ?_
              refine gx_goto (tgt := 96) C dX2_next_92 (by decide) ?_
              refine gx_istore_n (lv2 := [(1, .int 1), (0, .ref (eA E 3))]) C dX2_next_96 (by rfl) (by decide) rfl ?_
              have hsl : s0 < t := qk_lt (show ¬ qk B t s0 = 0 by omega)
              have he3 : e1 = s0 + 1 := by rw [he1, if_pos hsl]
              have loop97 : ∀ (g : Nat) (j : Nat), t + 1 ≤ j + g → j ≤ t → s0 < j → qX B t (qk B t s0) j = qE B t i → Gx E p e0 (rmF 1 22) s m ([.ref (eA E 3)] : List Value).toArray below meth c (MQ below (va_Qv (fun σ2 => σ2 = tk σ B t i) (WQ E) (AA E s.heap.size)) ([.ref (eA E 3)] : List Value).toArray s 0 0 (AA E s.heap.size)) 2 97 [(0, .ref (eA E 3)), (1, .int 1)] [] (ts σ (nI s0) (nI j) (nI (qk B t s0)) d1) := by
                intro g
                induction g with
                | zero => intro j hg hj hsj hX; exact absurd hg (by omega)
                | succ g ih97 =>
                  intro j hg hj hsj hX
                  have hj4 : qk B t j ≤ 4 := qk_le
                  refine gx_iload_n C dX2_next_97 (by rfl) (by rfl) ?_
                  refine gx_if_eq (tgt := 140) C dX2_next_98 (by decide) (fun h39 => ?_) (fun h39 => ?_)
                  ·
                    exact absurd h39 (by decide)
                  ·
                    clear h39
                    refine gx_aload_n C dX2_next_101 (by rfl) (by rfl) ?_
                    refine gx_geti (k := 3) C ck2 (by rfl) (by rfl) (by decide) fl_X2_15 dX2_next_102 ?_
                    refine gx_st (st' := [.int (nI j)]) (by rw [ts_3]) ?_
                    refine gx_aload_n C dX2_next_105 (by rfl) (by rfl) ?_
                    refine gx_geti (k := 1) C ck2 (by rfl) (by rfl) (by decide) fl_X2_151 dX2_next_106 ?_
                    refine gx_st (st' := [.int (nI t), .int (nI j)]) (by rw [(Tp.ts hT).1]) ?_
                    refine gx_icmp_ge (tgt := 140) C dX2_next_109 (by decide) (fun h40 => ?_) (fun h40 => ?_)
                    ·
                      have h40 := (nI_leI (a := t) (b := j) (by omega) (by omega)).mp h40
                      have he : qE B t i = j := by rw [← hX, qX_e (fun q9 => by first | exact absurd q9 (by assumption) | (have := qk_lt (show ¬ qk B t j = 0 by omega); omega))]
                      refine gx_aload_n C dX2_next_140 (by rfl) (by rfl) ?_
                      refine gx_aload_n C dX2_next_141 (by rfl) (by rfl) ?_
                      refine gx_geti (k := 4) C ck2 (by rfl) (by rfl) (by decide) fl_X2_26 dX2_next_142 ?_
                      refine gx_st (st' := [.int (nI (qk B t s0)), .ref (eA E 3)]) (by rw [ts_4]) ?_
                      refine gx_iconst (v := 2) C dX2_next_145 (by decide) ?_
                      refine gx_icmp_ne (tgt := 156) C dX2_next_146 (by decide) (fun h41 => ?_) (fun h41 => ?_)
                      ·
                        have h41 := (not_congr (nI_eq (a := (qk B t s0)) (b := 2) (by omega) (by omega))).mp h41
                        refine gx_iconst (v := 0) C dX2_next_156 (by decide) ?_
                        refine gx_puti (k := 5) C ck2 (by rfl) (by rfl) (by decide) (by rfl) rfl rfl fl_X2_82 dX2_next_157 ?_
                        refine gx_mm (σ' := ts σ (nI s0) (nI j) (nI (qk B t s0)) 0) ts_w5 ?_
                        exact gx_vret C hr hlk (tk_mk hs he hk (by first | (exfalso; omega) | (unfold qV; rw [if_pos (by omega), hs, he]) | (unfold qV; rw [if_neg (by omega)]))) dX2_next_160
                      ·
                        have h41 := (nI_eq (a := (qk B t s0)) (b := 2) (by omega) (by omega)).mp h41
                        refine gx_aload_n C dX2_next_149 (by rfl) (by rfl) ?_
                        refine gx_callVI (As := []) (rest := [.ref (eA E 3)]) C (c_X2_valueTold E σ B t hT s0 j (by omega) (by omega) (nI (qk B t s0)) d1) z_X2_valueTold ck2 (by rfl) (by rfl) ml_X2_161 (by rfl) (Nat.le_of_ble_eq_true rfl) ⟨Nat.le_of_ble_eq_true rfl, Nat.le_of_ble_eq_true rfl⟩ dX2_next_150 (fun r42 σ42 w42 => ?_)
                        obtain ⟨u1, u2⟩ := w42; rw [u1, u2]; clear u1 u2
                        refine gx_goto (tgt := 157) C dX2_next_153 (by decide) ?_
                        refine gx_puti (k := 5) C ck2 (by rfl) (by rfl) (by decide) (by rfl) rfl rfl fl_X2_82 dX2_next_157 ?_
                        refine gx_mm (σ' := ts σ (nI s0) (nI j) (nI (qk B t s0)) (qvv B s0 (j - s0))) ts_w5 ?_
                        exact gx_vret C hr hlk (tk_mk hs he hk (by first | (exfalso; omega) | (unfold qV; rw [if_pos (by omega), hs, he]) | (unfold qV; rw [if_neg (by omega)]))) dX2_next_160
                    ·
                      have h40 := (not_congr (nI_leI (a := t) (b := j) (by omega) (by omega))).mp h40
                      refine gx_aload_n C dX2_next_112 (by rfl) (by rfl) ?_
                      refine gx_aload_n C dX2_next_113 (by rfl) (by rfl) ?_
                      refine gx_geti (k := 3) C ck2 (by rfl) (by rfl) (by decide) fl_X2_15 dX2_next_114 ?_
                      refine gx_st (st' := [.int (nI j), .ref (eA E 3)]) (by rw [ts_3]) ?_
                      refine gx_callVI (As := [.int (nI j)]) (rest := []) C (c_X2_sortAt E (ts σ (nI s0) (nI j) (nI (qk B t s0)) d1) B t (Tp.ts hT) j (by omega)) z_X2_sortAt ck2 (by rfl) (by rfl) ml_X2_153 (by rfl) (Nat.le_of_ble_eq_true rfl) ⟨Nat.le_of_ble_eq_true rfl, Nat.le_of_ble_eq_true rfl⟩ dX2_next_117 (fun r43 σ43 w43 => ?_)
                      obtain ⟨u1, u2⟩ := w43; rw [u1, u2]; clear u1 u2
                      refine gx_aload_n C dX2_next_120 (by rfl) (by rfl) ?_
                      refine gx_geti (k := 4) C ck2 (by rfl) (by rfl) (by decide) fl_X2_26 dX2_next_121 ?_
                      refine gx_st (st' := [.int (nI (qk B t s0)), .int (nI (qk B t j))]) (by rw [ts_4]) ?_
                      refine gx_icmp_ne (tgt := 140) C dX2_next_124 (by decide) (fun h44 => ?_) (fun h44 => ?_)
                      ·
                        have h44 := (not_congr (nI_eq (a := (qk B t j)) (b := (qk B t s0)) (by omega) (by omega))).mp h44
                        have he : qE B t i = j := by rw [← hX, qX_e (fun q9 => by first | exact absurd q9 (by assumption) | (have := qk_lt (show ¬ qk B t j = 0 by omega); omega))]
                        refine gx_aload_n C dX2_next_140 (by rfl) (by rfl) ?_
                        refine gx_aload_n C dX2_next_141 (by rfl) (by rfl) ?_
                        refine gx_geti (k := 4) C ck2 (by rfl) (by rfl) (by decide) fl_X2_26 dX2_next_142 ?_
                        refine gx_st (st' := [.int (nI (qk B t s0)), .ref (eA E 3)]) (by rw [ts_4]) ?_
                        refine gx_iconst (v := 2) C dX2_next_145 (by decide) ?_
                        refine gx_icmp_ne (tgt := 156) C dX2_next_146 (by decide) (fun h45 => ?_) (fun h45 => ?_)
                        ·
                          have h45 := (not_congr (nI_eq (a := (qk B t s0)) (b := 2) (by omega) (by omega))).mp h45
                          refine gx_iconst (v := 0) C dX2_next_156 (by decide) ?_
                          refine gx_puti (k := 5) C ck2 (by rfl) (by rfl) (by decide) (by rfl) rfl rfl fl_X2_82 dX2_next_157 ?_
                          refine gx_mm (σ' := ts σ (nI s0) (nI j) (nI (qk B t s0)) 0) ts_w5 ?_
                          exact gx_vret C hr hlk (tk_mk hs he hk (by first | (exfalso; omega) | (unfold qV; rw [if_pos (by omega), hs, he]) | (unfold qV; rw [if_neg (by omega)]))) dX2_next_160
                        ·
                          have h45 := (nI_eq (a := (qk B t s0)) (b := 2) (by omega) (by omega)).mp h45
                          refine gx_aload_n C dX2_next_149 (by rfl) (by rfl) ?_
                          refine gx_callVI (As := []) (rest := [.ref (eA E 3)]) C (c_X2_valueTold E σ B t hT s0 j (by omega) (by omega) (nI (qk B t s0)) d1) z_X2_valueTold ck2 (by rfl) (by rfl) ml_X2_161 (by rfl) (Nat.le_of_ble_eq_true rfl) ⟨Nat.le_of_ble_eq_true rfl, Nat.le_of_ble_eq_true rfl⟩ dX2_next_150 (fun r46 σ46 w46 => ?_)
                          obtain ⟨u1, u2⟩ := w46; rw [u1, u2]; clear u1 u2
                          refine gx_goto (tgt := 157) C dX2_next_153 (by decide) ?_
                          refine gx_puti (k := 5) C ck2 (by rfl) (by rfl) (by decide) (by rfl) rfl rfl fl_X2_82 dX2_next_157 ?_
                          refine gx_mm (σ' := ts σ (nI s0) (nI j) (nI (qk B t s0)) (qvv B s0 (j - s0))) ts_w5 ?_
                          exact gx_vret C hr hlk (tk_mk hs he hk (by first | (exfalso; omega) | (unfold qV; rw [if_pos (by omega), hs, he]) | (unfold qV; rw [if_neg (by omega)]))) dX2_next_160
                      ·
                        have h44 := (nI_eq (a := (qk B t j)) (b := (qk B t s0)) (by omega) (by omega)).mp h44
                        refine gx_aload_n C dX2_next_127 (by rfl) (by rfl) ?_
                        refine gx_dup C (by rfl) dX2_next_128 ?_
                        refine gx_geti (k := 3) C ck2 (by rfl) (by rfl) (by decide) fl_X2_15 dX2_next_129 ?_
                        refine gx_st (st' := [.int (nI j), .ref (eA E 3)]) (by rw [ts_3]) ?_
                        refine gx_iconst (v := 1) C dX2_next_132 (by decide) ?_
                        refine gx_iadd C dX2_next_133 ?_
                        refine gx_st (st' := [.int (nI (j + 1)), .ref (eA E 3)]) (by rw [show (nI j) + 1 = nI (j + 1) from nI_add j 1]) ?_
                        refine gx_puti (k := 3) C ck2 (by rfl) (by rfl) (by decide) (by rfl) rfl rfl fl_X2_15 dX2_next_134 ?_
                        refine gx_mm (σ' := ts σ (nI s0) (nI (j + 1)) (nI (qk B t s0)) d1) ts_w3 ?_
                        refine gx_goto (tgt := 97) C dX2_next_137 (by decide) ?_
                        exact ih97 (j + 1) (by omega) (by omega) (by omega) ((qX_s (by omega) (by assumption)).symm.trans hX)
              refine gx_sub [1, 0] (lv' := [(0, .ref (eA E 3)), (1, .int 1)]) rfl ?_
              exact loop97 (t + 1) e1 (by omega) (by omega) (by omega) (by rw [he3, qE_12 (by omega), hk, hs])
        ·
          refine gx_aload_n C dX2_next_33 (by rfl) (by rfl) ?_
          refine gx_dup C (by rfl) dX2_next_34 ?_
          refine gx_geti (k := 2) C ck2 (by rfl) (by rfl) (by decide) fl_X2_29 dX2_next_35 ?_
          refine gx_st (st' := [.int (nI s0), .ref (eA E 3)]) (by rw [ts_2]) ?_
          refine gx_iconst (v := 1) C dX2_next_38 (by decide) ?_
          refine gx_iadd C dX2_next_39 ?_
          refine gx_st (st' := [.int (nI (s0 + 1)), .ref (eA E 3)]) (by rw [show (nI s0) + 1 = nI (s0 + 1) from nI_add s0 1]) ?_
          refine gx_puti (k := 2) C ck2 (by rfl) (by rfl) (by decide) (by rfl) rfl rfl fl_X2_29 dX2_next_40 ?_
          refine gx_mm (σ' := ts σ (nI (s0 + 1)) (nI i) c1 d1) ts_w2 ?_
          refine gx_goto (tgt := 8) C dX2_next_43 (by decide) ?_
          exact ih8 (s0 + 1) (by omega) (by omega) ((qS_s (by omega) (by assumption)).symm.trans hq)
  exact loop8 (t + 1) i (by omega) (by omega) rfl
theorem c_X2_next2 (E : En) (σ : Mm) (B : Nat → Int32) (t : Nat) (hT : Tp σ B t) (i : Nat) (hi : i ≤ t) : CtV E yX2_next cX2_next 2 none 1 22 [.ref (eA E 3)] (tk σ B t i) (fun σ2 => σ2 = tk σ B t (qE B t i)) := c_X2_next E σ B t hT (nI (qS B t i)) (qE B t i) (qE_le hi) (nI (qK B t i)) (qV B t i)
set_option maxHeartbeats 4000000 in
set_option maxRecDepth 100000 in
theorem c_X2_isWord (E : En) (σ : Mm) (B : Nat → Int32) (t : Nat) (hT : Tp σ B t) (i : Nat) (hi : i ≤ t) (q : Nat) (hq : q < 34) : CtI E yX2_isWord cX2_isWord 3 (some .boolean) 4 85 [.ref (eA E 3), .ref (eZ E (100 + q))] (tk σ B t i) (fun rr σ2 => σ2 = tk σ B t i ∧ rr = b2 (qW B t i q = true)) := by
  have ht := hT.2.1
  have hlen := jB_len q hq
  have hge := qE_ge (B := B) (t := t) (i := i)
  have hle := qE_le (B := B) hi
  have hk4 : qK B t i ≤ 4 := qk_le
  refine CtI.of (by decide +kernel) (Nat.le_of_ble_eq_true rfl) (fun p e0 s m below meth c C hr hlk => ?_)
  refine gx_lv (lv' := [(0, .ref (eA E 3)), (1, .ref (eZ E (100 + q)))]) rfl ?_
  refine gx_aload_n C dX2_isWord_0 (by rfl) (by rfl) ?_
  refine gx_geti (k := 4) C ck2 (by rfl) (by rfl) (by decide) fl_X2_26 dX2_isWord_1 ?_
  refine gx_st (st' := [.int (nI (qK B t i))]) (by rw [tk_4]) ?_
  refine gx_iconst (v := 1) C dX2_isWord_4 (by decide) ?_
  refine gx_icmp_ne (tgt := 24) C dX2_isWord_5 (by decide) (fun h1 => ?_) (fun h1 => ?_)
  ·
    have h1 := (not_congr (nI_eq (a := (qK B t i)) (b := 1) (by omega) (by omega))).mp h1
    refine gx_iconst (v := 0) C dX2_isWord_24 (by decide) ?_
    exact gx_iret C hr hlk (by first | rfl | exact nb_b2 _) ⟨rfl, b2_f (fun q9 => by have q8 := of_decide_eq_true q9; first | exact absurd q8.1 (by omega) | exact absurd q8.2.1 (by omega) | exact absurd (q8.2.2 k0 (by omega)) (by assumption))⟩ dX2_isWord_25
  ·
    have h1 := (nI_eq (a := (qK B t i)) (b := 1) (by omega) (by omega)).mp h1
    refine gx_aload_n C dX2_isWord_8 (by rfl) (by rfl) ?_
    refine gx_geti (k := 3) C ck2 (by rfl) (by rfl) (by decide) fl_X2_15 dX2_isWord_9 ?_
    refine gx_st (st' := [.int (nI (qE B t i))]) (by rw [tk_3]) ?_
    refine gx_aload_n C dX2_isWord_12 (by rfl) (by rfl) ?_
    refine gx_geti (k := 2) C ck2 (by rfl) (by rfl) (by decide) fl_X2_29 dX2_isWord_13 ?_
    refine gx_st (st' := [.int (nI (qS B t i)), .int (nI (qE B t i))]) (by rw [tk_2]) ?_
    refine gx_isub C dX2_isWord_16 ?_
    refine gx_st (st' := [.int (nI (qE B t i - qS B t i))]) (by rw [show (nI (qE B t i)) - (nI (qS B t i)) = nI (qE B t i - qS B t i) from pk_sub (by omega)]) ?_
    refine gx_aload_n C dX2_isWord_17 (by rfl) (by rfl) ?_
    refine gx_callTI (As := []) (rest := [.int (nI (qE B t i - qS B t i))]) C (by omega) (c_J0_length_8abf5 E (tk σ B t i) q (by omega)) z_J0_length_8abf5 (by rfl) ml_X2_142 (by rfl) (Nat.le_of_ble_eq_true rfl) ⟨Nat.le_of_ble_eq_true rfl, Nat.le_of_ble_eq_true rfl⟩ dX2_isWord_18 (fun r2 σ2 w2 => ?_)
    obtain ⟨u1, u2⟩ := w2; rw [u1, u2]; clear u1 u2
    refine gx_icmp_eq (tgt := 26) C dX2_isWord_21 (by decide) (fun h3 => ?_) (fun h3 => ?_)
    ·
      have h3 := (nI_eq (a := (qE B t i - qS B t i)) (b := ((jByt.getD q []).length)) (by omega) (by omega)).mp h3
      refine gx_iconst (v := 0) C dX2_isWord_26 (by decide) ?_
      refine gx_istore_n (lv2 := [(2, .int 0), (0, .ref (eA E 3)), (1, .ref (eZ E (100 + q)))]) C dX2_isWord_27 (by rfl) (by decide) rfl ?_
      have loop28 : ∀ (kf k0 : Nat), k0 ≤ (jByt.getD q []).length → (jByt.getD q []).length < k0 + kf → (∀ b, b < k0 → B (qS B t i + b) = (jByt.getD q []).getD b 0) → Gx E p e0 (rmF 4 85) s m ([.ref (eA E 3), .ref (eZ E (100 + q))] : List Value).toArray below meth c (MQ below (va_Qi (fun rr σ2 => σ2 = tk σ B t i ∧ rr = b2 (qW B t i q = true)) (WQ E) (AA E s.heap.size)) ([.ref (eA E 3), .ref (eZ E (100 + q))] : List Value).toArray s 0 0 (AA E s.heap.size)) 3 28 [(0, .ref (eA E 3)), (1, .ref (eZ E (100 + q))), (2, .int (nI k0))] [] (tk σ B t i) := by
        intro kf
        induction kf with
        | zero => intro k0 q1 q2; exact absurd q2 (by omega)
        | succ kf ih28 =>
          intro k0 a28 b28 hal
          refine gx_iload_n C dX2_isWord_28 (by rfl) (by rfl) ?_
          refine gx_aload_n C dX2_isWord_29 (by rfl) (by rfl) ?_
          refine gx_callTI (As := []) (rest := [.int (nI k0)]) C (by omega) (c_J0_length_8abf5 E (tk σ B t i) q (by omega)) z_J0_length_8abf5 (by rfl) ml_X2_142 (by rfl) (Nat.le_of_ble_eq_true rfl) ⟨Nat.le_of_ble_eq_true rfl, Nat.le_of_ble_eq_true rfl⟩ dX2_isWord_30 (fun r4 σ4 w4 => ?_)
          obtain ⟨u1, u2⟩ := w4; rw [u1, u2]; clear u1 u2
          refine gx_icmp_ge (tgt := 63) C dX2_isWord_33 (by decide) (fun h5 => ?_) (fun h5 => ?_)
          ·
            have h5 := (nI_leI (a := ((jByt.getD q []).length)) (b := k0) (by omega) (by omega)).mp h5
            refine gx_iconst (v := 1) C dX2_isWord_63 (by decide) ?_
            exact gx_iret C hr hlk (by first | rfl | exact nb_b2 _) ⟨rfl, b2_t (decide_eq_true ⟨by omega, by omega, fun b hb => hal b (by omega)⟩)⟩ dX2_isWord_64
          ·
            have h5 := (not_congr (nI_leI (a := ((jByt.getD q []).length)) (b := k0) (by omega) (by omega))).mp h5
            refine gx_aload_n C dX2_isWord_36 (by rfl) (by rfl) ?_
            refine gx_getr (j := 4) (k := 0) C ck2 (by rfl) (by rfl) (by decide) fl_X2_9 dX2_isWord_37 ?_
            refine gx_aload_n C dX2_isWord_40 (by rfl) (by rfl) ?_
            refine gx_geti (k := 2) C ck2 (by rfl) (by rfl) (by decide) fl_X2_29 dX2_isWord_41 ?_
            refine gx_st (st' := [.int (nI (qS B t i)), .ref (eA E 4)]) (by rw [tk_2]) ?_
            refine gx_iload_n C dX2_isWord_44 (by rfl) (by rfl) ?_
            refine gx_iadd C dX2_isWord_45 ?_
            refine gx_st (st' := [.int (nI (qS B t i + k0)), .ref (eA E 4)]) (by rw [show (nI (qS B t i)) + (nI k0) = nI (qS B t i + k0) from nI_add (qS B t i) k0]) ?_
            refine gx_ialdN (k := (qS B t i + k0)) C (by rfl) rfl (by omega) (by decide) dX2_isWord_46 ?_
            refine gx_st (st' := [.int (B (qS B t i + k0))]) (by rw [(Tp.tk hT).2.2 (qS B t i + k0) (by omega)]) ?_
            refine gx_aload_n C dX2_isWord_47 (by rfl) (by rfl) ?_
            refine gx_iload_n C dX2_isWord_48 (by rfl) (by rfl) ?_
            refine gx_callTI (As := [.int (nI k0)]) (rest := [.int (B (qS B t i + k0))]) C (by omega) (c_J0_charAt_5068e E (tk σ B t i) q (by omega) k0 (by omega)) z_J0_charAt_5068e (by rfl) ml_X2_147 (by rfl) (Nat.le_of_ble_eq_true rfl) ⟨Nat.le_of_ble_eq_true rfl, Nat.le_of_ble_eq_true rfl⟩ dX2_isWord_49 (fun r6 σ6 w6 => ?_)
            obtain ⟨u1, u2⟩ := w6; rw [u1, u2]; clear u1 u2
            refine gx_icmp_eq (tgt := 57) C dX2_isWord_52 (by decide) (fun h7 => ?_) (fun h7 => ?_)
            ·
              refine gx_iinc (v := nI (k0 + 1)) (lv2 := [(2, .int (nI (k0 + 1))), (0, .ref (eA E 3)), (1, .ref (eZ E (100 + q)))]) C dX2_isWord_57 (by rfl) (by exact nI_p1 _) (by decide) rfl ?_
              refine gx_goto (tgt := 28) C dX2_isWord_60 (by decide) ?_
              refine gx_sub [1, 2, 0] (lv' := [(0, .ref (eA E 3)), (1, .ref (eZ E (100 + q))), (2, .int (nI (k0 + 1)))]) rfl ?_
              exact ih28 (k0 + 1) (by omega) (by omega) (lt_s hal (by assumption))
            ·
              refine gx_iconst (v := 0) C dX2_isWord_55 (by decide) ?_
              exact gx_iret C hr hlk (by first | rfl | exact nb_b2 _) ⟨rfl, b2_f (fun q9 => by have q8 := of_decide_eq_true q9; first | exact absurd q8.1 (by omega) | exact absurd q8.2.1 (by omega) | exact absurd (q8.2.2 k0 (by omega)) (by assumption))⟩ dX2_isWord_56
      refine gx_sub [1, 2, 0] (lv' := [(0, .ref (eA E 3)), (1, .ref (eZ E (100 + q))), (2, .int 0)]) rfl ?_
      refine gx_lv (lv' := [(0, .ref (eA E 3)), (1, .ref (eZ E (100 + q))), (2, .int (nI 0))]) (by rfl) ?_
      exact loop28 ((jByt.getD q []).length + 1) 0 (by omega) (by omega) (fun b y => absurd y (by omega))
    ·
      have h3 := (not_congr (nI_eq (a := (qE B t i - qS B t i)) (b := ((jByt.getD q []).length)) (by omega) (by omega))).mp h3
      refine gx_iconst (v := 0) C dX2_isWord_24 (by decide) ?_
      exact gx_iret C hr hlk (by first | rfl | exact nb_b2 _) ⟨rfl, b2_f (fun q9 => by have q8 := of_decide_eq_true q9; first | exact absurd q8.1 (by omega) | exact absurd q8.2.1 (by omega) | exact absurd (q8.2.2 k0 (by omega)) (by assumption))⟩ dX2_isWord_25
set_option maxHeartbeats 4000000 in
set_option maxRecDepth 100000 in
theorem c_X2_isNumber (E : En) (σ : Mm) (B : Nat → Int32) (t : Nat) (hT : Tp σ B t) (i : Nat) (a b : Int32) : CtI E yX2_isNumber cX2_isNumber 3 (some .boolean) 1 22 [.ref (eA E 3), .int a, .int b] (tk σ B t i) (fun rr σ2 => σ2 = tk σ B t i ∧ rr = b2 (qN B t i a b = true)) := by
  have ht := hT.2.1
  have hk4 : qK B t i ≤ 4 := qk_le
  refine CtI.of (by decide +kernel) (Nat.le_of_ble_eq_true rfl) (fun p e0 s m below meth c C hr hlk => ?_)
  refine gx_lv (lv' := [(0, .ref (eA E 3)), (1, .int a), (2, .int b)]) rfl ?_
  refine gx_aload_n C dX2_isNumber_0 (by rfl) (by rfl) ?_
  refine gx_geti (k := 4) C ck2 (by rfl) (by rfl) (by decide) fl_X2_26 dX2_isNumber_1 ?_
  refine gx_st (st' := [.int (nI (qK B t i))]) (by rw [tk_4]) ?_
  refine gx_iconst (v := 2) C dX2_isNumber_4 (by decide) ?_
  refine gx_icmp_ne (tgt := 24) C dX2_isNumber_5 (by decide) (fun h1 => ?_) (fun h1 => ?_)
  ·
    have h1 := (not_congr (nI_eq (a := (qK B t i)) (b := 2) (by omega) (by omega))).mp h1
    refine gx_iconst (v := 0) C dX2_isNumber_24 (by decide) ?_
    exact gx_iret C hr hlk (by first | rfl | exact nb_b2 _) ⟨rfl, b2_f (fun q9 => by have q8 := of_decide_eq_true q9; first | exact absurd q8.1 (by omega) | exact absurd q8.2 (by assumption))⟩ dX2_isNumber_25
  ·
    have h1 := (nI_eq (a := (qK B t i)) (b := 2) (by omega) (by omega)).mp h1
    refine gx_aload_n C dX2_isNumber_8 (by rfl) (by rfl) ?_
    refine gx_geti (k := 5) C ck2 (by rfl) (by rfl) (by decide) fl_X2_82 dX2_isNumber_9 ?_
    refine gx_st (st' := [.int (qV B t i)]) (by rw [tk_5]) ?_
    refine gx_iload_n C dX2_isNumber_12 (by rfl) (by rfl) ?_
    refine gx_iload_n C dX2_isNumber_13 (by rfl) (by rfl) ?_
    refine gx_callNI (As := [.int (qV B t i), .int a, .int b]) (rest := []) C (c_X3_isWithin E (tk σ B t i) (qV B t i) a b) z_X3_isWithin (by rfl) (C.2.2.2.2.2.2.2.2.2.2.2.2.2.2.2.2.1) (by rfl) (Nat.le_of_ble_eq_true rfl) ⟨Nat.le_of_ble_eq_true rfl, Nat.le_of_ble_eq_true rfl⟩ dX2_isNumber_14 (fun r2 σ2 w2 => ?_)
    obtain ⟨u1, u2⟩ := w2; rw [u1, u2]; clear u1 u2
    refine gx_if_eq (tgt := 24) C dX2_isNumber_17 (by decide) (fun h3 => ?_) (fun h3 => ?_)
    ·
      have h3 := b2_z.mp h3
      refine gx_iconst (v := 0) C dX2_isNumber_24 (by decide) ?_
      exact gx_iret C hr hlk (by first | rfl | exact nb_b2 _) ⟨rfl, b2_f (fun q9 => by have q8 := of_decide_eq_true q9; first | exact absurd q8.1 (by omega) | exact absurd q8.2 (by assumption))⟩ dX2_isNumber_25
    ·
      have h3 := b2_nz.mp h3
      refine gx_iconst (v := 1) C dX2_isNumber_20 (by decide) ?_
      refine gx_goto (tgt := 25) C dX2_isNumber_21 (by decide) ?_
      exact gx_iret C hr hlk (by first | rfl | exact nb_b2 _) ⟨rfl, b2_t (decide_eq_true ⟨by omega, by assumption⟩)⟩ dX2_isNumber_25
set_option maxHeartbeats 4000000 in
set_option maxRecDepth 100000 in
theorem c_X2_tellNumber (E : En) (σ : Mm) (B : Nat → Int32) (t : Nat) (hT : Tp σ B t) (i : Nat) (hi : i ≤ t) (rc ln : Nat) (hrc : sh rc = .inl (ln + 1)) (hln : ln < 1000) (hr5 : 37 ≤ rc ∧ rc < 49) (k : Nat) (hk : k < ln + 1) (a b : Int32) : CtI E yX2_tellNumber cX2_tellNumber 5 (some .boolean) 2 44 [.ref (eA E 3), .ref (eA E rc), .int (nI k), .int a, .int b] (tk σ B t i) (fun rr σ2 => (qN B t (qE B t i) a b = true → rr = 1 ∧ σ2 = tk (up2 σ rc k (qV B t (qE B t i))) B t (qE B t (qE B t i))) ∧ (¬ qN B t (qE B t i) a b = true → rr = 0 ∧ σ2 = tk σ B t (qE B t i))) := by
  have ht := hT.2.1
  refine CtI.of (by decide +kernel) (Nat.le_of_ble_eq_true rfl) (fun p e0 s m below meth c C hr hlk => ?_)
  refine gx_lv (lv' := [(0, .ref (eA E 3)), (1, .ref (eA E rc)), (2, .int (nI k)), (3, .int a), (4, .int b)]) rfl ?_
  refine gx_aload_n C dX2_tellNumber_0 (by rfl) (by rfl) ?_
  refine gx_callVV (As := []) (rest := []) C (c_X2_next2 E σ B t hT i hi) z_X2_next ck2 (by rfl) (by rfl) ml_X2_19 (by rfl) (Nat.le_of_ble_eq_true rfl) ⟨Nat.le_of_ble_eq_true rfl, Nat.le_of_ble_eq_true rfl⟩ dX2_tellNumber_1 (fun σ1 w1 => ?_)
  rw [w1]; clear w1
  refine gx_aload_n C dX2_tellNumber_4 (by rfl) (by rfl) ?_
  refine gx_iload_n C dX2_tellNumber_5 (by rfl) (by rfl) ?_
  refine gx_iload C dX2_tellNumber_6 (by rfl) ?_
  refine gx_callVI (As := [.int a, .int b]) (rest := []) C (c_X2_isNumber E σ B t hT (qE B t i) a b) z_X2_isNumber ck2 (by rfl) (by rfl) ml_X2_78 (by rfl) (Nat.le_of_ble_eq_true rfl) ⟨Nat.le_of_ble_eq_true rfl, Nat.le_of_ble_eq_true rfl⟩ dX2_tellNumber_8 (fun r2 σ2 w2 => ?_)
  obtain ⟨u1, u2⟩ := w2; rw [u1, u2]; clear u1 u2
  refine gx_if_ne (tgt := 16) C dX2_tellNumber_11 (by decide) (fun h3 => ?_) (fun h3 => ?_)
  ·
    have h3 := b2_nz.mp h3
    refine gx_aload_n C dX2_tellNumber_16 (by rfl) (by rfl) ?_
    refine gx_iload_n C dX2_tellNumber_17 (by rfl) (by rfl) ?_
    refine gx_aload_n C dX2_tellNumber_18 (by rfl) (by rfl) ?_
    refine gx_geti (k := 5) C ck2 (by rfl) (by rfl) (by decide) fl_X2_82 dX2_tellNumber_19 ?_
    refine gx_st (st' := [.int (qV B t (qE B t i)), .int (nI k), .ref (eA E rc)]) (by rw [tk_5]) ?_
    refine gx_iastN (k := k) C hrc rfl (by omega) hln dX2_tellNumber_22 ?_
    refine gx_mm (σ' := tk (up2 σ rc k (qV B t (qE B t i))) B t (qE B t i)) (tk_com (by omega)) ?_
    refine gx_aload_n C dX2_tellNumber_23 (by rfl) (by rfl) ?_
    refine gx_callVV (As := []) (rest := []) C (c_X2_next2 E (up2 σ rc k (qV B t (qE B t i))) B t (Tp.up hT (by omega)) (qE B t i) (qE_le (B := B) hi)) z_X2_next ck2 (by rfl) (by rfl) ml_X2_19 (by rfl) (Nat.le_of_ble_eq_true rfl) ⟨Nat.le_of_ble_eq_true rfl, Nat.le_of_ble_eq_true rfl⟩ dX2_tellNumber_24 (fun σ4 w4 => ?_)
    rw [w4]; clear w4
    refine gx_iconst (v := 1) C dX2_tellNumber_27 (by decide) ?_
    exact gx_iret C hr hlk (by first | rfl | exact nb_b2 _) ⟨fun q9 => by first | exact ⟨rfl, rfl⟩ | exact absurd q9 (by assumption), fun q9 => by first | exact ⟨rfl, rfl⟩ | exact absurd (by assumption) q9⟩ dX2_tellNumber_28
  ·
    have h3 := b2_z.mp h3
    refine gx_iconst (v := 0) C dX2_tellNumber_14 (by decide) ?_
    exact gx_iret C hr hlk (by first | rfl | exact nb_b2 _) ⟨fun q9 => by first | exact ⟨rfl, rfl⟩ | exact absurd q9 (by assumption), fun q9 => by first | exact ⟨rfl, rfl⟩ | exact absurd (by assumption) q9⟩ dX2_tellNumber_15
set_option maxHeartbeats 4000000 in
set_option maxRecDepth 100000 in
theorem c_X2_tellDetail (E : En) (σ : Mm) (B : Nat → Int32) (t : Nat) (hT : Tp σ B t) (i : Nat) (hi : i ≤ t) (rc ln : Nat) (hrc : sh rc = .inl (ln + 1)) (hln : ln < 1000) (hr5 : 37 ≤ rc ∧ rc < 49) (k : Nat) (hk : k < ln + 1) (q : Nat) (hq : q < 34) (jj : Nat) (K : Mm) (hE : Emp σ 37 K) (hU : ∀ v, Emp (up2 σ rc k v) 37 (up2 K jj k v)) (mm : Int32) : CtI E yX2_tellDetail cX2_tellDetail 5 (some .boolean) 5 107 [.ref (eA E 3), .ref (eZ E (100 + q)), .ref (eA E rc), .int (nI k), .int mm] (tk σ B t i) (fun rr σ2 => TR B t σ (dtR B t q jj k mm K i) rr σ2) := by
  have ht := hT.2.1
  refine CtI.of (by decide +kernel) (Nat.le_of_ble_eq_true rfl) (fun p e0 s m below meth c C hr hlk => ?_)
  refine gx_lv (lv' := [(0, .ref (eA E 3)), (1, .ref (eZ E (100 + q))), (2, .ref (eA E rc)), (3, .int (nI k)), (4, .int mm)]) rfl ?_
  refine gx_aload_n C dX2_tellDetail_0 (by rfl) (by rfl) ?_
  refine gx_aload_n C dX2_tellDetail_1 (by rfl) (by rfl) ?_
  refine gx_callVI (As := [.ref (eZ E (100 + q))]) (rest := []) C (c_X2_isWord E σ B t hT i hi q (by omega)) z_X2_isWord ck2 (by rfl) (by rfl) ml_X2_34 (by rfl) (Nat.le_of_ble_eq_true rfl) ⟨Nat.le_of_ble_eq_true rfl, Nat.le_of_ble_eq_true rfl⟩ dX2_tellDetail_2 (fun r1 σ1 w1 => ?_)
  obtain ⟨u1, u2⟩ := w1; rw [u1, u2]; clear u1 u2
  refine gx_if_eq (tgt := 20) C dX2_tellDetail_5 (by decide) (fun h2 => ?_) (fun h2 => ?_)
  ·
    have h2 := b2_z.mp h2
    refine gx_iconst (v := 1) C dX2_tellDetail_20 (by decide) ?_
    refine gx_goto (tgt := 25) C dX2_tellDetail_21 (by decide) ?_
    exact gx_iret C hr hlk (by first | rfl | exact nb_b2 _) (TR.yes Ft.rf hT hE (by simp only [dtR]; first | simp [*] | grind)) dX2_tellDetail_25
  ·
    have h2 := b2_nz.mp h2
    refine gx_aload_n C dX2_tellDetail_8 (by rfl) (by rfl) ?_
    refine gx_aload_n C dX2_tellDetail_9 (by rfl) (by rfl) ?_
    refine gx_iload_n C dX2_tellDetail_10 (by rfl) (by rfl) ?_
    refine gx_iconst (v := 0) C dX2_tellDetail_11 (by decide) ?_
    refine gx_iload C dX2_tellDetail_12 (by rfl) ?_
    refine gx_callVI (As := [.ref (eA E rc), .int (nI k), .int 0, .int mm]) (rest := []) C (c_X2_tellNumber E σ B t hT i hi rc ln hrc hln hr5 k (by omega) 0 mm) z_X2_tellNumber ck2 (by rfl) (by rfl) ml_X2_60 (by rfl) (Nat.le_of_ble_eq_true rfl) ⟨Nat.le_of_ble_eq_true rfl, Nat.le_of_ble_eq_true rfl⟩ dX2_tellDetail_14 (fun r3 σ3 w3 => ?_)
    by_cases hN3 : qN B t (qE B t i) 0 mm = true
    ·
      obtain ⟨rfl, rfl⟩ := w3.1 hN3
      refine gx_if_eq (tgt := 24) C dX2_tellDetail_17 (by decide) (fun h4 => ?_) (fun h4 => ?_)
      ·
        exact absurd h4 (by decide)
      ·
        clear h4
        refine gx_iconst (v := 1) C dX2_tellDetail_20 (by decide) ?_
        refine gx_goto (tgt := 25) C dX2_tellDetail_21 (by decide) ?_
        exact gx_iret C hr hlk (by first | rfl | exact nb_b2 _) (TR.yes (Ft.up Ft.rf (by omega) (by omega)) (Tp.up hT (by omega)) (hU (qV B t (qE B t i))) (by simp only [dtR]; first | simp [*] | grind)) dX2_tellDetail_25
    ·
      obtain ⟨rfl, rfl⟩ := w3.2 hN3
      refine gx_if_eq (tgt := 24) C dX2_tellDetail_17 (by decide) (fun h5 => ?_) (fun h5 => ?_)
      ·
        clear h5
        refine gx_iconst (v := 0) C dX2_tellDetail_24 (by decide) ?_
        exact gx_iret C hr hlk (by first | rfl | exact nb_b2 _) (TR.no Ft.rf hT (by simp only [dtR]; first | simp [*] | grind)) dX2_tellDetail_25
      ·
        exact absurd h5 (by decide)
set_option maxHeartbeats 4000000 in
set_option maxRecDepth 100000 in
theorem c_X2_lawTold (E : En) (σ : Mm) (B : Nat → Int32) (t : Nat) (hT : Tp σ B t) (i : Nat) (hi : i ≤ t) : CtI E yX2_lawTold cX2_lawTold 1 (some .int) 5 107 [.ref (eA E 3)] (tk σ B t i) (fun rr σ2 => σ2 = tk σ B t i ∧ rr = lwH B t i) := by
  have ht := hT.2.1
  refine CtI.of (by decide +kernel) (Nat.le_of_ble_eq_true rfl) (fun p e0 s m below meth c C hr hlk => ?_)
  refine gx_lv (lv' := [(0, .ref (eA E 3))]) rfl ?_
  refine gx_aload_n C dX2_lawTold_0 (by rfl) (by rfl) ?_
  refine gx_ldcS 2 C rfl dX2_lawTold_1 ?_
  refine gx_callVI (As := [.ref (eZ E (100 + 2))]) (rest := []) C (c_X2_isWord E σ B t hT i hi 2 (by omega)) z_X2_isWord ck2 (by rfl) (by rfl) ml_X2_34 (by rfl) (Nat.le_of_ble_eq_true rfl) ⟨Nat.le_of_ble_eq_true rfl, Nat.le_of_ble_eq_true rfl⟩ dX2_lawTold_3 (fun r1 σ1 w1 => ?_)
  obtain ⟨u1, u2⟩ := w1; rw [u1, u2]; clear u1 u2
  refine gx_if_eq (tgt := 11) C dX2_lawTold_6 (by decide) (fun h2 => ?_) (fun h2 => ?_)
  ·
    have h2 := b2_z.mp h2
    refine gx_aload_n C dX2_lawTold_11 (by rfl) (by rfl) ?_
    refine gx_ldcS 3 C rfl dX2_lawTold_12 ?_
    refine gx_callVI (As := [.ref (eZ E (100 + 3))]) (rest := []) C (c_X2_isWord E σ B t hT i hi 3 (by omega)) z_X2_isWord ck2 (by rfl) (by rfl) ml_X2_34 (by rfl) (Nat.le_of_ble_eq_true rfl) ⟨Nat.le_of_ble_eq_true rfl, Nat.le_of_ble_eq_true rfl⟩ dX2_lawTold_14 (fun r3 σ3 w3 => ?_)
    obtain ⟨u1, u2⟩ := w3; rw [u1, u2]; clear u1 u2
    refine gx_if_eq (tgt := 22) C dX2_lawTold_17 (by decide) (fun h4 => ?_) (fun h4 => ?_)
    ·
      have h4 := b2_z.mp h4
      refine gx_aload_n C dX2_lawTold_22 (by rfl) (by rfl) ?_
      refine gx_ldcS 4 C rfl dX2_lawTold_23 ?_
      refine gx_callVI (As := [.ref (eZ E (100 + 4))]) (rest := []) C (c_X2_isWord E σ B t hT i hi 4 (by omega)) z_X2_isWord ck2 (by rfl) (by rfl) ml_X2_34 (by rfl) (Nat.le_of_ble_eq_true rfl) ⟨Nat.le_of_ble_eq_true rfl, Nat.le_of_ble_eq_true rfl⟩ dX2_lawTold_25 (fun r5 σ5 w5 => ?_)
      obtain ⟨u1, u2⟩ := w5; rw [u1, u2]; clear u1 u2
      refine gx_if_eq (tgt := 35) C dX2_lawTold_28 (by decide) (fun h6 => ?_) (fun h6 => ?_)
      ·
        have h6 := b2_z.mp h6
        refine gx_iconst (v := (-1)) C dX2_lawTold_35 (by decide) ?_
        exact gx_iret C hr hlk rfl ⟨rfl, by unfold lwH; simp [*]⟩ dX2_lawTold_36
      ·
        have h6 := b2_nz.mp h6
        refine gx_iconst (v := 2) C dX2_lawTold_31 (by decide) ?_
        refine gx_goto (tgt := 36) C dX2_lawTold_32 (by decide) ?_
        exact gx_iret C hr hlk rfl ⟨rfl, by unfold lwH; simp [*]⟩ dX2_lawTold_36
    ·
      have h4 := b2_nz.mp h4
      refine gx_iconst (v := 1) C dX2_lawTold_20 (by decide) ?_
      exact gx_iret C hr hlk rfl ⟨rfl, by unfold lwH; simp [*]⟩ dX2_lawTold_21
  ·
    have h2 := b2_nz.mp h2
    refine gx_iconst (v := 0) C dX2_lawTold_9 (by decide) ?_
    exact gx_iret C hr hlk rfl ⟨rfl, by unfold lwH; simp [*]⟩ dX2_lawTold_10
set_option maxHeartbeats 4000000 in
set_option maxRecDepth 100000 in
theorem c_X2_kindTold (E : En) (σ : Mm) (B : Nat → Int32) (t : Nat) (hT : Tp σ B t) (i : Nat) (hi : i ≤ t) : CtI E yX2_kindTold cX2_kindTold 1 (some .int) 5 107 [.ref (eA E 3)] (tk σ B t i) (fun rr σ2 => σ2 = tk σ B t i ∧ rr = kdH B t i) := by
  have ht := hT.2.1
  refine CtI.of (by decide +kernel) (Nat.le_of_ble_eq_true rfl) (fun p e0 s m below meth c C hr hlk => ?_)
  refine gx_lv (lv' := [(0, .ref (eA E 3))]) rfl ?_
  refine gx_aload_n C dX2_kindTold_0 (by rfl) (by rfl) ?_
  refine gx_ldcS 5 C rfl dX2_kindTold_1 ?_
  refine gx_callVI (As := [.ref (eZ E (100 + 5))]) (rest := []) C (c_X2_isWord E σ B t hT i hi 5 (by omega)) z_X2_isWord ck2 (by rfl) (by rfl) ml_X2_34 (by rfl) (Nat.le_of_ble_eq_true rfl) ⟨Nat.le_of_ble_eq_true rfl, Nat.le_of_ble_eq_true rfl⟩ dX2_kindTold_3 (fun r1 σ1 w1 => ?_)
  obtain ⟨u1, u2⟩ := w1; rw [u1, u2]; clear u1 u2
  refine gx_if_eq (tgt := 11) C dX2_kindTold_6 (by decide) (fun h2 => ?_) (fun h2 => ?_)
  ·
    have h2 := b2_z.mp h2
    refine gx_aload_n C dX2_kindTold_11 (by rfl) (by rfl) ?_
    refine gx_ldcS 6 C rfl dX2_kindTold_12 ?_
    refine gx_callVI (As := [.ref (eZ E (100 + 6))]) (rest := []) C (c_X2_isWord E σ B t hT i hi 6 (by omega)) z_X2_isWord ck2 (by rfl) (by rfl) ml_X2_34 (by rfl) (Nat.le_of_ble_eq_true rfl) ⟨Nat.le_of_ble_eq_true rfl, Nat.le_of_ble_eq_true rfl⟩ dX2_kindTold_14 (fun r3 σ3 w3 => ?_)
    obtain ⟨u1, u2⟩ := w3; rw [u1, u2]; clear u1 u2
    refine gx_if_eq (tgt := 22) C dX2_kindTold_17 (by decide) (fun h4 => ?_) (fun h4 => ?_)
    ·
      have h4 := b2_z.mp h4
      refine gx_aload_n C dX2_kindTold_22 (by rfl) (by rfl) ?_
      refine gx_ldcS 7 C rfl dX2_kindTold_23 ?_
      refine gx_callVI (As := [.ref (eZ E (100 + 7))]) (rest := []) C (c_X2_isWord E σ B t hT i hi 7 (by omega)) z_X2_isWord ck2 (by rfl) (by rfl) ml_X2_34 (by rfl) (Nat.le_of_ble_eq_true rfl) ⟨Nat.le_of_ble_eq_true rfl, Nat.le_of_ble_eq_true rfl⟩ dX2_kindTold_25 (fun r5 σ5 w5 => ?_)
      obtain ⟨u1, u2⟩ := w5; rw [u1, u2]; clear u1 u2
      refine gx_if_eq (tgt := 33) C dX2_kindTold_28 (by decide) (fun h6 => ?_) (fun h6 => ?_)
      ·
        have h6 := b2_z.mp h6
        refine gx_aload_n C dX2_kindTold_33 (by rfl) (by rfl) ?_
        refine gx_ldcS 8 C rfl dX2_kindTold_34 ?_
        refine gx_callVI (As := [.ref (eZ E (100 + 8))]) (rest := []) C (c_X2_isWord E σ B t hT i hi 8 (by omega)) z_X2_isWord ck2 (by rfl) (by rfl) ml_X2_34 (by rfl) (Nat.le_of_ble_eq_true rfl) ⟨Nat.le_of_ble_eq_true rfl, Nat.le_of_ble_eq_true rfl⟩ dX2_kindTold_36 (fun r7 σ7 w7 => ?_)
        obtain ⟨u1, u2⟩ := w7; rw [u1, u2]; clear u1 u2
        refine gx_if_eq (tgt := 44) C dX2_kindTold_39 (by decide) (fun h8 => ?_) (fun h8 => ?_)
        ·
          have h8 := b2_z.mp h8
          refine gx_aload_n C dX2_kindTold_44 (by rfl) (by rfl) ?_
          refine gx_ldcS 9 C rfl dX2_kindTold_45 ?_
          refine gx_callVI (As := [.ref (eZ E (100 + 9))]) (rest := []) C (c_X2_isWord E σ B t hT i hi 9 (by omega)) z_X2_isWord ck2 (by rfl) (by rfl) ml_X2_34 (by rfl) (Nat.le_of_ble_eq_true rfl) ⟨Nat.le_of_ble_eq_true rfl, Nat.le_of_ble_eq_true rfl⟩ dX2_kindTold_47 (fun r9 σ9 w9 => ?_)
          obtain ⟨u1, u2⟩ := w9; rw [u1, u2]; clear u1 u2
          refine gx_if_eq (tgt := 55) C dX2_kindTold_50 (by decide) (fun h10 => ?_) (fun h10 => ?_)
          ·
            have h10 := b2_z.mp h10
            refine gx_aload_n C dX2_kindTold_55 (by rfl) (by rfl) ?_
            refine gx_ldcS 10 C rfl dX2_kindTold_56 ?_
            refine gx_callVI (As := [.ref (eZ E (100 + 10))]) (rest := []) C (c_X2_isWord E σ B t hT i hi 10 (by omega)) z_X2_isWord ck2 (by rfl) (by rfl) ml_X2_34 (by rfl) (Nat.le_of_ble_eq_true rfl) ⟨Nat.le_of_ble_eq_true rfl, Nat.le_of_ble_eq_true rfl⟩ dX2_kindTold_58 (fun r11 σ11 w11 => ?_)
            obtain ⟨u1, u2⟩ := w11; rw [u1, u2]; clear u1 u2
            refine gx_if_eq (tgt := 66) C dX2_kindTold_61 (by decide) (fun h12 => ?_) (fun h12 => ?_)
            ·
              have h12 := b2_z.mp h12
              refine gx_aload_n C dX2_kindTold_66 (by rfl) (by rfl) ?_
              refine gx_ldcS 11 C rfl dX2_kindTold_67 ?_
              refine gx_callVI (As := [.ref (eZ E (100 + 11))]) (rest := []) C (c_X2_isWord E σ B t hT i hi 11 (by omega)) z_X2_isWord ck2 (by rfl) (by rfl) ml_X2_34 (by rfl) (Nat.le_of_ble_eq_true rfl) ⟨Nat.le_of_ble_eq_true rfl, Nat.le_of_ble_eq_true rfl⟩ dX2_kindTold_69 (fun r13 σ13 w13 => ?_)
              obtain ⟨u1, u2⟩ := w13; rw [u1, u2]; clear u1 u2
              refine gx_if_eq (tgt := 80) C dX2_kindTold_72 (by decide) (fun h14 => ?_) (fun h14 => ?_)
              ·
                have h14 := b2_z.mp h14
                refine gx_iconst (v := (-1)) C dX2_kindTold_80 (by decide) ?_
                exact gx_iret C hr hlk rfl ⟨rfl, by unfold kdH; simp [*]⟩ dX2_kindTold_81
              ·
                have h14 := b2_nz.mp h14
                refine gx_bipush (v := 6) C dX2_kindTold_75 (by decide) ?_
                refine gx_goto (tgt := 81) C dX2_kindTold_77 (by decide) ?_
                exact gx_iret C hr hlk rfl ⟨rfl, by unfold kdH; simp [*]⟩ dX2_kindTold_81
            ·
              have h12 := b2_nz.mp h12
              refine gx_iconst (v := 5) C dX2_kindTold_64 (by decide) ?_
              exact gx_iret C hr hlk rfl ⟨rfl, by unfold kdH; simp [*]⟩ dX2_kindTold_65
          ·
            have h10 := b2_nz.mp h10
            refine gx_iconst (v := 4) C dX2_kindTold_53 (by decide) ?_
            exact gx_iret C hr hlk rfl ⟨rfl, by unfold kdH; simp [*]⟩ dX2_kindTold_54
        ·
          have h8 := b2_nz.mp h8
          refine gx_iconst (v := 3) C dX2_kindTold_42 (by decide) ?_
          exact gx_iret C hr hlk rfl ⟨rfl, by unfold kdH; simp [*]⟩ dX2_kindTold_43
      ·
        have h6 := b2_nz.mp h6
        refine gx_iconst (v := 2) C dX2_kindTold_31 (by decide) ?_
        exact gx_iret C hr hlk rfl ⟨rfl, by unfold kdH; simp [*]⟩ dX2_kindTold_32
    ·
      have h4 := b2_nz.mp h4
      refine gx_iconst (v := 1) C dX2_kindTold_20 (by decide) ?_
      exact gx_iret C hr hlk rfl ⟨rfl, by unfold kdH; simp [*]⟩ dX2_kindTold_21
  ·
    have h2 := b2_nz.mp h2
    refine gx_iconst (v := 0) C dX2_kindTold_9 (by decide) ?_
    exact gx_iret C hr hlk rfl ⟨rfl, by unfold kdH; simp [*]⟩ dX2_kindTold_10
set_option maxHeartbeats 4000000 in
set_option maxRecDepth 100000 in
theorem c_X2_tellRank (E : En) (σ : Mm) (B : Nat → Int32) (t : Nat) (hT : Tp σ B t) (i : Nat) (hi : i ≤ t) (K : Mm) (hE : Emp σ 37 K) (hO : Ok K) : CtI E yX2_tellRank cX2_tellRank 3 (some .boolean) 5 107 [.ref (eA E 3), .ref (eA E 37)] (tk σ B t i) (fun rr σ2 => TR B t σ (rk1 B t K (qE B t i)) rr σ2) := by
  have ht := hT.2.1
  have h12 := hO.1.2
  refine CtI.of (by decide +kernel) (Nat.le_of_ble_eq_true rfl) (fun p e0 s m below meth c C hr hlk => ?_)
  refine gx_lv (lv' := [(0, .ref (eA E 3)), (1, .ref (eA E 37))]) rfl ?_
  refine gx_aload_n C dX2_tellRank_0 (by rfl) (by rfl) ?_
  refine gx_callVV (As := []) (rest := []) C (c_X2_next2 E σ B t hT i hi) z_X2_next ck2 (by rfl) (by rfl) ml_X2_19 (by rfl) (Nat.le_of_ble_eq_true rfl) ⟨Nat.le_of_ble_eq_true rfl, Nat.le_of_ble_eq_true rfl⟩ dX2_tellRank_1 (fun σ1 w1 => ?_)
  rw [w1]; clear w1
  refine gx_aload_n C dX2_tellRank_4 (by rfl) (by rfl) ?_
  refine gx_iconst (v := 0) C dX2_tellRank_5 (by decide) ?_
  refine gx_bipush (v := 7) C dX2_tellRank_6 (by decide) ?_
  refine gx_callVI (As := [.int 0, .int 7]) (rest := []) C (c_X2_isNumber E σ B t hT (qE B t i) 0 7) z_X2_isNumber ck2 (by rfl) (by rfl) ml_X2_78 (by rfl) (Nat.le_of_ble_eq_true rfl) ⟨Nat.le_of_ble_eq_true rfl, Nat.le_of_ble_eq_true rfl⟩ dX2_tellRank_8 (fun r2 σ2 w2 => ?_)
  obtain ⟨u1, u2⟩ := w2; rw [u1, u2]; clear u1 u2
  refine gx_if_ne (tgt := 16) C dX2_tellRank_11 (by decide) (fun h3 => ?_) (fun h3 => ?_)
  ·
    have h3 := b2_nz.mp h3
    obtain ⟨r, hr8, er⟩ := qN_7 h3
    have cr : cl (nI r) = r := nI_clamp (by omega)
    refine gx_aload_n C dX2_tellRank_16 (by rfl) (by rfl) ?_
    refine gx_geti (k := 5) C ck2 (by rfl) (by rfl) (by decide) fl_X2_82 dX2_tellRank_17 ?_
    refine gx_st (st' := [.int (nI r)]) (by rw [tk_5, er]) ?_
    refine gx_istore_n (lv2 := [(2, .int (nI r)), (0, .ref (eA E 3)), (1, .ref (eA E 37))]) C dX2_tellRank_20 (by rfl) (by decide) rfl ?_
    refine gx_aload_n C dX2_tellRank_21 (by rfl) (by rfl) ?_
    refine gx_callVV (As := []) (rest := []) C (c_X2_next2 E σ B t hT (qE B t i) (qE_le (B := B) hi)) z_X2_next ck2 (by rfl) (by rfl) ml_X2_19 (by rfl) (Nat.le_of_ble_eq_true rfl) ⟨Nat.le_of_ble_eq_true rfl, Nat.le_of_ble_eq_true rfl⟩ dX2_tellRank_22 (fun σ4 w4 => ?_)
    rw [w4]; clear w4
    refine gx_aload_n C dX2_tellRank_25 (by rfl) (by rfl) ?_
    refine gx_ldcS 1 C rfl dX2_tellRank_26 ?_
    refine gx_callVI (As := [.ref (eZ E (100 + 1))]) (rest := []) C (c_X2_isWord E σ B t hT (qE B t (qE B t i)) (qE_le (B := B) (qE_le (B := B) hi)) 1 (by omega)) z_X2_isWord ck2 (by rfl) (by rfl) ml_X2_34 (by rfl) (Nat.le_of_ble_eq_true rfl) ⟨Nat.le_of_ble_eq_true rfl, Nat.le_of_ble_eq_true rfl⟩ dX2_tellRank_28 (fun r5 σ5 w5 => ?_)
    obtain ⟨u1, u2⟩ := w5; rw [u1, u2]; clear u1 u2
    refine gx_if_eq (tgt := 56) C dX2_tellRank_31 (by decide) (fun h6 => ?_) (fun h6 => ?_)
    ·
      have h6 := b2_z.mp h6
      refine gx_iconst (v := 0) C dX2_tellRank_56 (by decide) ?_
      exact gx_iret C hr hlk (by first | rfl | exact nb_b2 _) (TR.no Ft.rf hT (by simp only [rk1, rk2, rk3]; simp [*])) dX2_tellRank_57
    ·
      have h6 := b2_nz.mp h6
      refine gx_aload_n C dX2_tellRank_34 (by rfl) (by rfl) ?_
      refine gx_aload_n C dX2_tellRank_35 (by rfl) (by rfl) ?_
      refine gx_getr (j := 45) (k := 7) C ck0 (by rfl) (by rfl) (by decide) fl_X2_87 dX2_tellRank_36 ?_
      refine gx_iload_n C dX2_tellRank_39 (by rfl) (by rfl) ?_
      refine gx_aload_n C dX2_tellRank_40 (by rfl) (by rfl) ?_
      refine gx_iload_n C dX2_tellRank_41 (by rfl) (by rfl) ?_
      refine gx_callVI (As := [.int (nI r)]) (rest := [.int (nI r), .ref (eA E 45), .ref (eA E 3)]) C (k_X0_sizeOf E (tk σ B t (qE B t (qE B t i))) 37 isE_37 K (Emp.tk (B := B) (t := t) (j := (qE B t (qE B t i))) hE) hO r (by omega)) z_X0_sizeOf ck0 (by rfl) (by rfl) ml_X2_89 (by rfl) (Nat.le_of_ble_eq_true rfl) ⟨Nat.le_of_ble_eq_true rfl, Nat.le_of_ble_eq_true rfl⟩ dX2_tellRank_42 (fun r7 σ7 w7 => ?_)
      obtain ⟨u1, u2⟩ := w7; rw [u1, u2]; clear u1 u2
      refine gx_iconst (v := 4) C dX2_tellRank_45 (by decide) ?_
      refine gx_callVI (As := [.ref (eA E 45), .int (nI r), .int (nI (cnt (inP K (nI r)) (nn K))), .int 4]) (rest := []) C (c_X2_tellNumber E σ B t hT (qE B t (qE B t i)) (qE_le (B := B) (qE_le (B := B) hi)) 45 7 (by rfl) (by decide) (by decide) r (by omega) (nI (cnt (inP K (nI r)) (nn K))) 4) z_X2_tellNumber ck2 (by rfl) (by rfl) ml_X2_60 (by rfl) (Nat.le_of_ble_eq_true rfl) ⟨Nat.le_of_ble_eq_true rfl, Nat.le_of_ble_eq_true rfl⟩ dX2_tellRank_46 (fun r8 σ8 w8 => ?_)
      by_cases hN8 : qN B t (qE B t (qE B t (qE B t i))) (nI (cnt (inP K (nI r)) (nn K))) 4 = true
      ·
        obtain ⟨rfl, rfl⟩ := w8.1 hN8
        refine gx_if_eq (tgt := 56) C dX2_tellRank_49 (by decide) (fun h9 => ?_) (fun h9 => ?_)
        ·
          exact absurd h9 (by decide)
        ·
          clear h9
          refine gx_iconst (v := 1) C dX2_tellRank_52 (by decide) ?_
          refine gx_goto (tgt := 57) C dX2_tellRank_53 (by decide) ?_
          exact gx_iret C hr hlk (by first | rfl | exact nb_b2 _) (TR.yes (Ft.up Ft.rf (by omega) (by omega)) (Tp.up hT (by omega)) (hE.u8 (p := r) (v := qV B t (qE B t (qE B t (qE B t i)))) (by omega)) (by simp only [rk1, rk2, rk3]; simp [*])) dX2_tellRank_57
      ·
        obtain ⟨rfl, rfl⟩ := w8.2 hN8
        refine gx_if_eq (tgt := 56) C dX2_tellRank_49 (by decide) (fun h10 => ?_) (fun h10 => ?_)
        ·
          clear h10
          refine gx_iconst (v := 0) C dX2_tellRank_56 (by decide) ?_
          exact gx_iret C hr hlk (by first | rfl | exact nb_b2 _) (TR.no Ft.rf hT (by simp only [rk1, rk2, rk3]; simp [*])) dX2_tellRank_57
        ·
          exact absurd h10 (by decide)
  ·
    have h3 := b2_z.mp h3
    refine gx_iconst (v := 0) C dX2_tellRank_14 (by decide) ?_
    exact gx_iret C hr hlk (by first | rfl | exact nb_b2 _) (TR.no Ft.rf hT (by simp only [rk1, rk2, rk3]; simp [*])) dX2_tellRank_15
set_option maxHeartbeats 4000000 in
set_option maxRecDepth 100000 in
theorem c_X2_tellPerson (E : En) (σ : Mm) (B : Nat → Int32) (t : Nat) (hT : Tp σ B t) (i : Nat) (hi : i ≤ t) (K : Mm) (hE : Emp σ 37 K) (hO : Ok K) (hn12 : nn K < 12) (kd : Int32) (hkd : 0 ≤ kd ∧ kd ≤ 6) : CtI E yX2_tellPerson cX2_tellPerson 4 (some .boolean) 6 131 [.ref (eA E 3), .ref (eA E 37), .int kd] (tk σ B t i) (fun rr σ2 => TR B t σ (ps1 B t K kd (qE B t i)) rr σ2) := by
  have ht := hT.2.1
  have h12 := hO.1.2
  refine CtI.of (by decide +kernel) (Nat.le_of_ble_eq_true rfl) (fun p e0 s m below meth c C hr hlk => ?_)
  refine gx_lv (lv' := [(0, .ref (eA E 3)), (1, .ref (eA E 37)), (2, .int kd)]) rfl ?_
  refine gx_aload_n C dX2_tellPerson_0 (by rfl) (by rfl) ?_
  refine gx_callVV (As := []) (rest := []) C (c_X2_next2 E σ B t hT i hi) z_X2_next ck2 (by rfl) (by rfl) ml_X2_19 (by rfl) (Nat.le_of_ble_eq_true rfl) ⟨Nat.le_of_ble_eq_true rfl, Nat.le_of_ble_eq_true rfl⟩ dX2_tellPerson_1 (fun σ1 w1 => ?_)
  rw [w1]; clear w1
  refine gx_aload_n C dX2_tellPerson_4 (by rfl) (by rfl) ?_
  refine gx_ldcS 12 C rfl dX2_tellPerson_5 ?_
  refine gx_callVI (As := [.ref (eZ E (100 + 12))]) (rest := []) C (c_X2_isWord E σ B t hT (qE B t i) (qE_le (B := B) hi) 12 (by omega)) z_X2_isWord ck2 (by rfl) (by rfl) ml_X2_34 (by rfl) (Nat.le_of_ble_eq_true rfl) ⟨Nat.le_of_ble_eq_true rfl, Nat.le_of_ble_eq_true rfl⟩ dX2_tellPerson_7 (fun r2 σ2 w2 => ?_)
  obtain ⟨u1, u2⟩ := w2; rw [u1, u2]; clear u1 u2
  refine gx_if_ne (tgt := 15) C dX2_tellPerson_10 (by decide) (fun h3 => ?_) (fun h3 => ?_)
  ·
    have h3 := b2_nz.mp h3
    refine gx_aload_n C dX2_tellPerson_15 (by rfl) (by rfl) ?_
    refine gx_callVV (As := []) (rest := []) C (c_X2_next2 E σ B t hT (qE B t i) (qE_le (B := B) hi)) z_X2_next ck2 (by rfl) (by rfl) ml_X2_19 (by rfl) (Nat.le_of_ble_eq_true rfl) ⟨Nat.le_of_ble_eq_true rfl, Nat.le_of_ble_eq_true rfl⟩ dX2_tellPerson_16 (fun σ4 w4 => ?_)
    rw [w4]; clear w4
    refine gx_aload_n C dX2_tellPerson_19 (by rfl) (by rfl) ?_
    refine gx_iconst (v := 0) C dX2_tellPerson_20 (by decide) ?_
    refine gx_bipush (v := 7) C dX2_tellPerson_21 (by decide) ?_
    refine gx_callVI (As := [.int 0, .int 7]) (rest := []) C (c_X2_isNumber E σ B t hT (qE B t (qE B t i)) 0 7) z_X2_isNumber ck2 (by rfl) (by rfl) ml_X2_78 (by rfl) (Nat.le_of_ble_eq_true rfl) ⟨Nat.le_of_ble_eq_true rfl, Nat.le_of_ble_eq_true rfl⟩ dX2_tellPerson_23 (fun r5 σ5 w5 => ?_)
    obtain ⟨u1, u2⟩ := w5; rw [u1, u2]; clear u1 u2
    refine gx_if_eq (tgt := 40) C dX2_tellPerson_26 (by decide) (fun h6 => ?_) (fun h6 => ?_)
    ·
      have h6 := b2_z.mp h6
      refine gx_iconst (v := 0) C dX2_tellPerson_40 (by decide) ?_
      exact gx_iret C hr hlk (by first | rfl | exact nb_b2 _) (TR.no Ft.rf hT (by simp only [ps1, ps2, psD]; simp [*, bdR])) dX2_tellPerson_41
    ·
      have h6 := b2_nz.mp h6
      obtain ⟨r, hr8, er⟩ := qN_7 h6
      have cr : cl (nI r) = r := nI_clamp (by omega)
      refine gx_aload_n C dX2_tellPerson_29 (by rfl) (by rfl) ?_
      refine gx_aload_n C dX2_tellPerson_30 (by rfl) (by rfl) ?_
      refine gx_geti (k := 5) C ck2 (by rfl) (by rfl) (by decide) fl_X2_82 dX2_tellPerson_31 ?_
      refine gx_st (st' := [.int (nI r), .ref (eA E 37)]) (by rw [tk_5, er]) ?_
      refine gx_callVI (As := [.int (nI r)]) (rest := []) C (k_X0_hasFree E (tk σ B t (qE B t (qE B t i))) 37 isE_37 K (Emp.tk (B := B) (t := t) (j := (qE B t (qE B t i))) hE) hO r (by omega)) z_X0_hasFree ck0 (by rfl) (by rfl) ml_X2_95 (by rfl) (Nat.le_of_ble_eq_true rfl) ⟨Nat.le_of_ble_eq_true rfl, Nat.le_of_ble_eq_true rfl⟩ dX2_tellPerson_34 (fun r7 σ7 w7 => ?_)
      obtain ⟨u1, u2⟩ := w7; rw [u1, u2]; clear u1 u2
      refine gx_if_ne (tgt := 42) C dX2_tellPerson_37 (by decide) (fun h8 => ?_) (fun h8 => ?_)
      ·
        have h8 := b2_nz.mp h8
        refine gx_aload_n C dX2_tellPerson_42 (by rfl) (by rfl) ?_
        refine gx_iload_n C dX2_tellPerson_43 (by rfl) (by rfl) ?_
        refine gx_aload_n C dX2_tellPerson_44 (by rfl) (by rfl) ?_
        refine gx_geti (k := 5) C ck2 (by rfl) (by rfl) (by decide) fl_X2_82 dX2_tellPerson_45 ?_
        refine gx_st (st' := [.int (nI r), .int kd, .ref (eA E 37)]) (by rw [tk_5, er]) ?_
        refine gx_callVI (As := [.int kd, .int (nI r)]) (rest := []) C (c_X0_addOne E (tk σ B t (qE B t (qE B t i))) 37 isE_37 K (Emp.tk (B := B) (t := t) (j := (qE B t (qE B t i))) hE) hO (by omega) kd hkd r (by omega)) z_X0_addOne ck0 (by rfl) (by rfl) ml_X2_98 (by rfl) (Nat.le_of_ble_eq_true rfl) ⟨Nat.le_of_ble_eq_true rfl, Nat.le_of_ble_eq_true rfl⟩ dX2_tellPerson_48 (fun r9 σ9 w9 => ?_)
        obtain ⟨er9, hE9, hF9⟩ := w9
        have hT9 : Tp σ9 B t := (Tp.tk hT).fr hF9
        have hO9 := Ok_ad (kd := kd) (r := r) hO hn12 hkd hr8
        refine gx_st (st' := [.int (nI (nn K))]) (by rw [er9]) ?_
        refine gx_mm (σ' := tk σ9 B t (qE B t (qE B t i))) (tk_fr hF9) ?_
        refine gx_istore_n (lv2 := [(3, .int (nI (nn K))), (0, .ref (eA E 3)), (1, .ref (eA E 37)), (2, .int kd)]) C dX2_tellPerson_51 (by rfl) (by decide) rfl ?_
        refine gx_aload_n C dX2_tellPerson_52 (by rfl) (by rfl) ?_
        refine gx_callVV (As := []) (rest := []) C (c_X2_next2 E σ9 B t hT9 (qE B t (qE B t i)) (qE_le (B := B) (qE_le (B := B) hi))) z_X2_next ck2 (by rfl) (by rfl) ml_X2_19 (by rfl) (Nat.le_of_ble_eq_true rfl) ⟨Nat.le_of_ble_eq_true rfl, Nat.le_of_ble_eq_true rfl⟩ dX2_tellPerson_53 (fun σ10 w10 => ?_)
        rw [w10]; clear w10
        refine gx_aload_n C dX2_tellPerson_56 (by rfl) (by rfl) ?_
        refine gx_ldcS 13 C rfl dX2_tellPerson_57 ?_
        refine gx_aload_n C dX2_tellPerson_59 (by rfl) (by rfl) ?_
        refine gx_getr (j := 40) (k := 2) C ck0 (by rfl) (by rfl) (by decide) fl_X2_104 dX2_tellPerson_60 ?_
        refine gx_iload_n C dX2_tellPerson_63 (by rfl) (by rfl) ?_
        refine gx_bipush (v := 99) C dX2_tellPerson_64 (by decide) ?_
        refine gx_callVI (As := [.ref (eZ E (100 + 13)), .ref (eA E 40), .int (nI (nn K)), .int 99]) (rest := []) C (c_X2_tellDetail E σ9 B t hT9 (qE B t (qE B t (qE B t i))) (qE_le (B := B) (qE_le (B := B) (qE_le (B := B) hi))) 40 11 (by rfl) (by decide) (by decide) (nn K) (by omega) 13 (by omega) 3 (adK K kd (nI r)) hE9 (fun v => hE9.u3 (p := (nn K)) (v := v) (by omega)) 99) z_X2_tellDetail ck2 (by rfl) (by rfl) ml_X2_106 (by rfl) (Nat.le_of_ble_eq_true rfl) ⟨Nat.le_of_ble_eq_true rfl, Nat.le_of_ble_eq_true rfl⟩ dX2_tellPerson_66 (fun r11 σ11 w11 => ?_)
        obtain ⟨τ11, j11, rfl, hF11, hT11, ⟨K11, hx11, rfl, hE11⟩ | ⟨hx11, rfl⟩⟩ := w11
        ·
          have hg11 : j11 ≤ t := by have := (gx_dt (B := B) (t := t) (q := 13) (j := 3) (p := (nn K)) (mm := 99) (K := (adK K kd (nI r))) (P := fun _ => True) trivial (qE_le (B := B) (qE_le (B := B) (qE_le (B := B) hi))) (fun _ _ _ => trivial)); rw [hx11] at this; exact this.1.2
          refine gx_if_eq (tgt := 125) C dX2_tellPerson_69 (by decide) (fun h12 => ?_) (fun h12 => ?_)
          ·
            exact absurd h12 (by decide)
          ·
            clear h12
            refine gx_aload_n C dX2_tellPerson_72 (by rfl) (by rfl) ?_
            refine gx_ldcS 14 C rfl dX2_tellPerson_73 ?_
            refine gx_aload_n C dX2_tellPerson_75 (by rfl) (by rfl) ?_
            refine gx_getr (j := 41) (k := 3) C ck0 (by rfl) (by rfl) (by decide) fl_X2_112 dX2_tellPerson_76 ?_
            refine gx_iload_n C dX2_tellPerson_79 (by rfl) (by rfl) ?_
            refine gx_iconst (v := 3) C dX2_tellPerson_80 (by decide) ?_
            refine gx_callVI (As := [.ref (eZ E (100 + 14)), .ref (eA E 41), .int (nI (nn K)), .int 3]) (rest := []) C (c_X2_tellDetail E τ11 B t hT11 j11 hg11 41 11 (by rfl) (by decide) (by decide) (nn K) (by omega) 14 (by omega) 4 K11 hE11 (fun v => hE11.u4 (p := (nn K)) (v := v) (by omega)) 3) z_X2_tellDetail ck2 (by rfl) (by rfl) ml_X2_106 (by rfl) (Nat.le_of_ble_eq_true rfl) ⟨Nat.le_of_ble_eq_true rfl, Nat.le_of_ble_eq_true rfl⟩ dX2_tellPerson_81 (fun r13 σ13 w13 => ?_)
            obtain ⟨τ13, j13, rfl, hF13, hT13, ⟨K13, hx13, rfl, hE13⟩ | ⟨hx13, rfl⟩⟩ := w13
            ·
              have hg13 : j13 ≤ t := by have := (gx_dt (B := B) (t := t) (q := 14) (j := 4) (p := (nn K)) (mm := 3) (K := K11) (P := fun _ => True) trivial hg11 (fun _ _ _ => trivial)); rw [hx13] at this; exact this.1.2
              refine gx_if_eq (tgt := 125) C dX2_tellPerson_84 (by decide) (fun h14 => ?_) (fun h14 => ?_)
              ·
                exact absurd h14 (by decide)
              ·
                clear h14
                refine gx_aload_n C dX2_tellPerson_87 (by rfl) (by rfl) ?_
                refine gx_ldcS 15 C rfl dX2_tellPerson_88 ?_
                refine gx_aload_n C dX2_tellPerson_90 (by rfl) (by rfl) ?_
                refine gx_getr (j := 42) (k := 4) C ck0 (by rfl) (by rfl) (by decide) fl_X2_116 dX2_tellPerson_91 ?_
                refine gx_iload_n C dX2_tellPerson_94 (by rfl) (by rfl) ?_
                refine gx_sipush (v := 9999) C dX2_tellPerson_95 (by decide) ?_
                refine gx_callVI (As := [.ref (eZ E (100 + 15)), .ref (eA E 42), .int (nI (nn K)), .int 9999]) (rest := []) C (c_X2_tellDetail E τ13 B t hT13 j13 hg13 42 11 (by rfl) (by decide) (by decide) (nn K) (by omega) 15 (by omega) 5 K13 hE13 (fun v => hE13.u5 (p := (nn K)) (v := v) (by omega)) 9999) z_X2_tellDetail ck2 (by rfl) (by rfl) ml_X2_106 (by rfl) (Nat.le_of_ble_eq_true rfl) ⟨Nat.le_of_ble_eq_true rfl, Nat.le_of_ble_eq_true rfl⟩ dX2_tellPerson_98 (fun r15 σ15 w15 => ?_)
                obtain ⟨τ15, j15, rfl, hF15, hT15, ⟨K15, hx15, rfl, hE15⟩ | ⟨hx15, rfl⟩⟩ := w15
                ·
                  have hg15 : j15 ≤ t := by have := (gx_dt (B := B) (t := t) (q := 15) (j := 5) (p := (nn K)) (mm := 9999) (K := K13) (P := fun _ => True) trivial hg13 (fun _ _ _ => trivial)); rw [hx15] at this; exact this.1.2
                  refine gx_if_eq (tgt := 125) C dX2_tellPerson_101 (by decide) (fun h16 => ?_) (fun h16 => ?_)
                  ·
                    exact absurd h16 (by decide)
                  ·
                    clear h16
                    refine gx_aload_n C dX2_tellPerson_104 (by rfl) (by rfl) ?_
                    refine gx_ldcS 16 C rfl dX2_tellPerson_105 ?_
                    refine gx_aload_n C dX2_tellPerson_107 (by rfl) (by rfl) ?_
                    refine gx_getr (j := 43) (k := 5) C ck0 (by rfl) (by rfl) (by decide) fl_X2_120 dX2_tellPerson_108 ?_
                    refine gx_iload_n C dX2_tellPerson_111 (by rfl) (by rfl) ?_
                    refine gx_iload_n C dX2_tellPerson_112 (by rfl) (by rfl) ?_
                    refine gx_iconst (v := 1) C dX2_tellPerson_113 (by decide) ?_
                    refine gx_isub C dX2_tellPerson_114 ?_
                    refine gx_callVI (As := [.ref (eZ E (100 + 16)), .ref (eA E 43), .int (nI (nn K)), .int ((nI (nn K)) - 1)]) (rest := []) C (c_X2_tellDetail E τ15 B t hT15 j15 hg15 43 11 (by rfl) (by decide) (by decide) (nn K) (by omega) 16 (by omega) 6 K15 hE15 (fun v => hE15.u6 (p := (nn K)) (v := v) (by omega)) ((nI (nn K)) - 1)) z_X2_tellDetail ck2 (by rfl) (by rfl) ml_X2_106 (by rfl) (Nat.le_of_ble_eq_true rfl) ⟨Nat.le_of_ble_eq_true rfl, Nat.le_of_ble_eq_true rfl⟩ dX2_tellPerson_115 (fun r17 σ17 w17 => ?_)
                    obtain ⟨τ17, j17, rfl, hF17, hT17, ⟨K17, hx17, rfl, hE17⟩ | ⟨hx17, rfl⟩⟩ := w17
                    ·
                      have hg17 : j17 ≤ t := by have := (gx_dt (B := B) (t := t) (q := 16) (j := 6) (p := (nn K)) (mm := ((nI (nn K)) - 1)) (K := K15) (P := fun _ => True) trivial hg15 (fun _ _ _ => trivial)); rw [hx17] at this; exact this.1.2
                      refine gx_if_eq (tgt := 125) C dX2_tellPerson_118 (by decide) (fun h18 => ?_) (fun h18 => ?_)
                      ·
                        exact absurd h18 (by decide)
                      ·
                        clear h18
                        refine gx_iconst (v := 1) C dX2_tellPerson_121 (by decide) ?_
                        refine gx_goto (tgt := 126) C dX2_tellPerson_122 (by decide) ?_
                        exact gx_iret C hr hlk (by first | rfl | exact nb_b2 _) (TR.yes (Ft.tr (Ft.tr (Ft.tr (Ft.tr (Ft.fr Ft.rf hF9) hF11) hF13) hF15) hF17) hT17 hE17 (by simp only [ps1, ps2, psD]; simp [*, bdR])) dX2_tellPerson_126
                    ·
                      have hg17 : j17 ≤ t := by have := (gx_dt (B := B) (t := t) (q := 16) (j := 6) (p := (nn K)) (mm := ((nI (nn K)) - 1)) (K := K15) (P := fun _ => True) trivial hg15 (fun _ _ _ => trivial)); rw [hx17] at this; exact this.1.2
                      refine gx_if_eq (tgt := 125) C dX2_tellPerson_118 (by decide) (fun h19 => ?_) (fun h19 => ?_)
                      ·
                        clear h19
                        refine gx_iconst (v := 0) C dX2_tellPerson_125 (by decide) ?_
                        exact gx_iret C hr hlk (by first | rfl | exact nb_b2 _) (TR.no (Ft.tr (Ft.tr (Ft.tr (Ft.tr (Ft.fr Ft.rf hF9) hF11) hF13) hF15) hF17) hT17 (by simp only [ps1, ps2, psD]; simp [*, bdR])) dX2_tellPerson_126
                      ·
                        exact absurd h19 (by decide)
                ·
                  have hg15 : j15 ≤ t := by have := (gx_dt (B := B) (t := t) (q := 15) (j := 5) (p := (nn K)) (mm := 9999) (K := K13) (P := fun _ => True) trivial hg13 (fun _ _ _ => trivial)); rw [hx15] at this; exact this.1.2
                  refine gx_if_eq (tgt := 125) C dX2_tellPerson_101 (by decide) (fun h20 => ?_) (fun h20 => ?_)
                  ·
                    clear h20
                    refine gx_iconst (v := 0) C dX2_tellPerson_125 (by decide) ?_
                    exact gx_iret C hr hlk (by first | rfl | exact nb_b2 _) (TR.no (Ft.tr (Ft.tr (Ft.tr (Ft.fr Ft.rf hF9) hF11) hF13) hF15) hT15 (by simp only [ps1, ps2, psD]; simp [*, bdR])) dX2_tellPerson_126
                  ·
                    exact absurd h20 (by decide)
            ·
              have hg13 : j13 ≤ t := by have := (gx_dt (B := B) (t := t) (q := 14) (j := 4) (p := (nn K)) (mm := 3) (K := K11) (P := fun _ => True) trivial hg11 (fun _ _ _ => trivial)); rw [hx13] at this; exact this.1.2
              refine gx_if_eq (tgt := 125) C dX2_tellPerson_84 (by decide) (fun h21 => ?_) (fun h21 => ?_)
              ·
                clear h21
                refine gx_iconst (v := 0) C dX2_tellPerson_125 (by decide) ?_
                exact gx_iret C hr hlk (by first | rfl | exact nb_b2 _) (TR.no (Ft.tr (Ft.tr (Ft.fr Ft.rf hF9) hF11) hF13) hT13 (by simp only [ps1, ps2, psD]; simp [*, bdR])) dX2_tellPerson_126
              ·
                exact absurd h21 (by decide)
        ·
          have hg11 : j11 ≤ t := by have := (gx_dt (B := B) (t := t) (q := 13) (j := 3) (p := (nn K)) (mm := 99) (K := (adK K kd (nI r))) (P := fun _ => True) trivial (qE_le (B := B) (qE_le (B := B) (qE_le (B := B) hi))) (fun _ _ _ => trivial)); rw [hx11] at this; exact this.1.2
          refine gx_if_eq (tgt := 125) C dX2_tellPerson_69 (by decide) (fun h22 => ?_) (fun h22 => ?_)
          ·
            clear h22
            refine gx_iconst (v := 0) C dX2_tellPerson_125 (by decide) ?_
            exact gx_iret C hr hlk (by first | rfl | exact nb_b2 _) (TR.no (Ft.tr (Ft.fr Ft.rf hF9) hF11) hT11 (by simp only [ps1, ps2, psD]; simp [*, bdR])) dX2_tellPerson_126
          ·
            exact absurd h22 (by decide)
      ·
        have h8 := b2_z.mp h8
        refine gx_iconst (v := 0) C dX2_tellPerson_40 (by decide) ?_
        exact gx_iret C hr hlk (by first | rfl | exact nb_b2 _) (TR.no Ft.rf hT (by simp only [ps1, ps2, psD]; simp [*, bdR])) dX2_tellPerson_41
  ·
    have h3 := b2_z.mp h3
    refine gx_iconst (v := 0) C dX2_tellPerson_13 (by decide) ?_
    exact gx_iret C hr hlk (by first | rfl | exact nb_b2 _) (TR.no Ft.rf hT (by simp only [ps1, ps2, psD]; simp [*, bdR])) dX2_tellPerson_14
