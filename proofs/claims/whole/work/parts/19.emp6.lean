def okd (k : Nat) (w : Int32) : Bool := (([[0], [1, 0], [2, 0], [3, 2, 0], [4, 1, 0], [5, 0], [6, 1, 0]] : List (List Int32)).getD k []).contains w
set_option maxHeartbeats 4000000 in
set_option maxRecDepth 100000 in
theorem c_X3_isOfKind_0 (E : En) (σ : Mm) (w : Int32) : CtI E yX3_isOfKind cX3_isOfKind 4 (some .boolean) 2 42 [.int 0, .int w] σ (fun rr σ2 => σ2 = σ ∧ rr = b2 (okd 0 w = true)) := by
  refine CtI.of (by decide +kernel) (Nat.le_of_ble_eq_true rfl) (fun p e0 s m below meth c C hr hlk => ?_)
  refine gx_lv (lv' := [(0, .int 0), (1, .int w)]) rfl ?_
  refine gx_iload_n C dX3_isOfKind_0 (by rfl) (by rfl) ?_
  refine gx_istore_n (lv2 := [(2, .int 0), (0, .int 0), (1, .int w)]) C dX3_isOfKind_1 (by rfl) (by decide) rfl ?_
  refine gx_iconst (v := 0) C dX3_isOfKind_2 (by decide) ?_
  refine gx_istore_n (lv2 := [(3, .int 0), (2, .int 0), (0, .int 0), (1, .int w)]) C dX3_isOfKind_3 (by rfl) (by decide) rfl ?_
  refine gx_iload_n C dX3_isOfKind_4 (by rfl) (by rfl) ?_
  refine gx_bipush (v := 7) C dX3_isOfKind_5 (by decide) ?_
  refine gx_icmp_ge (tgt := 36) C dX3_isOfKind_7 (by decide) (fun h1 => ?_) (fun h1 => ?_)
  ·
    exact absurd h1 (by decide)
  ·
    clear h1
    refine gx_iload_n C dX3_isOfKind_10 (by rfl) (by rfl) ?_
    refine gx_callSI (As := [.int 0]) (rest := []) C (c_X3_isKind E σ 0) z_X3_isKind (by rfl) ml_X3_84 (by rfl) (Nat.le_of_ble_eq_true rfl) ⟨Nat.le_of_ble_eq_true rfl, Nat.le_of_ble_eq_true rfl⟩ dX3_isOfKind_11 (fun r2 σ2 w2 => ?_)
    obtain ⟨u1, u2⟩ := w2; rw [u1, u2]; clear u1 u2
    refine gx_if_eq (tgt := 36) C dX3_isOfKind_14 (by decide) (fun h3 => ?_) (fun h3 => ?_)
    ·
      exact absurd h3 (by decide)
    ·
      clear h3
      refine gx_iload_n C dX3_isOfKind_17 (by rfl) (by rfl) ?_
      refine gx_iload_n C dX3_isOfKind_18 (by rfl) (by rfl) ?_
      refine gx_icmp_ne (tgt := 24) C dX3_isOfKind_19 (by decide) (fun h4 => ?_) (fun h4 => ?_)
      ·
        refine gx_stat (q := 0) C C.2.2.2.2.2.2.2.1.1 fl_X3_276 dX3_isOfKind_24 ?_
        refine gx_iload_n C dX3_isOfKind_27 (by rfl) (by rfl) ?_
        refine gx_ext (k := 0) (v := (-1)) C C.2.2.2.2.2.2.2.1.2 (by rfl) (by decide) (by decide) (by rfl) dX3_isOfKind_28 ?_
        refine gx_istore_n (lv2 := [(2, .int (-1)), (3, .int 0), (0, .int 0), (1, .int w)]) C dX3_isOfKind_29 (by rfl) (by decide) rfl ?_
        refine gx_iinc (v := 1) (lv2 := [(3, .int 1), (2, .int (-1)), (0, .int 0), (1, .int w)]) C dX3_isOfKind_30 (by rfl) (by decide) (by decide) rfl ?_
        refine gx_goto (tgt := 4) C dX3_isOfKind_33 (by decide) ?_
        refine gx_iload_n C dX3_isOfKind_4 (by rfl) (by rfl) ?_
        refine gx_bipush (v := 7) C dX3_isOfKind_5 (by decide) ?_
        refine gx_icmp_ge (tgt := 36) C dX3_isOfKind_7 (by decide) (fun h5 => ?_) (fun h5 => ?_)
        ·
          exact absurd h5 (by decide)
        ·
          clear h5
          refine gx_iload_n C dX3_isOfKind_10 (by rfl) (by rfl) ?_
          refine gx_callSI (As := [.int (-1)]) (rest := []) C (c_X3_isKind E σ (-1)) z_X3_isKind (by rfl) ml_X3_84 (by rfl) (Nat.le_of_ble_eq_true rfl) ⟨Nat.le_of_ble_eq_true rfl, Nat.le_of_ble_eq_true rfl⟩ dX3_isOfKind_11 (fun r6 σ6 w6 => ?_)
          obtain ⟨u1, u2⟩ := w6; rw [u1, u2]; clear u1 u2
          refine gx_if_eq (tgt := 36) C dX3_isOfKind_14 (by decide) (fun h7 => ?_) (fun h7 => ?_)
          ·
            clear h7
            refine gx_iconst (v := 0) C dX3_isOfKind_36 (by decide) ?_
            exact gx_iret C hr hlk (by first | rfl | exact nb_b2 _) ⟨rfl, by first | exact b2_t (by simp [okd, *]; done) | exact b2_t (by simp only [okd]; grind) | exact b2_f (by simp [okd]; grind)⟩ dX3_isOfKind_37
          ·
            exact absurd h7 (by decide)
      ·
        refine gx_iconst (v := 1) C dX3_isOfKind_22 (by decide) ?_
        exact gx_iret C hr hlk (by first | rfl | exact nb_b2 _) ⟨rfl, by first | exact b2_t (by simp [okd, *]; done) | exact b2_t (by simp only [okd]; grind) | exact b2_f (by simp [okd]; grind)⟩ dX3_isOfKind_23
set_option maxHeartbeats 4000000 in
set_option maxRecDepth 100000 in
theorem c_X3_isOfKind_1 (E : En) (σ : Mm) (w : Int32) : CtI E yX3_isOfKind cX3_isOfKind 4 (some .boolean) 2 42 [.int 1, .int w] σ (fun rr σ2 => σ2 = σ ∧ rr = b2 (okd 1 w = true)) := by
  refine CtI.of (by decide +kernel) (Nat.le_of_ble_eq_true rfl) (fun p e0 s m below meth c C hr hlk => ?_)
  refine gx_lv (lv' := [(0, .int 1), (1, .int w)]) rfl ?_
  refine gx_iload_n C dX3_isOfKind_0 (by rfl) (by rfl) ?_
  refine gx_istore_n (lv2 := [(2, .int 1), (0, .int 1), (1, .int w)]) C dX3_isOfKind_1 (by rfl) (by decide) rfl ?_
  refine gx_iconst (v := 0) C dX3_isOfKind_2 (by decide) ?_
  refine gx_istore_n (lv2 := [(3, .int 0), (2, .int 1), (0, .int 1), (1, .int w)]) C dX3_isOfKind_3 (by rfl) (by decide) rfl ?_
  refine gx_iload_n C dX3_isOfKind_4 (by rfl) (by rfl) ?_
  refine gx_bipush (v := 7) C dX3_isOfKind_5 (by decide) ?_
  refine gx_icmp_ge (tgt := 36) C dX3_isOfKind_7 (by decide) (fun h1 => ?_) (fun h1 => ?_)
  ·
    exact absurd h1 (by decide)
  ·
    clear h1
    refine gx_iload_n C dX3_isOfKind_10 (by rfl) (by rfl) ?_
    refine gx_callSI (As := [.int 1]) (rest := []) C (c_X3_isKind E σ 1) z_X3_isKind (by rfl) ml_X3_84 (by rfl) (Nat.le_of_ble_eq_true rfl) ⟨Nat.le_of_ble_eq_true rfl, Nat.le_of_ble_eq_true rfl⟩ dX3_isOfKind_11 (fun r2 σ2 w2 => ?_)
    obtain ⟨u1, u2⟩ := w2; rw [u1, u2]; clear u1 u2
    refine gx_if_eq (tgt := 36) C dX3_isOfKind_14 (by decide) (fun h3 => ?_) (fun h3 => ?_)
    ·
      exact absurd h3 (by decide)
    ·
      clear h3
      refine gx_iload_n C dX3_isOfKind_17 (by rfl) (by rfl) ?_
      refine gx_iload_n C dX3_isOfKind_18 (by rfl) (by rfl) ?_
      refine gx_icmp_ne (tgt := 24) C dX3_isOfKind_19 (by decide) (fun h4 => ?_) (fun h4 => ?_)
      ·
        refine gx_stat (q := 0) C C.2.2.2.2.2.2.2.1.1 fl_X3_276 dX3_isOfKind_24 ?_
        refine gx_iload_n C dX3_isOfKind_27 (by rfl) (by rfl) ?_
        refine gx_ext (k := 1) (v := 0) C C.2.2.2.2.2.2.2.1.2 (by rfl) (by decide) (by decide) (by rfl) dX3_isOfKind_28 ?_
        refine gx_istore_n (lv2 := [(2, .int 0), (3, .int 0), (0, .int 1), (1, .int w)]) C dX3_isOfKind_29 (by rfl) (by decide) rfl ?_
        refine gx_iinc (v := 1) (lv2 := [(3, .int 1), (2, .int 0), (0, .int 1), (1, .int w)]) C dX3_isOfKind_30 (by rfl) (by decide) (by decide) rfl ?_
        refine gx_goto (tgt := 4) C dX3_isOfKind_33 (by decide) ?_
        refine gx_iload_n C dX3_isOfKind_4 (by rfl) (by rfl) ?_
        refine gx_bipush (v := 7) C dX3_isOfKind_5 (by decide) ?_
        refine gx_icmp_ge (tgt := 36) C dX3_isOfKind_7 (by decide) (fun h5 => ?_) (fun h5 => ?_)
        ·
          exact absurd h5 (by decide)
        ·
          clear h5
          refine gx_iload_n C dX3_isOfKind_10 (by rfl) (by rfl) ?_
          refine gx_callSI (As := [.int 0]) (rest := []) C (c_X3_isKind E σ 0) z_X3_isKind (by rfl) ml_X3_84 (by rfl) (Nat.le_of_ble_eq_true rfl) ⟨Nat.le_of_ble_eq_true rfl, Nat.le_of_ble_eq_true rfl⟩ dX3_isOfKind_11 (fun r6 σ6 w6 => ?_)
          obtain ⟨u1, u2⟩ := w6; rw [u1, u2]; clear u1 u2
          refine gx_if_eq (tgt := 36) C dX3_isOfKind_14 (by decide) (fun h7 => ?_) (fun h7 => ?_)
          ·
            exact absurd h7 (by decide)
          ·
            clear h7
            refine gx_iload_n C dX3_isOfKind_17 (by rfl) (by rfl) ?_
            refine gx_iload_n C dX3_isOfKind_18 (by rfl) (by rfl) ?_
            refine gx_icmp_ne (tgt := 24) C dX3_isOfKind_19 (by decide) (fun h8 => ?_) (fun h8 => ?_)
            ·
              refine gx_stat (q := 0) C C.2.2.2.2.2.2.2.1.1 fl_X3_276 dX3_isOfKind_24 ?_
              refine gx_iload_n C dX3_isOfKind_27 (by rfl) (by rfl) ?_
              refine gx_ext (k := 0) (v := (-1)) C C.2.2.2.2.2.2.2.1.2 (by rfl) (by decide) (by decide) (by rfl) dX3_isOfKind_28 ?_
              refine gx_istore_n (lv2 := [(2, .int (-1)), (3, .int 1), (0, .int 1), (1, .int w)]) C dX3_isOfKind_29 (by rfl) (by decide) rfl ?_
              refine gx_iinc (v := 2) (lv2 := [(3, .int 2), (2, .int (-1)), (0, .int 1), (1, .int w)]) C dX3_isOfKind_30 (by rfl) (by decide) (by decide) rfl ?_
              refine gx_goto (tgt := 4) C dX3_isOfKind_33 (by decide) ?_
              refine gx_iload_n C dX3_isOfKind_4 (by rfl) (by rfl) ?_
              refine gx_bipush (v := 7) C dX3_isOfKind_5 (by decide) ?_
              refine gx_icmp_ge (tgt := 36) C dX3_isOfKind_7 (by decide) (fun h9 => ?_) (fun h9 => ?_)
              ·
                exact absurd h9 (by decide)
              ·
                clear h9
                refine gx_iload_n C dX3_isOfKind_10 (by rfl) (by rfl) ?_
                refine gx_callSI (As := [.int (-1)]) (rest := []) C (c_X3_isKind E σ (-1)) z_X3_isKind (by rfl) ml_X3_84 (by rfl) (Nat.le_of_ble_eq_true rfl) ⟨Nat.le_of_ble_eq_true rfl, Nat.le_of_ble_eq_true rfl⟩ dX3_isOfKind_11 (fun r10 σ10 w10 => ?_)
                obtain ⟨u1, u2⟩ := w10; rw [u1, u2]; clear u1 u2
                refine gx_if_eq (tgt := 36) C dX3_isOfKind_14 (by decide) (fun h11 => ?_) (fun h11 => ?_)
                ·
                  clear h11
                  refine gx_iconst (v := 0) C dX3_isOfKind_36 (by decide) ?_
                  exact gx_iret C hr hlk (by first | rfl | exact nb_b2 _) ⟨rfl, by first | exact b2_t (by simp [okd, *]; done) | exact b2_t (by simp only [okd]; grind) | exact b2_f (by simp [okd]; grind)⟩ dX3_isOfKind_37
                ·
                  exact absurd h11 (by decide)
            ·
              refine gx_iconst (v := 1) C dX3_isOfKind_22 (by decide) ?_
              exact gx_iret C hr hlk (by first | rfl | exact nb_b2 _) ⟨rfl, by first | exact b2_t (by simp [okd, *]; done) | exact b2_t (by simp only [okd]; grind) | exact b2_f (by simp [okd]; grind)⟩ dX3_isOfKind_23
      ·
        refine gx_iconst (v := 1) C dX3_isOfKind_22 (by decide) ?_
        exact gx_iret C hr hlk (by first | rfl | exact nb_b2 _) ⟨rfl, by first | exact b2_t (by simp [okd, *]; done) | exact b2_t (by simp only [okd]; grind) | exact b2_f (by simp [okd]; grind)⟩ dX3_isOfKind_23
set_option maxHeartbeats 4000000 in
set_option maxRecDepth 100000 in
theorem c_X3_isOfKind_2 (E : En) (σ : Mm) (w : Int32) : CtI E yX3_isOfKind cX3_isOfKind 4 (some .boolean) 2 42 [.int 2, .int w] σ (fun rr σ2 => σ2 = σ ∧ rr = b2 (okd 2 w = true)) := by
  refine CtI.of (by decide +kernel) (Nat.le_of_ble_eq_true rfl) (fun p e0 s m below meth c C hr hlk => ?_)
  refine gx_lv (lv' := [(0, .int 2), (1, .int w)]) rfl ?_
  refine gx_iload_n C dX3_isOfKind_0 (by rfl) (by rfl) ?_
  refine gx_istore_n (lv2 := [(2, .int 2), (0, .int 2), (1, .int w)]) C dX3_isOfKind_1 (by rfl) (by decide) rfl ?_
  refine gx_iconst (v := 0) C dX3_isOfKind_2 (by decide) ?_
  refine gx_istore_n (lv2 := [(3, .int 0), (2, .int 2), (0, .int 2), (1, .int w)]) C dX3_isOfKind_3 (by rfl) (by decide) rfl ?_
  refine gx_iload_n C dX3_isOfKind_4 (by rfl) (by rfl) ?_
  refine gx_bipush (v := 7) C dX3_isOfKind_5 (by decide) ?_
  refine gx_icmp_ge (tgt := 36) C dX3_isOfKind_7 (by decide) (fun h1 => ?_) (fun h1 => ?_)
  ·
    exact absurd h1 (by decide)
  ·
    clear h1
    refine gx_iload_n C dX3_isOfKind_10 (by rfl) (by rfl) ?_
    refine gx_callSI (As := [.int 2]) (rest := []) C (c_X3_isKind E σ 2) z_X3_isKind (by rfl) ml_X3_84 (by rfl) (Nat.le_of_ble_eq_true rfl) ⟨Nat.le_of_ble_eq_true rfl, Nat.le_of_ble_eq_true rfl⟩ dX3_isOfKind_11 (fun r2 σ2 w2 => ?_)
    obtain ⟨u1, u2⟩ := w2; rw [u1, u2]; clear u1 u2
    refine gx_if_eq (tgt := 36) C dX3_isOfKind_14 (by decide) (fun h3 => ?_) (fun h3 => ?_)
    ·
      exact absurd h3 (by decide)
    ·
      clear h3
      refine gx_iload_n C dX3_isOfKind_17 (by rfl) (by rfl) ?_
      refine gx_iload_n C dX3_isOfKind_18 (by rfl) (by rfl) ?_
      refine gx_icmp_ne (tgt := 24) C dX3_isOfKind_19 (by decide) (fun h4 => ?_) (fun h4 => ?_)
      ·
        refine gx_stat (q := 0) C C.2.2.2.2.2.2.2.1.1 fl_X3_276 dX3_isOfKind_24 ?_
        refine gx_iload_n C dX3_isOfKind_27 (by rfl) (by rfl) ?_
        refine gx_ext (k := 2) (v := 0) C C.2.2.2.2.2.2.2.1.2 (by rfl) (by decide) (by decide) (by rfl) dX3_isOfKind_28 ?_
        refine gx_istore_n (lv2 := [(2, .int 0), (3, .int 0), (0, .int 2), (1, .int w)]) C dX3_isOfKind_29 (by rfl) (by decide) rfl ?_
        refine gx_iinc (v := 1) (lv2 := [(3, .int 1), (2, .int 0), (0, .int 2), (1, .int w)]) C dX3_isOfKind_30 (by rfl) (by decide) (by decide) rfl ?_
        refine gx_goto (tgt := 4) C dX3_isOfKind_33 (by decide) ?_
        refine gx_iload_n C dX3_isOfKind_4 (by rfl) (by rfl) ?_
        refine gx_bipush (v := 7) C dX3_isOfKind_5 (by decide) ?_
        refine gx_icmp_ge (tgt := 36) C dX3_isOfKind_7 (by decide) (fun h5 => ?_) (fun h5 => ?_)
        ·
          exact absurd h5 (by decide)
        ·
          clear h5
          refine gx_iload_n C dX3_isOfKind_10 (by rfl) (by rfl) ?_
          refine gx_callSI (As := [.int 0]) (rest := []) C (c_X3_isKind E σ 0) z_X3_isKind (by rfl) ml_X3_84 (by rfl) (Nat.le_of_ble_eq_true rfl) ⟨Nat.le_of_ble_eq_true rfl, Nat.le_of_ble_eq_true rfl⟩ dX3_isOfKind_11 (fun r6 σ6 w6 => ?_)
          obtain ⟨u1, u2⟩ := w6; rw [u1, u2]; clear u1 u2
          refine gx_if_eq (tgt := 36) C dX3_isOfKind_14 (by decide) (fun h7 => ?_) (fun h7 => ?_)
          ·
            exact absurd h7 (by decide)
          ·
            clear h7
            refine gx_iload_n C dX3_isOfKind_17 (by rfl) (by rfl) ?_
            refine gx_iload_n C dX3_isOfKind_18 (by rfl) (by rfl) ?_
            refine gx_icmp_ne (tgt := 24) C dX3_isOfKind_19 (by decide) (fun h8 => ?_) (fun h8 => ?_)
            ·
              refine gx_stat (q := 0) C C.2.2.2.2.2.2.2.1.1 fl_X3_276 dX3_isOfKind_24 ?_
              refine gx_iload_n C dX3_isOfKind_27 (by rfl) (by rfl) ?_
              refine gx_ext (k := 0) (v := (-1)) C C.2.2.2.2.2.2.2.1.2 (by rfl) (by decide) (by decide) (by rfl) dX3_isOfKind_28 ?_
              refine gx_istore_n (lv2 := [(2, .int (-1)), (3, .int 1), (0, .int 2), (1, .int w)]) C dX3_isOfKind_29 (by rfl) (by decide) rfl ?_
              refine gx_iinc (v := 2) (lv2 := [(3, .int 2), (2, .int (-1)), (0, .int 2), (1, .int w)]) C dX3_isOfKind_30 (by rfl) (by decide) (by decide) rfl ?_
              refine gx_goto (tgt := 4) C dX3_isOfKind_33 (by decide) ?_
              refine gx_iload_n C dX3_isOfKind_4 (by rfl) (by rfl) ?_
              refine gx_bipush (v := 7) C dX3_isOfKind_5 (by decide) ?_
              refine gx_icmp_ge (tgt := 36) C dX3_isOfKind_7 (by decide) (fun h9 => ?_) (fun h9 => ?_)
              ·
                exact absurd h9 (by decide)
              ·
                clear h9
                refine gx_iload_n C dX3_isOfKind_10 (by rfl) (by rfl) ?_
                refine gx_callSI (As := [.int (-1)]) (rest := []) C (c_X3_isKind E σ (-1)) z_X3_isKind (by rfl) ml_X3_84 (by rfl) (Nat.le_of_ble_eq_true rfl) ⟨Nat.le_of_ble_eq_true rfl, Nat.le_of_ble_eq_true rfl⟩ dX3_isOfKind_11 (fun r10 σ10 w10 => ?_)
                obtain ⟨u1, u2⟩ := w10; rw [u1, u2]; clear u1 u2
                refine gx_if_eq (tgt := 36) C dX3_isOfKind_14 (by decide) (fun h11 => ?_) (fun h11 => ?_)
                ·
                  clear h11
                  refine gx_iconst (v := 0) C dX3_isOfKind_36 (by decide) ?_
                  exact gx_iret C hr hlk (by first | rfl | exact nb_b2 _) ⟨rfl, by first | exact b2_t (by simp [okd, *]; done) | exact b2_t (by simp only [okd]; grind) | exact b2_f (by simp [okd]; grind)⟩ dX3_isOfKind_37
                ·
                  exact absurd h11 (by decide)
            ·
              refine gx_iconst (v := 1) C dX3_isOfKind_22 (by decide) ?_
              exact gx_iret C hr hlk (by first | rfl | exact nb_b2 _) ⟨rfl, by first | exact b2_t (by simp [okd, *]; done) | exact b2_t (by simp only [okd]; grind) | exact b2_f (by simp [okd]; grind)⟩ dX3_isOfKind_23
      ·
        refine gx_iconst (v := 1) C dX3_isOfKind_22 (by decide) ?_
        exact gx_iret C hr hlk (by first | rfl | exact nb_b2 _) ⟨rfl, by first | exact b2_t (by simp [okd, *]; done) | exact b2_t (by simp only [okd]; grind) | exact b2_f (by simp [okd]; grind)⟩ dX3_isOfKind_23
set_option maxHeartbeats 4000000 in
set_option maxRecDepth 100000 in
theorem c_X3_isOfKind_3 (E : En) (σ : Mm) (w : Int32) : CtI E yX3_isOfKind cX3_isOfKind 4 (some .boolean) 2 42 [.int 3, .int w] σ (fun rr σ2 => σ2 = σ ∧ rr = b2 (okd 3 w = true)) := by
  refine CtI.of (by decide +kernel) (Nat.le_of_ble_eq_true rfl) (fun p e0 s m below meth c C hr hlk => ?_)
  refine gx_lv (lv' := [(0, .int 3), (1, .int w)]) rfl ?_
  refine gx_iload_n C dX3_isOfKind_0 (by rfl) (by rfl) ?_
  refine gx_istore_n (lv2 := [(2, .int 3), (0, .int 3), (1, .int w)]) C dX3_isOfKind_1 (by rfl) (by decide) rfl ?_
  refine gx_iconst (v := 0) C dX3_isOfKind_2 (by decide) ?_
  refine gx_istore_n (lv2 := [(3, .int 0), (2, .int 3), (0, .int 3), (1, .int w)]) C dX3_isOfKind_3 (by rfl) (by decide) rfl ?_
  refine gx_iload_n C dX3_isOfKind_4 (by rfl) (by rfl) ?_
  refine gx_bipush (v := 7) C dX3_isOfKind_5 (by decide) ?_
  refine gx_icmp_ge (tgt := 36) C dX3_isOfKind_7 (by decide) (fun h1 => ?_) (fun h1 => ?_)
  ·
    exact absurd h1 (by decide)
  ·
    clear h1
    refine gx_iload_n C dX3_isOfKind_10 (by rfl) (by rfl) ?_
    refine gx_callSI (As := [.int 3]) (rest := []) C (c_X3_isKind E σ 3) z_X3_isKind (by rfl) ml_X3_84 (by rfl) (Nat.le_of_ble_eq_true rfl) ⟨Nat.le_of_ble_eq_true rfl, Nat.le_of_ble_eq_true rfl⟩ dX3_isOfKind_11 (fun r2 σ2 w2 => ?_)
    obtain ⟨u1, u2⟩ := w2; rw [u1, u2]; clear u1 u2
    refine gx_if_eq (tgt := 36) C dX3_isOfKind_14 (by decide) (fun h3 => ?_) (fun h3 => ?_)
    ·
      exact absurd h3 (by decide)
    ·
      clear h3
      refine gx_iload_n C dX3_isOfKind_17 (by rfl) (by rfl) ?_
      refine gx_iload_n C dX3_isOfKind_18 (by rfl) (by rfl) ?_
      refine gx_icmp_ne (tgt := 24) C dX3_isOfKind_19 (by decide) (fun h4 => ?_) (fun h4 => ?_)
      ·
        refine gx_stat (q := 0) C C.2.2.2.2.2.2.2.1.1 fl_X3_276 dX3_isOfKind_24 ?_
        refine gx_iload_n C dX3_isOfKind_27 (by rfl) (by rfl) ?_
        refine gx_ext (k := 3) (v := 2) C C.2.2.2.2.2.2.2.1.2 (by rfl) (by decide) (by decide) (by rfl) dX3_isOfKind_28 ?_
        refine gx_istore_n (lv2 := [(2, .int 2), (3, .int 0), (0, .int 3), (1, .int w)]) C dX3_isOfKind_29 (by rfl) (by decide) rfl ?_
        refine gx_iinc (v := 1) (lv2 := [(3, .int 1), (2, .int 2), (0, .int 3), (1, .int w)]) C dX3_isOfKind_30 (by rfl) (by decide) (by decide) rfl ?_
        refine gx_goto (tgt := 4) C dX3_isOfKind_33 (by decide) ?_
        refine gx_iload_n C dX3_isOfKind_4 (by rfl) (by rfl) ?_
        refine gx_bipush (v := 7) C dX3_isOfKind_5 (by decide) ?_
        refine gx_icmp_ge (tgt := 36) C dX3_isOfKind_7 (by decide) (fun h5 => ?_) (fun h5 => ?_)
        ·
          exact absurd h5 (by decide)
        ·
          clear h5
          refine gx_iload_n C dX3_isOfKind_10 (by rfl) (by rfl) ?_
          refine gx_callSI (As := [.int 2]) (rest := []) C (c_X3_isKind E σ 2) z_X3_isKind (by rfl) ml_X3_84 (by rfl) (Nat.le_of_ble_eq_true rfl) ⟨Nat.le_of_ble_eq_true rfl, Nat.le_of_ble_eq_true rfl⟩ dX3_isOfKind_11 (fun r6 σ6 w6 => ?_)
          obtain ⟨u1, u2⟩ := w6; rw [u1, u2]; clear u1 u2
          refine gx_if_eq (tgt := 36) C dX3_isOfKind_14 (by decide) (fun h7 => ?_) (fun h7 => ?_)
          ·
            exact absurd h7 (by decide)
          ·
            clear h7
            refine gx_iload_n C dX3_isOfKind_17 (by rfl) (by rfl) ?_
            refine gx_iload_n C dX3_isOfKind_18 (by rfl) (by rfl) ?_
            refine gx_icmp_ne (tgt := 24) C dX3_isOfKind_19 (by decide) (fun h8 => ?_) (fun h8 => ?_)
            ·
              refine gx_stat (q := 0) C C.2.2.2.2.2.2.2.1.1 fl_X3_276 dX3_isOfKind_24 ?_
              refine gx_iload_n C dX3_isOfKind_27 (by rfl) (by rfl) ?_
              refine gx_ext (k := 2) (v := 0) C C.2.2.2.2.2.2.2.1.2 (by rfl) (by decide) (by decide) (by rfl) dX3_isOfKind_28 ?_
              refine gx_istore_n (lv2 := [(2, .int 0), (3, .int 1), (0, .int 3), (1, .int w)]) C dX3_isOfKind_29 (by rfl) (by decide) rfl ?_
              refine gx_iinc (v := 2) (lv2 := [(3, .int 2), (2, .int 0), (0, .int 3), (1, .int w)]) C dX3_isOfKind_30 (by rfl) (by decide) (by decide) rfl ?_
              refine gx_goto (tgt := 4) C dX3_isOfKind_33 (by decide) ?_
              refine gx_iload_n C dX3_isOfKind_4 (by rfl) (by rfl) ?_
              refine gx_bipush (v := 7) C dX3_isOfKind_5 (by decide) ?_
              refine gx_icmp_ge (tgt := 36) C dX3_isOfKind_7 (by decide) (fun h9 => ?_) (fun h9 => ?_)
              ·
                exact absurd h9 (by decide)
              ·
                clear h9
                refine gx_iload_n C dX3_isOfKind_10 (by rfl) (by rfl) ?_
                refine gx_callSI (As := [.int 0]) (rest := []) C (c_X3_isKind E σ 0) z_X3_isKind (by rfl) ml_X3_84 (by rfl) (Nat.le_of_ble_eq_true rfl) ⟨Nat.le_of_ble_eq_true rfl, Nat.le_of_ble_eq_true rfl⟩ dX3_isOfKind_11 (fun r10 σ10 w10 => ?_)
                obtain ⟨u1, u2⟩ := w10; rw [u1, u2]; clear u1 u2
                refine gx_if_eq (tgt := 36) C dX3_isOfKind_14 (by decide) (fun h11 => ?_) (fun h11 => ?_)
                ·
                  exact absurd h11 (by decide)
                ·
                  clear h11
                  refine gx_iload_n C dX3_isOfKind_17 (by rfl) (by rfl) ?_
                  refine gx_iload_n C dX3_isOfKind_18 (by rfl) (by rfl) ?_
                  refine gx_icmp_ne (tgt := 24) C dX3_isOfKind_19 (by decide) (fun h12 => ?_) (fun h12 => ?_)
                  ·
                    refine gx_stat (q := 0) C C.2.2.2.2.2.2.2.1.1 fl_X3_276 dX3_isOfKind_24 ?_
                    refine gx_iload_n C dX3_isOfKind_27 (by rfl) (by rfl) ?_
                    refine gx_ext (k := 0) (v := (-1)) C C.2.2.2.2.2.2.2.1.2 (by rfl) (by decide) (by decide) (by rfl) dX3_isOfKind_28 ?_
                    refine gx_istore_n (lv2 := [(2, .int (-1)), (3, .int 2), (0, .int 3), (1, .int w)]) C dX3_isOfKind_29 (by rfl) (by decide) rfl ?_
                    refine gx_iinc (v := 3) (lv2 := [(3, .int 3), (2, .int (-1)), (0, .int 3), (1, .int w)]) C dX3_isOfKind_30 (by rfl) (by decide) (by decide) rfl ?_
                    refine gx_goto (tgt := 4) C dX3_isOfKind_33 (by decide) ?_
                    refine gx_iload_n C dX3_isOfKind_4 (by rfl) (by rfl) ?_
                    refine gx_bipush (v := 7) C dX3_isOfKind_5 (by decide) ?_
                    refine gx_icmp_ge (tgt := 36) C dX3_isOfKind_7 (by decide) (fun h13 => ?_) (fun h13 => ?_)
                    ·
                      exact absurd h13 (by decide)
                    ·
                      clear h13
                      refine gx_iload_n C dX3_isOfKind_10 (by rfl) (by rfl) ?_
                      refine gx_callSI (As := [.int (-1)]) (rest := []) C (c_X3_isKind E σ (-1)) z_X3_isKind (by rfl) ml_X3_84 (by rfl) (Nat.le_of_ble_eq_true rfl) ⟨Nat.le_of_ble_eq_true rfl, Nat.le_of_ble_eq_true rfl⟩ dX3_isOfKind_11 (fun r14 σ14 w14 => ?_)
                      obtain ⟨u1, u2⟩ := w14; rw [u1, u2]; clear u1 u2
                      refine gx_if_eq (tgt := 36) C dX3_isOfKind_14 (by decide) (fun h15 => ?_) (fun h15 => ?_)
                      ·
                        clear h15
                        refine gx_iconst (v := 0) C dX3_isOfKind_36 (by decide) ?_
                        exact gx_iret C hr hlk (by first | rfl | exact nb_b2 _) ⟨rfl, by first | exact b2_t (by simp [okd, *]; done) | exact b2_t (by simp only [okd]; grind) | exact b2_f (by simp [okd]; grind)⟩ dX3_isOfKind_37
                      ·
                        exact absurd h15 (by decide)
                  ·
                    refine gx_iconst (v := 1) C dX3_isOfKind_22 (by decide) ?_
                    exact gx_iret C hr hlk (by first | rfl | exact nb_b2 _) ⟨rfl, by first | exact b2_t (by simp [okd, *]; done) | exact b2_t (by simp only [okd]; grind) | exact b2_f (by simp [okd]; grind)⟩ dX3_isOfKind_23
            ·
              refine gx_iconst (v := 1) C dX3_isOfKind_22 (by decide) ?_
              exact gx_iret C hr hlk (by first | rfl | exact nb_b2 _) ⟨rfl, by first | exact b2_t (by simp [okd, *]; done) | exact b2_t (by simp only [okd]; grind) | exact b2_f (by simp [okd]; grind)⟩ dX3_isOfKind_23
      ·
        refine gx_iconst (v := 1) C dX3_isOfKind_22 (by decide) ?_
        exact gx_iret C hr hlk (by first | rfl | exact nb_b2 _) ⟨rfl, by first | exact b2_t (by simp [okd, *]; done) | exact b2_t (by simp only [okd]; grind) | exact b2_f (by simp [okd]; grind)⟩ dX3_isOfKind_23
set_option maxHeartbeats 4000000 in
set_option maxRecDepth 100000 in
theorem c_X3_isOfKind_4 (E : En) (σ : Mm) (w : Int32) : CtI E yX3_isOfKind cX3_isOfKind 4 (some .boolean) 2 42 [.int 4, .int w] σ (fun rr σ2 => σ2 = σ ∧ rr = b2 (okd 4 w = true)) := by
  refine CtI.of (by decide +kernel) (Nat.le_of_ble_eq_true rfl) (fun p e0 s m below meth c C hr hlk => ?_)
  refine gx_lv (lv' := [(0, .int 4), (1, .int w)]) rfl ?_
  refine gx_iload_n C dX3_isOfKind_0 (by rfl) (by rfl) ?_
  refine gx_istore_n (lv2 := [(2, .int 4), (0, .int 4), (1, .int w)]) C dX3_isOfKind_1 (by rfl) (by decide) rfl ?_
  refine gx_iconst (v := 0) C dX3_isOfKind_2 (by decide) ?_
  refine gx_istore_n (lv2 := [(3, .int 0), (2, .int 4), (0, .int 4), (1, .int w)]) C dX3_isOfKind_3 (by rfl) (by decide) rfl ?_
  refine gx_iload_n C dX3_isOfKind_4 (by rfl) (by rfl) ?_
  refine gx_bipush (v := 7) C dX3_isOfKind_5 (by decide) ?_
  refine gx_icmp_ge (tgt := 36) C dX3_isOfKind_7 (by decide) (fun h1 => ?_) (fun h1 => ?_)
  ·
    exact absurd h1 (by decide)
  ·
    clear h1
    refine gx_iload_n C dX3_isOfKind_10 (by rfl) (by rfl) ?_
    refine gx_callSI (As := [.int 4]) (rest := []) C (c_X3_isKind E σ 4) z_X3_isKind (by rfl) ml_X3_84 (by rfl) (Nat.le_of_ble_eq_true rfl) ⟨Nat.le_of_ble_eq_true rfl, Nat.le_of_ble_eq_true rfl⟩ dX3_isOfKind_11 (fun r2 σ2 w2 => ?_)
    obtain ⟨u1, u2⟩ := w2; rw [u1, u2]; clear u1 u2
    refine gx_if_eq (tgt := 36) C dX3_isOfKind_14 (by decide) (fun h3 => ?_) (fun h3 => ?_)
    ·
      exact absurd h3 (by decide)
    ·
      clear h3
      refine gx_iload_n C dX3_isOfKind_17 (by rfl) (by rfl) ?_
      refine gx_iload_n C dX3_isOfKind_18 (by rfl) (by rfl) ?_
      refine gx_icmp_ne (tgt := 24) C dX3_isOfKind_19 (by decide) (fun h4 => ?_) (fun h4 => ?_)
      ·
        refine gx_stat (q := 0) C C.2.2.2.2.2.2.2.1.1 fl_X3_276 dX3_isOfKind_24 ?_
        refine gx_iload_n C dX3_isOfKind_27 (by rfl) (by rfl) ?_
        refine gx_ext (k := 4) (v := 1) C C.2.2.2.2.2.2.2.1.2 (by rfl) (by decide) (by decide) (by rfl) dX3_isOfKind_28 ?_
        refine gx_istore_n (lv2 := [(2, .int 1), (3, .int 0), (0, .int 4), (1, .int w)]) C dX3_isOfKind_29 (by rfl) (by decide) rfl ?_
        refine gx_iinc (v := 1) (lv2 := [(3, .int 1), (2, .int 1), (0, .int 4), (1, .int w)]) C dX3_isOfKind_30 (by rfl) (by decide) (by decide) rfl ?_
        refine gx_goto (tgt := 4) C dX3_isOfKind_33 (by decide) ?_
        refine gx_iload_n C dX3_isOfKind_4 (by rfl) (by rfl) ?_
        refine gx_bipush (v := 7) C dX3_isOfKind_5 (by decide) ?_
        refine gx_icmp_ge (tgt := 36) C dX3_isOfKind_7 (by decide) (fun h5 => ?_) (fun h5 => ?_)
        ·
          exact absurd h5 (by decide)
        ·
          clear h5
          refine gx_iload_n C dX3_isOfKind_10 (by rfl) (by rfl) ?_
          refine gx_callSI (As := [.int 1]) (rest := []) C (c_X3_isKind E σ 1) z_X3_isKind (by rfl) ml_X3_84 (by rfl) (Nat.le_of_ble_eq_true rfl) ⟨Nat.le_of_ble_eq_true rfl, Nat.le_of_ble_eq_true rfl⟩ dX3_isOfKind_11 (fun r6 σ6 w6 => ?_)
          obtain ⟨u1, u2⟩ := w6; rw [u1, u2]; clear u1 u2
          refine gx_if_eq (tgt := 36) C dX3_isOfKind_14 (by decide) (fun h7 => ?_) (fun h7 => ?_)
          ·
            exact absurd h7 (by decide)
          ·
            clear h7
            refine gx_iload_n C dX3_isOfKind_17 (by rfl) (by rfl) ?_
            refine gx_iload_n C dX3_isOfKind_18 (by rfl) (by rfl) ?_
            refine gx_icmp_ne (tgt := 24) C dX3_isOfKind_19 (by decide) (fun h8 => ?_) (fun h8 => ?_)
            ·
              refine gx_stat (q := 0) C C.2.2.2.2.2.2.2.1.1 fl_X3_276 dX3_isOfKind_24 ?_
              refine gx_iload_n C dX3_isOfKind_27 (by rfl) (by rfl) ?_
              refine gx_ext (k := 1) (v := 0) C C.2.2.2.2.2.2.2.1.2 (by rfl) (by decide) (by decide) (by rfl) dX3_isOfKind_28 ?_
              refine gx_istore_n (lv2 := [(2, .int 0), (3, .int 1), (0, .int 4), (1, .int w)]) C dX3_isOfKind_29 (by rfl) (by decide) rfl ?_
              refine gx_iinc (v := 2) (lv2 := [(3, .int 2), (2, .int 0), (0, .int 4), (1, .int w)]) C dX3_isOfKind_30 (by rfl) (by decide) (by decide) rfl ?_
              refine gx_goto (tgt := 4) C dX3_isOfKind_33 (by decide) ?_
              refine gx_iload_n C dX3_isOfKind_4 (by rfl) (by rfl) ?_
              refine gx_bipush (v := 7) C dX3_isOfKind_5 (by decide) ?_
              refine gx_icmp_ge (tgt := 36) C dX3_isOfKind_7 (by decide) (fun h9 => ?_) (fun h9 => ?_)
              ·
                exact absurd h9 (by decide)
              ·
                clear h9
                refine gx_iload_n C dX3_isOfKind_10 (by rfl) (by rfl) ?_
                refine gx_callSI (As := [.int 0]) (rest := []) C (c_X3_isKind E σ 0) z_X3_isKind (by rfl) ml_X3_84 (by rfl) (Nat.le_of_ble_eq_true rfl) ⟨Nat.le_of_ble_eq_true rfl, Nat.le_of_ble_eq_true rfl⟩ dX3_isOfKind_11 (fun r10 σ10 w10 => ?_)
                obtain ⟨u1, u2⟩ := w10; rw [u1, u2]; clear u1 u2
                refine gx_if_eq (tgt := 36) C dX3_isOfKind_14 (by decide) (fun h11 => ?_) (fun h11 => ?_)
                ·
                  exact absurd h11 (by decide)
                ·
                  clear h11
                  refine gx_iload_n C dX3_isOfKind_17 (by rfl) (by rfl) ?_
                  refine gx_iload_n C dX3_isOfKind_18 (by rfl) (by rfl) ?_
                  refine gx_icmp_ne (tgt := 24) C dX3_isOfKind_19 (by decide) (fun h12 => ?_) (fun h12 => ?_)
                  ·
                    refine gx_stat (q := 0) C C.2.2.2.2.2.2.2.1.1 fl_X3_276 dX3_isOfKind_24 ?_
                    refine gx_iload_n C dX3_isOfKind_27 (by rfl) (by rfl) ?_
                    refine gx_ext (k := 0) (v := (-1)) C C.2.2.2.2.2.2.2.1.2 (by rfl) (by decide) (by decide) (by rfl) dX3_isOfKind_28 ?_
                    refine gx_istore_n (lv2 := [(2, .int (-1)), (3, .int 2), (0, .int 4), (1, .int w)]) C dX3_isOfKind_29 (by rfl) (by decide) rfl ?_
                    refine gx_iinc (v := 3) (lv2 := [(3, .int 3), (2, .int (-1)), (0, .int 4), (1, .int w)]) C dX3_isOfKind_30 (by rfl) (by decide) (by decide) rfl ?_
                    refine gx_goto (tgt := 4) C dX3_isOfKind_33 (by decide) ?_
                    refine gx_iload_n C dX3_isOfKind_4 (by rfl) (by rfl) ?_
                    refine gx_bipush (v := 7) C dX3_isOfKind_5 (by decide) ?_
                    refine gx_icmp_ge (tgt := 36) C dX3_isOfKind_7 (by decide) (fun h13 => ?_) (fun h13 => ?_)
                    ·
                      exact absurd h13 (by decide)
                    ·
                      clear h13
                      refine gx_iload_n C dX3_isOfKind_10 (by rfl) (by rfl) ?_
                      refine gx_callSI (As := [.int (-1)]) (rest := []) C (c_X3_isKind E σ (-1)) z_X3_isKind (by rfl) ml_X3_84 (by rfl) (Nat.le_of_ble_eq_true rfl) ⟨Nat.le_of_ble_eq_true rfl, Nat.le_of_ble_eq_true rfl⟩ dX3_isOfKind_11 (fun r14 σ14 w14 => ?_)
                      obtain ⟨u1, u2⟩ := w14; rw [u1, u2]; clear u1 u2
                      refine gx_if_eq (tgt := 36) C dX3_isOfKind_14 (by decide) (fun h15 => ?_) (fun h15 => ?_)
                      ·
                        clear h15
                        refine gx_iconst (v := 0) C dX3_isOfKind_36 (by decide) ?_
                        exact gx_iret C hr hlk (by first | rfl | exact nb_b2 _) ⟨rfl, by first | exact b2_t (by simp [okd, *]; done) | exact b2_t (by simp only [okd]; grind) | exact b2_f (by simp [okd]; grind)⟩ dX3_isOfKind_37
                      ·
                        exact absurd h15 (by decide)
                  ·
                    refine gx_iconst (v := 1) C dX3_isOfKind_22 (by decide) ?_
                    exact gx_iret C hr hlk (by first | rfl | exact nb_b2 _) ⟨rfl, by first | exact b2_t (by simp [okd, *]; done) | exact b2_t (by simp only [okd]; grind) | exact b2_f (by simp [okd]; grind)⟩ dX3_isOfKind_23
            ·
              refine gx_iconst (v := 1) C dX3_isOfKind_22 (by decide) ?_
              exact gx_iret C hr hlk (by first | rfl | exact nb_b2 _) ⟨rfl, by first | exact b2_t (by simp [okd, *]; done) | exact b2_t (by simp only [okd]; grind) | exact b2_f (by simp [okd]; grind)⟩ dX3_isOfKind_23
      ·
        refine gx_iconst (v := 1) C dX3_isOfKind_22 (by decide) ?_
        exact gx_iret C hr hlk (by first | rfl | exact nb_b2 _) ⟨rfl, by first | exact b2_t (by simp [okd, *]; done) | exact b2_t (by simp only [okd]; grind) | exact b2_f (by simp [okd]; grind)⟩ dX3_isOfKind_23
set_option maxHeartbeats 4000000 in
set_option maxRecDepth 100000 in
theorem c_X3_isOfKind_5 (E : En) (σ : Mm) (w : Int32) : CtI E yX3_isOfKind cX3_isOfKind 4 (some .boolean) 2 42 [.int 5, .int w] σ (fun rr σ2 => σ2 = σ ∧ rr = b2 (okd 5 w = true)) := by
  refine CtI.of (by decide +kernel) (Nat.le_of_ble_eq_true rfl) (fun p e0 s m below meth c C hr hlk => ?_)
  refine gx_lv (lv' := [(0, .int 5), (1, .int w)]) rfl ?_
  refine gx_iload_n C dX3_isOfKind_0 (by rfl) (by rfl) ?_
  refine gx_istore_n (lv2 := [(2, .int 5), (0, .int 5), (1, .int w)]) C dX3_isOfKind_1 (by rfl) (by decide) rfl ?_
  refine gx_iconst (v := 0) C dX3_isOfKind_2 (by decide) ?_
  refine gx_istore_n (lv2 := [(3, .int 0), (2, .int 5), (0, .int 5), (1, .int w)]) C dX3_isOfKind_3 (by rfl) (by decide) rfl ?_
  refine gx_iload_n C dX3_isOfKind_4 (by rfl) (by rfl) ?_
  refine gx_bipush (v := 7) C dX3_isOfKind_5 (by decide) ?_
  refine gx_icmp_ge (tgt := 36) C dX3_isOfKind_7 (by decide) (fun h1 => ?_) (fun h1 => ?_)
  ·
    exact absurd h1 (by decide)
  ·
    clear h1
    refine gx_iload_n C dX3_isOfKind_10 (by rfl) (by rfl) ?_
    refine gx_callSI (As := [.int 5]) (rest := []) C (c_X3_isKind E σ 5) z_X3_isKind (by rfl) ml_X3_84 (by rfl) (Nat.le_of_ble_eq_true rfl) ⟨Nat.le_of_ble_eq_true rfl, Nat.le_of_ble_eq_true rfl⟩ dX3_isOfKind_11 (fun r2 σ2 w2 => ?_)
    obtain ⟨u1, u2⟩ := w2; rw [u1, u2]; clear u1 u2
    refine gx_if_eq (tgt := 36) C dX3_isOfKind_14 (by decide) (fun h3 => ?_) (fun h3 => ?_)
    ·
      exact absurd h3 (by decide)
    ·
      clear h3
      refine gx_iload_n C dX3_isOfKind_17 (by rfl) (by rfl) ?_
      refine gx_iload_n C dX3_isOfKind_18 (by rfl) (by rfl) ?_
      refine gx_icmp_ne (tgt := 24) C dX3_isOfKind_19 (by decide) (fun h4 => ?_) (fun h4 => ?_)
      ·
        refine gx_stat (q := 0) C C.2.2.2.2.2.2.2.1.1 fl_X3_276 dX3_isOfKind_24 ?_
        refine gx_iload_n C dX3_isOfKind_27 (by rfl) (by rfl) ?_
        refine gx_ext (k := 5) (v := 0) C C.2.2.2.2.2.2.2.1.2 (by rfl) (by decide) (by decide) (by rfl) dX3_isOfKind_28 ?_
        refine gx_istore_n (lv2 := [(2, .int 0), (3, .int 0), (0, .int 5), (1, .int w)]) C dX3_isOfKind_29 (by rfl) (by decide) rfl ?_
        refine gx_iinc (v := 1) (lv2 := [(3, .int 1), (2, .int 0), (0, .int 5), (1, .int w)]) C dX3_isOfKind_30 (by rfl) (by decide) (by decide) rfl ?_
        refine gx_goto (tgt := 4) C dX3_isOfKind_33 (by decide) ?_
        refine gx_iload_n C dX3_isOfKind_4 (by rfl) (by rfl) ?_
        refine gx_bipush (v := 7) C dX3_isOfKind_5 (by decide) ?_
        refine gx_icmp_ge (tgt := 36) C dX3_isOfKind_7 (by decide) (fun h5 => ?_) (fun h5 => ?_)
        ·
          exact absurd h5 (by decide)
        ·
          clear h5
          refine gx_iload_n C dX3_isOfKind_10 (by rfl) (by rfl) ?_
          refine gx_callSI (As := [.int 0]) (rest := []) C (c_X3_isKind E σ 0) z_X3_isKind (by rfl) ml_X3_84 (by rfl) (Nat.le_of_ble_eq_true rfl) ⟨Nat.le_of_ble_eq_true rfl, Nat.le_of_ble_eq_true rfl⟩ dX3_isOfKind_11 (fun r6 σ6 w6 => ?_)
          obtain ⟨u1, u2⟩ := w6; rw [u1, u2]; clear u1 u2
          refine gx_if_eq (tgt := 36) C dX3_isOfKind_14 (by decide) (fun h7 => ?_) (fun h7 => ?_)
          ·
            exact absurd h7 (by decide)
          ·
            clear h7
            refine gx_iload_n C dX3_isOfKind_17 (by rfl) (by rfl) ?_
            refine gx_iload_n C dX3_isOfKind_18 (by rfl) (by rfl) ?_
            refine gx_icmp_ne (tgt := 24) C dX3_isOfKind_19 (by decide) (fun h8 => ?_) (fun h8 => ?_)
            ·
              refine gx_stat (q := 0) C C.2.2.2.2.2.2.2.1.1 fl_X3_276 dX3_isOfKind_24 ?_
              refine gx_iload_n C dX3_isOfKind_27 (by rfl) (by rfl) ?_
              refine gx_ext (k := 0) (v := (-1)) C C.2.2.2.2.2.2.2.1.2 (by rfl) (by decide) (by decide) (by rfl) dX3_isOfKind_28 ?_
              refine gx_istore_n (lv2 := [(2, .int (-1)), (3, .int 1), (0, .int 5), (1, .int w)]) C dX3_isOfKind_29 (by rfl) (by decide) rfl ?_
              refine gx_iinc (v := 2) (lv2 := [(3, .int 2), (2, .int (-1)), (0, .int 5), (1, .int w)]) C dX3_isOfKind_30 (by rfl) (by decide) (by decide) rfl ?_
              refine gx_goto (tgt := 4) C dX3_isOfKind_33 (by decide) ?_
              refine gx_iload_n C dX3_isOfKind_4 (by rfl) (by rfl) ?_
              refine gx_bipush (v := 7) C dX3_isOfKind_5 (by decide) ?_
              refine gx_icmp_ge (tgt := 36) C dX3_isOfKind_7 (by decide) (fun h9 => ?_) (fun h9 => ?_)
              ·
                exact absurd h9 (by decide)
              ·
                clear h9
                refine gx_iload_n C dX3_isOfKind_10 (by rfl) (by rfl) ?_
                refine gx_callSI (As := [.int (-1)]) (rest := []) C (c_X3_isKind E σ (-1)) z_X3_isKind (by rfl) ml_X3_84 (by rfl) (Nat.le_of_ble_eq_true rfl) ⟨Nat.le_of_ble_eq_true rfl, Nat.le_of_ble_eq_true rfl⟩ dX3_isOfKind_11 (fun r10 σ10 w10 => ?_)
                obtain ⟨u1, u2⟩ := w10; rw [u1, u2]; clear u1 u2
                refine gx_if_eq (tgt := 36) C dX3_isOfKind_14 (by decide) (fun h11 => ?_) (fun h11 => ?_)
                ·
                  clear h11
                  refine gx_iconst (v := 0) C dX3_isOfKind_36 (by decide) ?_
                  exact gx_iret C hr hlk (by first | rfl | exact nb_b2 _) ⟨rfl, by first | exact b2_t (by simp [okd, *]; done) | exact b2_t (by simp only [okd]; grind) | exact b2_f (by simp [okd]; grind)⟩ dX3_isOfKind_37
                ·
                  exact absurd h11 (by decide)
            ·
              refine gx_iconst (v := 1) C dX3_isOfKind_22 (by decide) ?_
              exact gx_iret C hr hlk (by first | rfl | exact nb_b2 _) ⟨rfl, by first | exact b2_t (by simp [okd, *]; done) | exact b2_t (by simp only [okd]; grind) | exact b2_f (by simp [okd]; grind)⟩ dX3_isOfKind_23
      ·
        refine gx_iconst (v := 1) C dX3_isOfKind_22 (by decide) ?_
        exact gx_iret C hr hlk (by first | rfl | exact nb_b2 _) ⟨rfl, by first | exact b2_t (by simp [okd, *]; done) | exact b2_t (by simp only [okd]; grind) | exact b2_f (by simp [okd]; grind)⟩ dX3_isOfKind_23
set_option maxHeartbeats 4000000 in
set_option maxRecDepth 100000 in
theorem c_X3_isOfKind_6 (E : En) (σ : Mm) (w : Int32) : CtI E yX3_isOfKind cX3_isOfKind 4 (some .boolean) 2 42 [.int 6, .int w] σ (fun rr σ2 => σ2 = σ ∧ rr = b2 (okd 6 w = true)) := by
  refine CtI.of (by decide +kernel) (Nat.le_of_ble_eq_true rfl) (fun p e0 s m below meth c C hr hlk => ?_)
  refine gx_lv (lv' := [(0, .int 6), (1, .int w)]) rfl ?_
  refine gx_iload_n C dX3_isOfKind_0 (by rfl) (by rfl) ?_
  refine gx_istore_n (lv2 := [(2, .int 6), (0, .int 6), (1, .int w)]) C dX3_isOfKind_1 (by rfl) (by decide) rfl ?_
  refine gx_iconst (v := 0) C dX3_isOfKind_2 (by decide) ?_
  refine gx_istore_n (lv2 := [(3, .int 0), (2, .int 6), (0, .int 6), (1, .int w)]) C dX3_isOfKind_3 (by rfl) (by decide) rfl ?_
  refine gx_iload_n C dX3_isOfKind_4 (by rfl) (by rfl) ?_
  refine gx_bipush (v := 7) C dX3_isOfKind_5 (by decide) ?_
  refine gx_icmp_ge (tgt := 36) C dX3_isOfKind_7 (by decide) (fun h1 => ?_) (fun h1 => ?_)
  ·
    exact absurd h1 (by decide)
  ·
    clear h1
    refine gx_iload_n C dX3_isOfKind_10 (by rfl) (by rfl) ?_
    refine gx_callSI (As := [.int 6]) (rest := []) C (c_X3_isKind E σ 6) z_X3_isKind (by rfl) ml_X3_84 (by rfl) (Nat.le_of_ble_eq_true rfl) ⟨Nat.le_of_ble_eq_true rfl, Nat.le_of_ble_eq_true rfl⟩ dX3_isOfKind_11 (fun r2 σ2 w2 => ?_)
    obtain ⟨u1, u2⟩ := w2; rw [u1, u2]; clear u1 u2
    refine gx_if_eq (tgt := 36) C dX3_isOfKind_14 (by decide) (fun h3 => ?_) (fun h3 => ?_)
    ·
      exact absurd h3 (by decide)
    ·
      clear h3
      refine gx_iload_n C dX3_isOfKind_17 (by rfl) (by rfl) ?_
      refine gx_iload_n C dX3_isOfKind_18 (by rfl) (by rfl) ?_
      refine gx_icmp_ne (tgt := 24) C dX3_isOfKind_19 (by decide) (fun h4 => ?_) (fun h4 => ?_)
      ·
        refine gx_stat (q := 0) C C.2.2.2.2.2.2.2.1.1 fl_X3_276 dX3_isOfKind_24 ?_
        refine gx_iload_n C dX3_isOfKind_27 (by rfl) (by rfl) ?_
        refine gx_ext (k := 6) (v := 1) C C.2.2.2.2.2.2.2.1.2 (by rfl) (by decide) (by decide) (by rfl) dX3_isOfKind_28 ?_
        refine gx_istore_n (lv2 := [(2, .int 1), (3, .int 0), (0, .int 6), (1, .int w)]) C dX3_isOfKind_29 (by rfl) (by decide) rfl ?_
        refine gx_iinc (v := 1) (lv2 := [(3, .int 1), (2, .int 1), (0, .int 6), (1, .int w)]) C dX3_isOfKind_30 (by rfl) (by decide) (by decide) rfl ?_
        refine gx_goto (tgt := 4) C dX3_isOfKind_33 (by decide) ?_
        refine gx_iload_n C dX3_isOfKind_4 (by rfl) (by rfl) ?_
        refine gx_bipush (v := 7) C dX3_isOfKind_5 (by decide) ?_
        refine gx_icmp_ge (tgt := 36) C dX3_isOfKind_7 (by decide) (fun h5 => ?_) (fun h5 => ?_)
        ·
          exact absurd h5 (by decide)
        ·
          clear h5
          refine gx_iload_n C dX3_isOfKind_10 (by rfl) (by rfl) ?_
          refine gx_callSI (As := [.int 1]) (rest := []) C (c_X3_isKind E σ 1) z_X3_isKind (by rfl) ml_X3_84 (by rfl) (Nat.le_of_ble_eq_true rfl) ⟨Nat.le_of_ble_eq_true rfl, Nat.le_of_ble_eq_true rfl⟩ dX3_isOfKind_11 (fun r6 σ6 w6 => ?_)
          obtain ⟨u1, u2⟩ := w6; rw [u1, u2]; clear u1 u2
          refine gx_if_eq (tgt := 36) C dX3_isOfKind_14 (by decide) (fun h7 => ?_) (fun h7 => ?_)
          ·
            exact absurd h7 (by decide)
          ·
            clear h7
            refine gx_iload_n C dX3_isOfKind_17 (by rfl) (by rfl) ?_
            refine gx_iload_n C dX3_isOfKind_18 (by rfl) (by rfl) ?_
            refine gx_icmp_ne (tgt := 24) C dX3_isOfKind_19 (by decide) (fun h8 => ?_) (fun h8 => ?_)
            ·
              refine gx_stat (q := 0) C C.2.2.2.2.2.2.2.1.1 fl_X3_276 dX3_isOfKind_24 ?_
              refine gx_iload_n C dX3_isOfKind_27 (by rfl) (by rfl) ?_
              refine gx_ext (k := 1) (v := 0) C C.2.2.2.2.2.2.2.1.2 (by rfl) (by decide) (by decide) (by rfl) dX3_isOfKind_28 ?_
              refine gx_istore_n (lv2 := [(2, .int 0), (3, .int 1), (0, .int 6), (1, .int w)]) C dX3_isOfKind_29 (by rfl) (by decide) rfl ?_
              refine gx_iinc (v := 2) (lv2 := [(3, .int 2), (2, .int 0), (0, .int 6), (1, .int w)]) C dX3_isOfKind_30 (by rfl) (by decide) (by decide) rfl ?_
              refine gx_goto (tgt := 4) C dX3_isOfKind_33 (by decide) ?_
              refine gx_iload_n C dX3_isOfKind_4 (by rfl) (by rfl) ?_
              refine gx_bipush (v := 7) C dX3_isOfKind_5 (by decide) ?_
              refine gx_icmp_ge (tgt := 36) C dX3_isOfKind_7 (by decide) (fun h9 => ?_) (fun h9 => ?_)
              ·
                exact absurd h9 (by decide)
              ·
                clear h9
                refine gx_iload_n C dX3_isOfKind_10 (by rfl) (by rfl) ?_
                refine gx_callSI (As := [.int 0]) (rest := []) C (c_X3_isKind E σ 0) z_X3_isKind (by rfl) ml_X3_84 (by rfl) (Nat.le_of_ble_eq_true rfl) ⟨Nat.le_of_ble_eq_true rfl, Nat.le_of_ble_eq_true rfl⟩ dX3_isOfKind_11 (fun r10 σ10 w10 => ?_)
                obtain ⟨u1, u2⟩ := w10; rw [u1, u2]; clear u1 u2
                refine gx_if_eq (tgt := 36) C dX3_isOfKind_14 (by decide) (fun h11 => ?_) (fun h11 => ?_)
                ·
                  exact absurd h11 (by decide)
                ·
                  clear h11
                  refine gx_iload_n C dX3_isOfKind_17 (by rfl) (by rfl) ?_
                  refine gx_iload_n C dX3_isOfKind_18 (by rfl) (by rfl) ?_
                  refine gx_icmp_ne (tgt := 24) C dX3_isOfKind_19 (by decide) (fun h12 => ?_) (fun h12 => ?_)
                  ·
                    refine gx_stat (q := 0) C C.2.2.2.2.2.2.2.1.1 fl_X3_276 dX3_isOfKind_24 ?_
                    refine gx_iload_n C dX3_isOfKind_27 (by rfl) (by rfl) ?_
                    refine gx_ext (k := 0) (v := (-1)) C C.2.2.2.2.2.2.2.1.2 (by rfl) (by decide) (by decide) (by rfl) dX3_isOfKind_28 ?_
                    refine gx_istore_n (lv2 := [(2, .int (-1)), (3, .int 2), (0, .int 6), (1, .int w)]) C dX3_isOfKind_29 (by rfl) (by decide) rfl ?_
                    refine gx_iinc (v := 3) (lv2 := [(3, .int 3), (2, .int (-1)), (0, .int 6), (1, .int w)]) C dX3_isOfKind_30 (by rfl) (by decide) (by decide) rfl ?_
                    refine gx_goto (tgt := 4) C dX3_isOfKind_33 (by decide) ?_
                    refine gx_iload_n C dX3_isOfKind_4 (by rfl) (by rfl) ?_
                    refine gx_bipush (v := 7) C dX3_isOfKind_5 (by decide) ?_
                    refine gx_icmp_ge (tgt := 36) C dX3_isOfKind_7 (by decide) (fun h13 => ?_) (fun h13 => ?_)
                    ·
                      exact absurd h13 (by decide)
                    ·
                      clear h13
                      refine gx_iload_n C dX3_isOfKind_10 (by rfl) (by rfl) ?_
                      refine gx_callSI (As := [.int (-1)]) (rest := []) C (c_X3_isKind E σ (-1)) z_X3_isKind (by rfl) ml_X3_84 (by rfl) (Nat.le_of_ble_eq_true rfl) ⟨Nat.le_of_ble_eq_true rfl, Nat.le_of_ble_eq_true rfl⟩ dX3_isOfKind_11 (fun r14 σ14 w14 => ?_)
                      obtain ⟨u1, u2⟩ := w14; rw [u1, u2]; clear u1 u2
                      refine gx_if_eq (tgt := 36) C dX3_isOfKind_14 (by decide) (fun h15 => ?_) (fun h15 => ?_)
                      ·
                        clear h15
                        refine gx_iconst (v := 0) C dX3_isOfKind_36 (by decide) ?_
                        exact gx_iret C hr hlk (by first | rfl | exact nb_b2 _) ⟨rfl, by first | exact b2_t (by simp [okd, *]; done) | exact b2_t (by simp only [okd]; grind) | exact b2_f (by simp [okd]; grind)⟩ dX3_isOfKind_37
                      ·
                        exact absurd h15 (by decide)
                  ·
                    refine gx_iconst (v := 1) C dX3_isOfKind_22 (by decide) ?_
                    exact gx_iret C hr hlk (by first | rfl | exact nb_b2 _) ⟨rfl, by first | exact b2_t (by simp [okd, *]; done) | exact b2_t (by simp only [okd]; grind) | exact b2_f (by simp [okd]; grind)⟩ dX3_isOfKind_23
            ·
              refine gx_iconst (v := 1) C dX3_isOfKind_22 (by decide) ?_
              exact gx_iret C hr hlk (by first | rfl | exact nb_b2 _) ⟨rfl, by first | exact b2_t (by simp [okd, *]; done) | exact b2_t (by simp only [okd]; grind) | exact b2_f (by simp [okd]; grind)⟩ dX3_isOfKind_23
      ·
        refine gx_iconst (v := 1) C dX3_isOfKind_22 (by decide) ?_
        exact gx_iret C hr hlk (by first | rfl | exact nb_b2 _) ⟨rfl, by first | exact b2_t (by simp [okd, *]; done) | exact b2_t (by simp only [okd]; grind) | exact b2_f (by simp [okd]; grind)⟩ dX3_isOfKind_23
theorem c_X3_isOfKind (E : En) (σ : Mm) (k : Nat) (hk : k ≤ 6) (w : Int32) : CtI E yX3_isOfKind cX3_isOfKind 4 (some .boolean) 2 42 [.int (nI k), .int w] σ (fun rr σ2 => σ2 = σ ∧ rr = b2 (okd k w = true)) := by
  match k, hk with
  | 0, _ => exact c_X3_isOfKind_0 E σ w
  | 1, _ => exact c_X3_isOfKind_1 E σ w
  | 2, _ => exact c_X3_isOfKind_2 E σ w
  | 3, _ => exact c_X3_isOfKind_3 E σ w
  | 4, _ => exact c_X3_isOfKind_4 E σ w
  | 5, _ => exact c_X3_isOfKind_5 E σ w
  | 6, _ => exact c_X3_isOfKind_6 E σ w
  | k + 7, h => exact absurd h (by omega)
/-- one of a kind that may plot -/
def mpl (K : Mm) (p : Nat) : Bool := decide (K 1 p = 0 ∨ K 1 p = 2 ∨ K 1 p = 3 ∨ K 1 p = 5)
theorem okd_1 : ∀ k, k ≤ 6 → (okd k 1 = true ↔ ¬ (nI k = 0 ∨ nI k = 2 ∨ nI k = 3 ∨ nI k = 5)) := by decide +kernel
theorem mpl_k {K : Mm} {p k : Nat} (hk : k ≤ 6) (e : K 1 p = nI k) : mpl K p = !okd k 1 := by
  have h := okd_1 k hk
  unfold mpl
  rw [e]
  cases ho : okd k 1 with
  | false => rw [ho] at h; simp only [Bool.false_eq_true, false_iff, Classical.not_not] at h; simpa using h
  | true => rw [ho] at h; simp at h; simpa using h
def ablP (K : Mm) (p : Nat) : Bool := decide (¬ K 2 p = -1) && mpl K p
def mwP (K : Mm) (q p : Nat) : Bool := mpl K p || decide (K 1 p = 4 ∧ ¬ K 4 p = K 4 q)
set_option maxHeartbeats 4000000 in
set_option maxRecDepth 100000 in
theorem c_X0_ableToPlot (E : En) (σ : Mm) (e : Nat) (he : isE e) (K : Mm) (hK : Emp σ e K) (hO : Ok K) : CtI E yX0_ableToPlot cX0_ableToPlot 3 (some .int) 3 65 [.ref (eA E e)] σ (fun rr σ2 => σ2 = σ ∧ rr = bset (nn K) (ablP K)) := by
  obtain ⟨⟨hn, h12⟩, hpp, hlw, hsp, hz0⟩ := id hO
  refine CtI.of (by decide +kernel) (Nat.le_of_ble_eq_true rfl) (fun p e0 s m below meth c C hr hlk => ?_)
  refine gx_lv (lv' := [(0, .ref (eA E e))]) rfl ?_
  refine gx_iconst (v := 0) C dX0_ableToPlot_0 (by decide) ?_
  refine gx_istore_n (lv2 := [(1, .int 0), (0, .ref (eA E e))]) C dX0_ableToPlot_1 (by rfl) (by decide) rfl ?_
  refine gx_iconst (v := 0) C dX0_ableToPlot_2 (by decide) ?_
  refine gx_istore_n (lv2 := [(2, .int 0), (1, .int 0), (0, .ref (eA E e))]) C dX0_ableToPlot_3 (by rfl) (by decide) rfl ?_
  have loop4 : ∀ (kf i4 : Nat), i4 ≤ nn K → nn K < i4 + kf → Gx E p e0 (rmF 3 65) s m ([.ref (eA E e)] : List Value).toArray below meth c (MQ below (va_Qi (fun rr σ2 => σ2 = σ ∧ rr = bset (nn K) (ablP K)) (WQ E) (AA E s.heap.size)) ([.ref (eA E e)] : List Value).toArray s 0 0 (AA E s.heap.size)) 3 4 [(0, .ref (eA E e)), (1, .int (bset i4 (ablP K))), (2, .int (nI i4))] [] σ := by
    intro kf
    induction kf with
    | zero => intro i4 q1 q2; exact absurd q2 (by omega)
    | succ kf ih4 =>
      intro i4 a4 b4
      refine gx_iload_n C dX0_ableToPlot_4 (by rfl) (by rfl) ?_
      refine gx_aload_n C dX0_ableToPlot_5 (by rfl) (by rfl) ?_
      refine gx_geti (k := 11) C ck0 (sh_e he) (by rfl) (by decide) fl_X0_58 dX0_ableToPlot_6 ?_
      refine gx_st (st' := [.int (nI (nn K)), .int (nI i4)]) (by rw [hK.n, hn]) ?_
      refine gx_icmp_ge (tgt := 47) C dX0_ableToPlot_9 (by decide) (fun h1 => ?_) (fun h1 => ?_)
      ·
        have h1 := (nI_leI (a := (nn K)) (b := i4) (by omega) (by omega)).mp h1
        refine gx_iload_n C dX0_ableToPlot_47 (by rfl) (by rfl) ?_
        exact gx_iret C hr hlk rfl ⟨rfl, by rw [show i4 = nn K by omega]⟩ dX0_ableToPlot_48
      ·
        have h1 := (not_congr (nI_leI (a := (nn K)) (b := i4) (by omega) (by omega))).mp h1
        refine gx_aload_n C dX0_ableToPlot_12 (by rfl) (by rfl) ?_
        refine gx_getr (j := e + 2) (k := 1) C ck0 (sh_e he) (by rfl) (by decide) fl_X0_15 dX0_ableToPlot_13 ?_
        refine gx_iload_n C dX0_ableToPlot_16 (by rfl) (by rfl) ?_
        refine gx_ialdN (k := i4) C (sh_e2 he) rfl (by omega) (by decide) dX0_ableToPlot_17 ?_
        refine gx_st (st' := [.int (K 2 i4)]) (by rw [hK.r2 (p := i4) (by omega)]) ?_
        refine gx_iconst (v := (-1)) C dX0_ableToPlot_18 (by decide) ?_
        refine gx_icmp_eq (tgt := 41) C dX0_ableToPlot_19 (by decide) (fun h2 => ?_) (fun h2 => ?_)
        ·
          refine gx_iinc (v := nI (i4 + 1)) (lv2 := [(2, .int (nI (i4 + 1))), (0, .ref (eA E e)), (1, .int (bset i4 (ablP K)))]) C dX0_ableToPlot_41 (by rfl) (by exact nI_p1 _) (by decide) rfl ?_
          refine gx_goto (tgt := 4) C dX0_ableToPlot_44 (by decide) ?_
          refine gx_sub [1, 2, 0] (lv' := [(0, .ref (eA E e)), (1, .int (bset i4 (ablP K))), (2, .int (nI (i4 + 1)))]) rfl ?_
          refine gx_lv (lv' := [(0, .ref (eA E e)), (1, .int (bset (i4 + 1) (ablP K))), (2, .int (nI (i4 + 1)))]) (by rw [bset_f (n := i4) (P := ablP K) (by omega) (by first | (simp [ablP, *]; done) | (simp only [ablP]; rw [rfl]; simp [*]; done) | (simp only [ablP]; rw [rfl]; grind))]) ?_
          exact ih4 (i4 + 1) (by omega) (by omega)
        ·
          refine gx_aload_n C dX0_ableToPlot_22 (by rfl) (by rfl) ?_
          refine gx_getr (j := e + 1) (k := 0) C ck0 (sh_e he) (by rfl) (by decide) fl_X0_9 dX0_ableToPlot_23 ?_
          refine gx_iload_n C dX0_ableToPlot_26 (by rfl) (by rfl) ?_
          refine gx_ialdN (k := i4) C (sh_e1 he) rfl (by omega) (by decide) dX0_ableToPlot_27 ?_
          refine gx_st (st' := [.int (K 1 i4)]) (by rw [hK.r1 (p := i4) (by omega)]) ?_
          obtain ⟨k3, hk3, ek3⟩ := i_nat (M := 6) (n := 6) (by decide) (hpp i4 (by omega)).1
          have em3 := mpl_k hk3 ek3
          refine gx_st (st' := [.int (nI k3)]) (by rw [ek3]) ?_
          refine gx_iconst (v := 1) C dX0_ableToPlot_28 (by decide) ?_
          refine gx_callNI (As := [.int (nI k3), .int 1]) (rest := []) C (c_X3_isOfKind E σ k3 (by omega) 1) z_X3_isOfKind (by rfl) (C.2.2.2.2.2.2.2.2.2.2.2.2.2.2.2.1) (by rfl) (Nat.le_of_ble_eq_true rfl) ⟨Nat.le_of_ble_eq_true rfl, Nat.le_of_ble_eq_true rfl⟩ dX0_ableToPlot_29 (fun r4 σ4 w4 => ?_)
          obtain ⟨u1, u2⟩ := w4; rw [u1, u2]; clear u1 u2
          refine gx_if_ne (tgt := 41) C dX0_ableToPlot_32 (by decide) (fun h5 => ?_) (fun h5 => ?_)
          ·
            have h5 := b2_nz.mp h5
            refine gx_iinc (v := nI (i4 + 1)) (lv2 := [(2, .int (nI (i4 + 1))), (0, .ref (eA E e)), (1, .int (bset i4 (ablP K)))]) C dX0_ableToPlot_41 (by rfl) (by exact nI_p1 _) (by decide) rfl ?_
            refine gx_goto (tgt := 4) C dX0_ableToPlot_44 (by decide) ?_
            refine gx_sub [1, 2, 0] (lv' := [(0, .ref (eA E e)), (1, .int (bset i4 (ablP K))), (2, .int (nI (i4 + 1)))]) rfl ?_
            refine gx_lv (lv' := [(0, .ref (eA E e)), (1, .int (bset (i4 + 1) (ablP K))), (2, .int (nI (i4 + 1)))]) (by rw [bset_f (n := i4) (P := ablP K) (by omega) (by first | (simp [ablP, *]; done) | (simp only [ablP]; rw [em3]; simp [*]; done) | (simp only [ablP]; rw [em3]; grind))]) ?_
            exact ih4 (i4 + 1) (by omega) (by omega)
          ·
            have h5 := b2_z.mp h5
            refine gx_iload_n C dX0_ableToPlot_35 (by rfl) (by rfl) ?_
            refine gx_iconst (v := 1) C dX0_ableToPlot_36 (by decide) ?_
            refine gx_iload_n C dX0_ableToPlot_37 (by rfl) (by rfl) ?_
            refine gx_ishl C dX0_ableToPlot_38 ?_
            refine gx_ior C dX0_ableToPlot_39 ?_
            refine gx_istore_n (lv2 := [(1, .int ((bset i4 (ablP K)) ||| (1 <<< ((nI i4) &&& 31)))), (0, .ref (eA E e)), (2, .int (nI i4))]) C dX0_ableToPlot_40 (by rfl) (by decide) rfl ?_
            refine gx_iinc (v := nI (i4 + 1)) (lv2 := [(2, .int (nI (i4 + 1))), (1, .int ((bset i4 (ablP K)) ||| (1 <<< ((nI i4) &&& 31)))), (0, .ref (eA E e))]) C dX0_ableToPlot_41 (by rfl) (by exact nI_p1 _) (by decide) rfl ?_
            refine gx_goto (tgt := 4) C dX0_ableToPlot_44 (by decide) ?_
            refine gx_sub [2, 1, 0] (lv' := [(0, .ref (eA E e)), (1, .int ((bset i4 (ablP K)) ||| (1 <<< ((nI i4) &&& 31)))), (2, .int (nI (i4 + 1)))]) rfl ?_
            refine gx_lv (lv' := [(0, .ref (eA E e)), (1, .int (bset (i4 + 1) (ablP K))), (2, .int (nI (i4 + 1)))]) (by rw [bset_t (n := i4) (P := ablP K) (by omega) (by first | (simp [ablP, *]; done) | (simp only [ablP]; rw [em3]; simp [*]; done) | (simp only [ablP]; rw [em3]; grind))]) ?_
            exact ih4 (i4 + 1) (by omega) (by omega)
  refine gx_sub [2, 1, 0] (lv' := [(0, .ref (eA E e)), (1, .int 0), (2, .int 0)]) rfl ?_
  refine gx_lv (lv' := [(0, .ref (eA E e)), (1, .int (bset 0 (ablP K))), (2, .int (nI 0))]) (by rfl) ?_
  exact loop4 (nn K + 1) 0 (by omega) (by omega)
set_option maxHeartbeats 4000000 in
set_option maxRecDepth 100000 in
theorem c_X0_howManyMayWant (E : En) (σ : Mm) (e : Nat) (he : isE e) (K : Mm) (hK : Emp σ e K) (hO : Ok K) (P : Nat → Bool) (q : Nat) (hq : q < nn K) : CtI E yX0_howManyMayWant cX0_howManyMayWant 6 (some .int) 3 65 [.ref (eA E e), .int (bset (nn K) P), .int (nI q)] σ (fun rr σ2 => σ2 = σ ∧ rr = nI (cnt (fun p => P p && mwP K q p) (nn K))) := by
  obtain ⟨⟨hn, h12⟩, hpp, hlw, hsp, hz0⟩ := id hO
  refine CtI.of (by decide +kernel) (Nat.le_of_ble_eq_true rfl) (fun p e0 s m below meth c C hr hlk => ?_)
  refine gx_lv (lv' := [(0, .ref (eA E e)), (1, .int (bset (nn K) P)), (2, .int (nI q))]) rfl ?_
  refine gx_iconst (v := 0) C dX0_howManyMayWant_0 (by decide) ?_
  refine gx_istore_n (lv2 := [(3, .int 0), (0, .ref (eA E e)), (1, .int (bset (nn K) P)), (2, .int (nI q))]) C dX0_howManyMayWant_1 (by rfl) (by decide) rfl ?_
  refine gx_iconst (v := 0) C dX0_howManyMayWant_2 (by decide) ?_
  refine gx_istore (lv2 := [(4, .int 0), (3, .int 0), (0, .ref (eA E e)), (1, .int (bset (nn K) P)), (2, .int (nI q))]) C dX0_howManyMayWant_3 (by decide) rfl ?_
  have loop5 : ∀ (kf i5 : Nat), i5 ≤ nn K → nn K < i5 + kf → Gx E p e0 (rmF 3 65) s m ([.ref (eA E e), .int (bset (nn K) P), .int (nI q)] : List Value).toArray below meth c (MQ below (va_Qi (fun rr σ2 => σ2 = σ ∧ rr = nI (cnt (fun p => P p && mwP K q p) (nn K))) (WQ E) (AA E s.heap.size)) ([.ref (eA E e), .int (bset (nn K) P), .int (nI q)] : List Value).toArray s 0 0 (AA E s.heap.size)) 6 5 [(0, .ref (eA E e)), (1, .int (bset (nn K) P)), (2, .int (nI q)), (3, .int (nI (cnt (fun p => P p && mwP K q p) i5))), (4, .int (nI i5))] [] σ := by
    intro kf
    induction kf with
    | zero => intro i5 q1 q2; exact absurd q2 (by omega)
    | succ kf ih5 =>
      intro i5 a5 b5
      refine gx_iload C dX0_howManyMayWant_5 (by rfl) ?_
      refine gx_aload_n C dX0_howManyMayWant_7 (by rfl) (by rfl) ?_
      refine gx_geti (k := 11) C ck0 (sh_e he) (by rfl) (by decide) fl_X0_58 dX0_howManyMayWant_8 ?_
      refine gx_st (st' := [.int (nI (nn K)), .int (nI i5)]) (by rw [hK.n, hn]) ?_
      refine gx_icmp_ge (tgt := 85) C dX0_howManyMayWant_11 (by decide) (fun h1 => ?_) (fun h1 => ?_)
      ·
        have h1 := (nI_leI (a := (nn K)) (b := i5) (by omega) (by omega)).mp h1
        refine gx_iload_n C dX0_howManyMayWant_85 (by rfl) (by rfl) ?_
        exact gx_iret C hr hlk rfl ⟨rfl, by rw [show i5 = nn K by omega]⟩ dX0_howManyMayWant_86
      ·
        have h1 := (not_congr (nI_leI (a := (nn K)) (b := i5) (by omega) (by omega))).mp h1
        refine gx_aload_n C dX0_howManyMayWant_14 (by rfl) (by rfl) ?_
        refine gx_getr (j := e + 1) (k := 0) C ck0 (sh_e he) (by rfl) (by decide) fl_X0_9 dX0_howManyMayWant_15 ?_
        refine gx_iload C dX0_howManyMayWant_18 (by rfl) ?_
        refine gx_ialdN (k := i5) C (sh_e1 he) rfl (by omega) (by decide) dX0_howManyMayWant_20 ?_
        refine gx_st (st' := [.int (K 1 i5)]) (by rw [hK.r1 (p := i5) (by omega)]) ?_
        obtain ⟨k2, hk2, ek2⟩ := i_nat (M := 6) (n := 6) (by decide) (hpp i5 (by omega)).1
        have em2 := mpl_k hk2 ek2
        refine gx_st (st' := [.int (nI k2)]) (by rw [ek2]) ?_
        refine gx_iconst (v := 1) C dX0_howManyMayWant_21 (by decide) ?_
        refine gx_callNI (As := [.int (nI k2), .int 1]) (rest := []) C (c_X3_isOfKind E σ k2 (by omega) 1) z_X3_isOfKind (by rfl) (C.2.2.2.2.2.2.2.2.2.2.2.2.2.2.2.1) (by rfl) (Nat.le_of_ble_eq_true rfl) ⟨Nat.le_of_ble_eq_true rfl, Nat.le_of_ble_eq_true rfl⟩ dX0_howManyMayWant_22 (fun r3 σ3 w3 => ?_)
        obtain ⟨u1, u2⟩ := w3; rw [u1, u2]; clear u1 u2
        refine gx_if_eq (tgt := 55) C dX0_howManyMayWant_25 (by decide) (fun h4 => ?_) (fun h4 => ?_)
        ·
          have h4 := b2_z.mp h4
          refine gx_iconst (v := 1) C dX0_howManyMayWant_55 (by decide) ?_
          refine gx_goto (tgt := 60) C dX0_howManyMayWant_56 (by decide) ?_
          refine gx_istore (lv2 := [(5, .int 1), (0, .ref (eA E e)), (1, .int (bset (nn K) P)), (2, .int (nI q)), (3, .int (nI (cnt (fun p => P p && mwP K q p) i5))), (4, .int (nI i5))]) C dX0_howManyMayWant_60 (by decide) rfl ?_
          refine gx_iload_n C dX0_howManyMayWant_62 (by rfl) (by rfl) ?_
          refine gx_iload C dX0_howManyMayWant_63 (by rfl) ?_
          refine gx_ishr C dX0_howManyMayWant_65 ?_
          refine gx_iconst (v := 1) C dX0_howManyMayWant_66 (by decide) ?_
          refine gx_iand C dX0_howManyMayWant_67 ?_
          refine gx_if_eq (tgt := 79) C dX0_howManyMayWant_68 (by decide) (fun h5 => ?_) (fun h5 => ?_)
          ·
            have h5 := (tb_z (n := (nn K)) (P := P) (p := i5) (by omega) (by omega)).mp h5
            refine gx_iinc (v := nI (i5 + 1)) (lv2 := [(4, .int (nI (i5 + 1))), (5, .int 1), (0, .ref (eA E e)), (1, .int (bset (nn K) P)), (2, .int (nI q)), (3, .int (nI (cnt (fun p => P p && mwP K q p) i5)))]) C dX0_howManyMayWant_79 (by rfl) (by exact nI_p1 _) (by decide) rfl ?_
            refine gx_goto (tgt := 5) C dX0_howManyMayWant_82 (by decide) ?_
            refine gx_sub [2, 3, 4, 5, 0] (lv' := [(0, .ref (eA E e)), (1, .int (bset (nn K) P)), (2, .int (nI q)), (3, .int (nI (cnt (fun p => P p && mwP K q p) i5))), (4, .int (nI (i5 + 1)))]) rfl ?_
            refine gx_lv (lv' := [(0, .ref (eA E e)), (1, .int (bset (nn K) P)), (2, .int (nI q)), (3, .int (nI (cnt (fun p => P p && mwP K q p) (i5 + 1)))), (4, .int (nI (i5 + 1)))]) (by rw [cnt_f (n := i5) (P := fun p => P p && mwP K q p) (by first | (simp [mwP, *]; done) | (simp only [mwP]; rw [em2]; simp [*]; done) | (simp only [mwP]; rw [em2]; grind))]) ?_
            exact ih5 (i5 + 1) (by omega) (by omega)
          ·
            have h5 := (tb_nz (n := (nn K)) (P := P) (p := i5) (by omega) (by omega)).mp h5
            refine gx_iload C dX0_howManyMayWant_71 (by rfl) ?_
            refine gx_if_eq (tgt := 79) C dX0_howManyMayWant_73 (by decide) (fun h6 => ?_) (fun h6 => ?_)
            ·
              exact absurd h6 (by decide)
            ·
              clear h6
              refine gx_iinc (v := nI (cnt (fun p => P p && mwP K q p) i5 + 1)) (lv2 := [(3, .int (nI (cnt (fun p => P p && mwP K q p) i5 + 1))), (5, .int 1), (0, .ref (eA E e)), (1, .int (bset (nn K) P)), (2, .int (nI q)), (4, .int (nI i5))]) C dX0_howManyMayWant_76 (by rfl) (by exact nI_p1 _) (by decide) rfl ?_
              refine gx_iinc (v := nI (i5 + 1)) (lv2 := [(4, .int (nI (i5 + 1))), (3, .int (nI (cnt (fun p => P p && mwP K q p) i5 + 1))), (5, .int 1), (0, .ref (eA E e)), (1, .int (bset (nn K) P)), (2, .int (nI q))]) C dX0_howManyMayWant_79 (by rfl) (by exact nI_p1 _) (by decide) rfl ?_
              refine gx_goto (tgt := 5) C dX0_howManyMayWant_82 (by decide) ?_
              refine gx_sub [3, 4, 5, 1, 0] (lv' := [(0, .ref (eA E e)), (1, .int (bset (nn K) P)), (2, .int (nI q)), (3, .int (nI (cnt (fun p => P p && mwP K q p) i5 + 1))), (4, .int (nI (i5 + 1)))]) rfl ?_
              refine gx_lv (lv' := [(0, .ref (eA E e)), (1, .int (bset (nn K) P)), (2, .int (nI q)), (3, .int (nI (cnt (fun p => P p && mwP K q p) (i5 + 1)))), (4, .int (nI (i5 + 1)))]) (by rw [cntS_t (n := i5) (P := fun p => P p && mwP K q p) (by first | (simp [mwP, *]; done) | (simp only [mwP]; rw [em2]; simp [*]; done) | (simp only [mwP]; rw [em2]; grind))]) ?_
              exact ih5 (i5 + 1) (by omega) (by omega)
        ·
          have h4 := b2_nz.mp h4
          refine gx_aload_n C dX0_howManyMayWant_28 (by rfl) (by rfl) ?_
          refine gx_getr (j := e + 1) (k := 0) C ck0 (sh_e he) (by rfl) (by decide) fl_X0_9 dX0_howManyMayWant_29 ?_
          refine gx_iload C dX0_howManyMayWant_32 (by rfl) ?_
          refine gx_ialdN (k := i5) C (sh_e1 he) rfl (by omega) (by decide) dX0_howManyMayWant_34 ?_
          refine gx_st (st' := [.int (K 1 i5)]) (by rw [hK.r1 (p := i5) (by omega)]) ?_
          refine gx_iconst (v := 4) C dX0_howManyMayWant_35 (by decide) ?_
          refine gx_icmp_ne (tgt := 59) C dX0_howManyMayWant_36 (by decide) (fun h7 => ?_) (fun h7 => ?_)
          ·
            refine gx_iconst (v := 0) C dX0_howManyMayWant_59 (by decide) ?_
            refine gx_istore (lv2 := [(5, .int 0), (0, .ref (eA E e)), (1, .int (bset (nn K) P)), (2, .int (nI q)), (3, .int (nI (cnt (fun p => P p && mwP K q p) i5))), (4, .int (nI i5))]) C dX0_howManyMayWant_60 (by decide) rfl ?_
            refine gx_iload_n C dX0_howManyMayWant_62 (by rfl) (by rfl) ?_
            refine gx_iload C dX0_howManyMayWant_63 (by rfl) ?_
            refine gx_ishr C dX0_howManyMayWant_65 ?_
            refine gx_iconst (v := 1) C dX0_howManyMayWant_66 (by decide) ?_
            refine gx_iand C dX0_howManyMayWant_67 ?_
            refine gx_if_eq (tgt := 79) C dX0_howManyMayWant_68 (by decide) (fun h8 => ?_) (fun h8 => ?_)
            ·
              have h8 := (tb_z (n := (nn K)) (P := P) (p := i5) (by omega) (by omega)).mp h8
              refine gx_iinc (v := nI (i5 + 1)) (lv2 := [(4, .int (nI (i5 + 1))), (5, .int 0), (0, .ref (eA E e)), (1, .int (bset (nn K) P)), (2, .int (nI q)), (3, .int (nI (cnt (fun p => P p && mwP K q p) i5)))]) C dX0_howManyMayWant_79 (by rfl) (by exact nI_p1 _) (by decide) rfl ?_
              refine gx_goto (tgt := 5) C dX0_howManyMayWant_82 (by decide) ?_
              refine gx_sub [2, 3, 4, 5, 0] (lv' := [(0, .ref (eA E e)), (1, .int (bset (nn K) P)), (2, .int (nI q)), (3, .int (nI (cnt (fun p => P p && mwP K q p) i5))), (4, .int (nI (i5 + 1)))]) rfl ?_
              refine gx_lv (lv' := [(0, .ref (eA E e)), (1, .int (bset (nn K) P)), (2, .int (nI q)), (3, .int (nI (cnt (fun p => P p && mwP K q p) (i5 + 1)))), (4, .int (nI (i5 + 1)))]) (by rw [cnt_f (n := i5) (P := fun p => P p && mwP K q p) (by first | (simp [mwP, *]; done) | (simp only [mwP]; rw [em2]; simp [*]; done) | (simp only [mwP]; rw [em2]; grind))]) ?_
              exact ih5 (i5 + 1) (by omega) (by omega)
            ·
              have h8 := (tb_nz (n := (nn K)) (P := P) (p := i5) (by omega) (by omega)).mp h8
              refine gx_iload C dX0_howManyMayWant_71 (by rfl) ?_
              refine gx_if_eq (tgt := 79) C dX0_howManyMayWant_73 (by decide) (fun h9 => ?_) (fun h9 => ?_)
              ·
                clear h9
                refine gx_iinc (v := nI (i5 + 1)) (lv2 := [(4, .int (nI (i5 + 1))), (5, .int 0), (0, .ref (eA E e)), (1, .int (bset (nn K) P)), (2, .int (nI q)), (3, .int (nI (cnt (fun p => P p && mwP K q p) i5)))]) C dX0_howManyMayWant_79 (by rfl) (by exact nI_p1 _) (by decide) rfl ?_
                refine gx_goto (tgt := 5) C dX0_howManyMayWant_82 (by decide) ?_
                refine gx_sub [2, 3, 4, 5, 0] (lv' := [(0, .ref (eA E e)), (1, .int (bset (nn K) P)), (2, .int (nI q)), (3, .int (nI (cnt (fun p => P p && mwP K q p) i5))), (4, .int (nI (i5 + 1)))]) rfl ?_
                refine gx_lv (lv' := [(0, .ref (eA E e)), (1, .int (bset (nn K) P)), (2, .int (nI q)), (3, .int (nI (cnt (fun p => P p && mwP K q p) (i5 + 1)))), (4, .int (nI (i5 + 1)))]) (by rw [cnt_f (n := i5) (P := fun p => P p && mwP K q p) (by first | (simp [mwP, *]; done) | (simp only [mwP]; rw [em2]; simp [*]; done) | (simp only [mwP]; rw [em2]; grind))]) ?_
                exact ih5 (i5 + 1) (by omega) (by omega)
              ·
                exact absurd h9 (by decide)
          ·
            refine gx_aload_n C dX0_howManyMayWant_39 (by rfl) (by rfl) ?_
            refine gx_getr (j := e + 4) (k := 3) C ck0 (sh_e he) (by rfl) (by decide) fl_X0_21 dX0_howManyMayWant_40 ?_
            refine gx_iload C dX0_howManyMayWant_43 (by rfl) ?_
            refine gx_ialdN (k := i5) C (sh_e4 he) rfl (by omega) (by decide) dX0_howManyMayWant_45 ?_
            refine gx_st (st' := [.int (K 4 i5)]) (by rw [hK.r4 (p := i5) (by omega)]) ?_
            refine gx_aload_n C dX0_howManyMayWant_46 (by rfl) (by rfl) ?_
            refine gx_getr (j := e + 4) (k := 3) C ck0 (sh_e he) (by rfl) (by decide) fl_X0_21 dX0_howManyMayWant_47 ?_
            refine gx_iload_n C dX0_howManyMayWant_50 (by rfl) (by rfl) ?_
            refine gx_ialdN (k := q) C (sh_e4 he) rfl (by omega) (by decide) dX0_howManyMayWant_51 ?_
            refine gx_st (st' := [.int (K 4 q), .int (K 4 i5)]) (by rw [hK.r4 (p := q) (by omega)]) ?_
            refine gx_icmp_eq (tgt := 59) C dX0_howManyMayWant_52 (by decide) (fun h10 => ?_) (fun h10 => ?_)
            ·
              refine gx_iconst (v := 0) C dX0_howManyMayWant_59 (by decide) ?_
              refine gx_istore (lv2 := [(5, .int 0), (0, .ref (eA E e)), (1, .int (bset (nn K) P)), (2, .int (nI q)), (3, .int (nI (cnt (fun p => P p && mwP K q p) i5))), (4, .int (nI i5))]) C dX0_howManyMayWant_60 (by decide) rfl ?_
              refine gx_iload_n C dX0_howManyMayWant_62 (by rfl) (by rfl) ?_
              refine gx_iload C dX0_howManyMayWant_63 (by rfl) ?_
              refine gx_ishr C dX0_howManyMayWant_65 ?_
              refine gx_iconst (v := 1) C dX0_howManyMayWant_66 (by decide) ?_
              refine gx_iand C dX0_howManyMayWant_67 ?_
              refine gx_if_eq (tgt := 79) C dX0_howManyMayWant_68 (by decide) (fun h11 => ?_) (fun h11 => ?_)
              ·
                have h11 := (tb_z (n := (nn K)) (P := P) (p := i5) (by omega) (by omega)).mp h11
                refine gx_iinc (v := nI (i5 + 1)) (lv2 := [(4, .int (nI (i5 + 1))), (5, .int 0), (0, .ref (eA E e)), (1, .int (bset (nn K) P)), (2, .int (nI q)), (3, .int (nI (cnt (fun p => P p && mwP K q p) i5)))]) C dX0_howManyMayWant_79 (by rfl) (by exact nI_p1 _) (by decide) rfl ?_
                refine gx_goto (tgt := 5) C dX0_howManyMayWant_82 (by decide) ?_
                refine gx_sub [2, 3, 4, 5, 0] (lv' := [(0, .ref (eA E e)), (1, .int (bset (nn K) P)), (2, .int (nI q)), (3, .int (nI (cnt (fun p => P p && mwP K q p) i5))), (4, .int (nI (i5 + 1)))]) rfl ?_
                refine gx_lv (lv' := [(0, .ref (eA E e)), (1, .int (bset (nn K) P)), (2, .int (nI q)), (3, .int (nI (cnt (fun p => P p && mwP K q p) (i5 + 1)))), (4, .int (nI (i5 + 1)))]) (by rw [cnt_f (n := i5) (P := fun p => P p && mwP K q p) (by first | (simp [mwP, *]; done) | (simp only [mwP]; rw [em2]; simp [*]; done) | (simp only [mwP]; rw [em2]; grind))]) ?_
                exact ih5 (i5 + 1) (by omega) (by omega)
              ·
                have h11 := (tb_nz (n := (nn K)) (P := P) (p := i5) (by omega) (by omega)).mp h11
                refine gx_iload C dX0_howManyMayWant_71 (by rfl) ?_
                refine gx_if_eq (tgt := 79) C dX0_howManyMayWant_73 (by decide) (fun h12 => ?_) (fun h12 => ?_)
                ·
                  clear h12
                  refine gx_iinc (v := nI (i5 + 1)) (lv2 := [(4, .int (nI (i5 + 1))), (5, .int 0), (0, .ref (eA E e)), (1, .int (bset (nn K) P)), (2, .int (nI q)), (3, .int (nI (cnt (fun p => P p && mwP K q p) i5)))]) C dX0_howManyMayWant_79 (by rfl) (by exact nI_p1 _) (by decide) rfl ?_
                  refine gx_goto (tgt := 5) C dX0_howManyMayWant_82 (by decide) ?_
                  refine gx_sub [2, 3, 4, 5, 0] (lv' := [(0, .ref (eA E e)), (1, .int (bset (nn K) P)), (2, .int (nI q)), (3, .int (nI (cnt (fun p => P p && mwP K q p) i5))), (4, .int (nI (i5 + 1)))]) rfl ?_
                  refine gx_lv (lv' := [(0, .ref (eA E e)), (1, .int (bset (nn K) P)), (2, .int (nI q)), (3, .int (nI (cnt (fun p => P p && mwP K q p) (i5 + 1)))), (4, .int (nI (i5 + 1)))]) (by rw [cnt_f (n := i5) (P := fun p => P p && mwP K q p) (by first | (simp [mwP, *]; done) | (simp only [mwP]; rw [em2]; simp [*]; done) | (simp only [mwP]; rw [em2]; grind))]) ?_
                  exact ih5 (i5 + 1) (by omega) (by omega)
                ·
                  exact absurd h12 (by decide)
            ·
              refine gx_iconst (v := 1) C dX0_howManyMayWant_55 (by decide) ?_
              refine gx_goto (tgt := 60) C dX0_howManyMayWant_56 (by decide) ?_
              refine gx_istore (lv2 := [(5, .int 1), (0, .ref (eA E e)), (1, .int (bset (nn K) P)), (2, .int (nI q)), (3, .int (nI (cnt (fun p => P p && mwP K q p) i5))), (4, .int (nI i5))]) C dX0_howManyMayWant_60 (by decide) rfl ?_
              refine gx_iload_n C dX0_howManyMayWant_62 (by rfl) (by rfl) ?_
              refine gx_iload C dX0_howManyMayWant_63 (by rfl) ?_
              refine gx_ishr C dX0_howManyMayWant_65 ?_
              refine gx_iconst (v := 1) C dX0_howManyMayWant_66 (by decide) ?_
              refine gx_iand C dX0_howManyMayWant_67 ?_
              refine gx_if_eq (tgt := 79) C dX0_howManyMayWant_68 (by decide) (fun h13 => ?_) (fun h13 => ?_)
              ·
                have h13 := (tb_z (n := (nn K)) (P := P) (p := i5) (by omega) (by omega)).mp h13
                refine gx_iinc (v := nI (i5 + 1)) (lv2 := [(4, .int (nI (i5 + 1))), (5, .int 1), (0, .ref (eA E e)), (1, .int (bset (nn K) P)), (2, .int (nI q)), (3, .int (nI (cnt (fun p => P p && mwP K q p) i5)))]) C dX0_howManyMayWant_79 (by rfl) (by exact nI_p1 _) (by decide) rfl ?_
                refine gx_goto (tgt := 5) C dX0_howManyMayWant_82 (by decide) ?_
                refine gx_sub [2, 3, 4, 5, 0] (lv' := [(0, .ref (eA E e)), (1, .int (bset (nn K) P)), (2, .int (nI q)), (3, .int (nI (cnt (fun p => P p && mwP K q p) i5))), (4, .int (nI (i5 + 1)))]) rfl ?_
                refine gx_lv (lv' := [(0, .ref (eA E e)), (1, .int (bset (nn K) P)), (2, .int (nI q)), (3, .int (nI (cnt (fun p => P p && mwP K q p) (i5 + 1)))), (4, .int (nI (i5 + 1)))]) (by rw [cnt_f (n := i5) (P := fun p => P p && mwP K q p) (by first | (simp [mwP, *]; done) | (simp only [mwP]; rw [em2]; simp [*]; done) | (simp only [mwP]; rw [em2]; grind))]) ?_
                exact ih5 (i5 + 1) (by omega) (by omega)
              ·
                have h13 := (tb_nz (n := (nn K)) (P := P) (p := i5) (by omega) (by omega)).mp h13
                refine gx_iload C dX0_howManyMayWant_71 (by rfl) ?_
                refine gx_if_eq (tgt := 79) C dX0_howManyMayWant_73 (by decide) (fun h14 => ?_) (fun h14 => ?_)
                ·
                  exact absurd h14 (by decide)
                ·
                  clear h14
                  refine gx_iinc (v := nI (cnt (fun p => P p && mwP K q p) i5 + 1)) (lv2 := [(3, .int (nI (cnt (fun p => P p && mwP K q p) i5 + 1))), (5, .int 1), (0, .ref (eA E e)), (1, .int (bset (nn K) P)), (2, .int (nI q)), (4, .int (nI i5))]) C dX0_howManyMayWant_76 (by rfl) (by exact nI_p1 _) (by decide) rfl ?_
                  refine gx_iinc (v := nI (i5 + 1)) (lv2 := [(4, .int (nI (i5 + 1))), (3, .int (nI (cnt (fun p => P p && mwP K q p) i5 + 1))), (5, .int 1), (0, .ref (eA E e)), (1, .int (bset (nn K) P)), (2, .int (nI q))]) C dX0_howManyMayWant_79 (by rfl) (by exact nI_p1 _) (by decide) rfl ?_
                  refine gx_goto (tgt := 5) C dX0_howManyMayWant_82 (by decide) ?_
                  refine gx_sub [3, 4, 5, 1, 0] (lv' := [(0, .ref (eA E e)), (1, .int (bset (nn K) P)), (2, .int (nI q)), (3, .int (nI (cnt (fun p => P p && mwP K q p) i5 + 1))), (4, .int (nI (i5 + 1)))]) rfl ?_
                  refine gx_lv (lv' := [(0, .ref (eA E e)), (1, .int (bset (nn K) P)), (2, .int (nI q)), (3, .int (nI (cnt (fun p => P p && mwP K q p) (i5 + 1)))), (4, .int (nI (i5 + 1)))]) (by rw [cntS_t (n := i5) (P := fun p => P p && mwP K q p) (by first | (simp [mwP, *]; done) | (simp only [mwP]; rw [em2]; simp [*]; done) | (simp only [mwP]; rw [em2]; grind))]) ?_
                  exact ih5 (i5 + 1) (by omega) (by omega)
  refine gx_sub [2, 3, 4, 1, 0] (lv' := [(0, .ref (eA E e)), (1, .int (bset (nn K) P)), (2, .int (nI q)), (3, .int 0), (4, .int 0)]) rfl ?_
  refine gx_lv (lv' := [(0, .ref (eA E e)), (1, .int (bset (nn K) P)), (2, .int (nI q)), (3, .int (nI (cnt (fun p => P p && mwP K q p) 0))), (4, .int (nI 0))]) (by rfl) ?_
  exact loop5 (nn K + 1) 0 (by omega) (by omega)
def tkK (K : Mm) (q g : Nat) (v : Int32) : Mm :=
  let K1 := up2 K 5 g (K 5 g - v)
  let K2 := up2 K1 5 q (K1 5 q + v)
  up2 K2 7 q (K2 7 q + v)
set_option maxHeartbeats 4000000 in
set_option maxRecDepth 100000 in
theorem c_X0_take (E : En) (σ : Mm) (e : Nat) (he : isE e) (K : Mm) (hK : Emp σ e K) (hO : Ok K) (q : Nat) (hq : q < nn K) (g : Nat) (hg : g < nn K) (eg : K 6 q = nI g) (v : Int32) : CtV E yX0_take cX0_take 4 none 1 21 [.ref (eA E e), .int (nI q), .int v] σ (fun σ2 => Emp σ2 e (tkK K q g v) ∧ Fr e σ σ2) := by
  obtain ⟨⟨hn, h12⟩, hpp, hlw, hsp, hz0⟩ := id hO
  refine CtV.of (by decide +kernel) (Nat.le_of_ble_eq_true rfl) (fun p e0 s m below meth c C hr hlk => ?_)
  refine gx_lv (lv' := [(0, .ref (eA E e)), (1, .int (nI q)), (2, .int v)]) rfl ?_
  refine gx_aload_n C dX0_take_0 (by rfl) (by rfl) ?_
  refine gx_getr (j := e + 6) (k := 5) C ck0 (sh_e he) (by rfl) (by decide) fl_X0_27 dX0_take_1 ?_
  refine gx_iload_n C dX0_take_4 (by rfl) (by rfl) ?_
  refine gx_ialdN (k := q) C (sh_e6 he) rfl (by omega) (by decide) dX0_take_5 ?_
  refine gx_st (st' := [.int (K 6 q)]) (by rw [hK.r6 (p := q) (by omega)]) ?_
  refine gx_istore_n (lv2 := [(3, .int (K 6 q)), (0, .ref (eA E e)), (1, .int (nI q)), (2, .int v)]) C dX0_take_6 (by rfl) (by decide) rfl ?_
  refine gx_aload_n C dX0_take_7 (by rfl) (by rfl) ?_
  refine gx_iload_n C dX0_take_8 (by rfl) (by rfl) ?_
  refine gx_callVI (As := [.int (K 6 q)]) (rest := []) C (k_X0_has E σ e he K hK hO (K 6 q)) z_X0_has ck0 (sh_e he) (by rfl) ml_X0_67 (by rfl) (Nat.le_of_ble_eq_true rfl) ⟨Nat.le_of_ble_eq_true rfl, Nat.le_of_ble_eq_true rfl⟩ dX0_take_9 (fun r1 σ1 w1 => ?_)
  obtain ⟨u1, u2⟩ := w1; rw [u1, u2]; clear u1 u2
  refine gx_if_eq (tgt := 45) C dX0_take_12 (by decide) (fun h2 => ?_) (fun h2 => ?_)
  ·
    have h2 := b2_z.mp h2
    exact absurd (by rw [eg, hn]; exact ⟨nI_pos' (by omega), nI_lt hg (by omega)⟩) h2
  ·
    have h2 := b2_nz.mp h2
    refine gx_lv (lv' := [(3, .int (nI g)), (0, .ref (eA E e)), (1, .int (nI q)), (2, .int v)]) (by rw [eg]) ?_
    refine gx_aload_n C dX0_take_15 (by rfl) (by rfl) ?_
    refine gx_getr (j := e + 5) (k := 4) C ck0 (sh_e he) (by rfl) (by decide) fl_X0_24 dX0_take_16 ?_
    refine gx_iload_n C dX0_take_19 (by rfl) (by rfl) ?_
    refine gx_dup2 C (by rfl) (by rfl) dX0_take_20 ?_
    refine gx_ialdN (k := g) C (sh_e5 he) rfl (by omega) (by decide) dX0_take_21 ?_
    refine gx_st (st' := [.int (K 5 g), .int (nI g), .ref (eA E (e + 5))]) (by rw [hK.r5 (p := g) (by omega)]) ?_
    refine gx_iload_n C dX0_take_22 (by rfl) (by rfl) ?_
    refine gx_isub C dX0_take_23 ?_
    refine gx_iastN (k := g) C (sh_e5 he) rfl (by omega) (by decide) dX0_take_24 ?_
    have hK4 := hK.u5 (p := g) (v := (K 5 g) - v) (by omega)
    refine gx_aload_n C dX0_take_25 (by rfl) (by rfl) ?_
    refine gx_getr (j := e + 5) (k := 4) C ck0 (sh_e he) (by rfl) (by decide) fl_X0_24 dX0_take_26 ?_
    refine gx_iload_n C dX0_take_29 (by rfl) (by rfl) ?_
    refine gx_dup2 C (by rfl) (by rfl) dX0_take_30 ?_
    refine gx_ialdN (k := q) C (sh_e5 he) rfl (by omega) (by decide) dX0_take_31 ?_
    refine gx_st (st' := [.int ((up2 K 5 g ((K 5 g) - v)) 5 q), .int (nI q), .ref (eA E (e + 5))]) (by rw [hK4.r5 (p := q) (by omega)]) ?_
    refine gx_iload_n C dX0_take_32 (by rfl) (by rfl) ?_
    refine gx_iadd C dX0_take_33 ?_
    refine gx_iastN (k := q) C (sh_e5 he) rfl (by omega) (by decide) dX0_take_34 ?_
    have hK5 := hK4.u5 (p := q) (v := ((up2 K 5 g ((K 5 g) - v)) 5 q) + v) (by omega)
    refine gx_aload_n C dX0_take_35 (by rfl) (by rfl) ?_
    refine gx_getr (j := e + 7) (k := 6) C ck0 (sh_e he) (by rfl) (by decide) fl_X0_30 dX0_take_36 ?_
    refine gx_iload_n C dX0_take_39 (by rfl) (by rfl) ?_
    refine gx_dup2 C (by rfl) (by rfl) dX0_take_40 ?_
    refine gx_ialdN (k := q) C (sh_e7 he) rfl (by omega) (by decide) dX0_take_41 ?_
    refine gx_st (st' := [.int ((up2 (up2 K 5 g ((K 5 g) - v)) 5 q (((up2 K 5 g ((K 5 g) - v)) 5 q) + v)) 7 q), .int (nI q), .ref (eA E (e + 7))]) (by rw [hK5.r7 (p := q) (by omega)]) ?_
    refine gx_iload_n C dX0_take_42 (by rfl) (by rfl) ?_
    refine gx_iadd C dX0_take_43 ?_
    refine gx_iastN (k := q) C (sh_e7 he) rfl (by omega) (by decide) dX0_take_44 ?_
    have hK6 := hK5.u7 (p := q) (v := ((up2 (up2 K 5 g ((K 5 g) - v)) 5 q (((up2 K 5 g ((K 5 g) - v)) 5 q) + v)) 7 q) + v) (by omega)
    exact gx_vret C hr hlk ⟨hK6, by intro i hi; simp only [up2]; grind⟩ dX0_take_45
