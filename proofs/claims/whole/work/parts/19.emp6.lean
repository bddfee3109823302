def okd (k : Nat) (w : Int32) : Bool := (([[0], [1, 0], [2, 0], [3, 2, 0], [4, 1, 0], [5, 0], [6, 1, 0]] : List (List Int32)).getD k []).contains w
set_option maxHeartbeats 4000000 in
set_option maxRecDepth 100000 in
theorem c_X3_isOfKind_0 (E : En) (σ : Mm) (w : Int32) : CtI E yX3_isOfKind cX3_isOfKind 4 (some .boolean) 2 42 [.int 0, .int w] σ (fun rr σ2 => σ2 = σ ∧ rr = b2 (okd 0 w = true)) := by
  refine CtI.of (by decide +kernel) (Nat.le_of_ble_eq_true rfl) (fun p e0 s m below meth c C hr hlk => ?_)
  refine gx_lv (lv' := [(0, .int 0), (1, .int w)]) rfl ?_
  refine gx_iload_n C dX3_isOfKind_0 (by rfl) (by rfl) ?_
  refine gx_istore_n (lv2 := [(2, .int 0), (0, .int 0), (1, .int w)]) C dX3_isOfKind_1 (by rfl) (by decide) rfl ?_
  refine gx_iconst (v := 0) C dX3_isOfKind_2 (by decide) ?_
  refine gx_istore_n (lv2 := [(3, .int 0), (2, .int 0), (0, .int 0), (1, .int w)]) C dX3_isOfKind_3 (by rfl) (by decide) rfl ?_
  refine gx_iload_n C dX3_isOfKind_4 (by rfl) (by rfl) ?_
  refine gx_bipush (v := 7) C dX3_isOfKind_5 (by decide) ?_
  refine gx_icmp_ge (tgt := 36) C dX3_isOfKind_7 (by decide) (fun h1 => ?_) (fun h1 => ?_)
  ·
    exact absurd h1 (by decide)
  ·
    clear h1
    refine gx_iload_n C dX3_isOfKind_10 (by rfl) (by rfl) ?_
    refine gx_callSI (As := [.int 0]) (rest := []) C (c_X3_isKind E σ 0) z_X3_isKind (by rfl) ml_X3_84 (by rfl) (Nat.le_of_ble_eq_true rfl) ⟨Nat.le_of_ble_eq_true rfl, Nat.le_of_ble_eq_true rfl⟩ dX3_isOfKind_11 (fun r2 σ2 w2 => ?_)
    obtain ⟨u1, u2⟩ := w2; rw [u1, u2]; clear u1 u2
    refine gx_if_eq (tgt := 36) C dX3_isOfKind_14 (by decide) (fun h3 => ?_) (fun h3 => ?_)
    ·
      exact absurd h3 (by decide)
    ·
      clear h3
      refine gx_iload_n C dX3_isOfKind_17 (by rfl) (by rfl) ?_
      refine gx_iload_n C dX3_isOfKind_18 (by rfl) (by rfl) ?_
      refine gx_icmp_ne (tgt := 24) C dX3_isOfKind_19 (by decide) (fun h4 => ?_) (fun h4 => ?_)
      ·
        refine gx_stat (q := 0) C C.2.2.2.2.2.2.2.1.1 fl_X3_276 dX3_isOfKind_24 ?_
        refine gx_iload_n C dX3_isOfKind_27 (by rfl) (by rfl) ?_
        refine gx_ext (k := 0) (v := (-1)) C C.2.2.2.2.2.2.2.1.2 (by rfl) (by decide) (by decide) (by rfl) dX3_isOfKind_28 ?_
        refine gx_istore_n (lv2 := [(2, .int (-1)), (3, .int 0), (0, .int 0), (1, .int w)]) C dX3_isOfKind_29 (by rfl) (by decide) rfl ?_
        refine gx_iinc (v := 1) (lv2 := [(3, .int 1), (2, .int (-1)), (0, .int 0), (1, .int w)]) C dX3_isOfKind_30 (by rfl) (by decide) (by decide) rfl ?_
        refine gx_goto (tgt := 4) C dX3_isOfKind_33 (by decide) ?_
        refine gx_iload_n C dX3_isOfKind_4 (by rfl) (by rfl) ?_
        refine gx_bipush (v := 7) C dX3_isOfKind_5 (by decide) ?_
        refine gx_icmp_ge (tgt := 36) C dX3_isOfKind_7 (by decide) (fun h5 => ?_) (fun h5 => ?_)
        ·
          exact absurd h5 (by decide)
        ·
          clear h5
          refine gx_iload_n C dX3_isOfKind_10 (by rfl) (by rfl) ?_
          refine gx_callSI (As := [.int (-1)]) (rest := []) C (c_X3_isKind E σ (-1)) z_X3_isKind (by rfl) ml_X3_84 (by rfl) (Nat.le_of_ble_eq_true rfl) ⟨Nat.le_of_ble_eq_true rfl, Nat.le_of_ble_eq_true rfl⟩ dX3_isOfKind_11 (fun r6 σ6 w6 => ?_)
          obtain ⟨u1, u2⟩ := w6; rw [u1, u2]; clear u1 u2
          refine gx_if_eq (tgt := 36) C dX3_isOfKind_14 (by decide) (fun h7 => ?_) (fun h7 => ?_)
          ·
            clear h7
            refine gx_iconst (v := 0) C dX3_isOfKind_36 (by decide) ?_
            exact gx_iret C hr hlk (by first | rfl | exact nb_b2 _) ⟨rfl, by first | exact b2_t (by simp [okd, *]; done) | exact b2_t (by simp only [okd]; grind) | exact b2_f (by simp [okd]; grind)⟩ dX3_isOfKind_37
          ·
            exact absurd h7 (by decide)
      ·
        refine gx_iconst (v := 1) C dX3_isOfKind_22 (by decide) ?_
        exact gx_iret C hr hlk (by first | rfl | exact nb_b2 _) ⟨rfl, by first | exact b2_t (by simp [okd, *]; done) | exact b2_t (by simp only [okd]; grind) | exact b2_f (by simp [okd]; grind)⟩ dX3_isOfKind_23
set_option maxHeartbeats 4000000 in
set_option maxRecDepth 100000 in
theorem c_X3_isOfKind_1 (E : En) (σ : Mm) (w : Int32) : CtI E yX3_isOfKind cX3_isOfKind 4 (some .boolean) 2 42 [.int 1, .int w] σ (fun rr σ2 => σ2 = σ ∧ rr = b2 (okd 1 w = true)) := by
  refine CtI.of (by decide +kernel) (Nat.le_of_ble_eq_true rfl) (fun p e0 s m below meth c C hr hlk => ?_)
  refine gx_lv (lv' := [(0, .int 1), (1, .int w)]) rfl ?_
  refine gx_iload_n C dX3_isOfKind_0 (by rfl) (by rfl) ?_
  refine gx_istore_n (lv2 := [(2, .int 1), (0, .int 1), (1, .int w)]) C dX3_isOfKind_1 (by rfl) (by decide) rfl ?_
  refine gx_iconst (v := 0) C dX3_isOfKind_2 (by decide) ?_
  refine gx_istore_n (lv2 := [(3, .int 0), (2, .int 1), (0, .int 1), (1, .int w)]) C dX3_isOfKind_3 (by rfl) (by decide) rfl ?_
  refine gx_iload_n C dX3_isOfKind_4 (by rfl) (by rfl) ?_
  refine gx_bipush (v := 7) C dX3_isOfKind_5 (by decide) ?_
  refine gx_icmp_ge (tgt := 36) C dX3_isOfKind_7 (by decide) (fun h1 => ?_) (fun h1 => ?_)
  ·
    exact absurd h1 (by decide)
  ·
    clear h1
    refine gx_iload_n C dX3_isOfKind_10 (by rfl) (by rfl) ?_
    refine gx_callSI (As := [.int 1]) (rest := []) C (c_X3_isKind E σ 1) z_X3_isKind (by rfl) ml_X3_84 (by rfl) (Nat.le_of_ble_eq_true rfl) ⟨Nat.le_of_ble_eq_true rfl, Nat.le_of_ble_eq_true rfl⟩ dX3_isOfKind_11 (fun r2 σ2 w2 => ?_)
    obtain ⟨u1, u2⟩ := w2; rw [u1, u2]; clear u1 u2
    refine gx_if_eq (tgt := 36) C dX3_isOfKind_14 (by decide) (fun h3 => ?_) (fun h3 => ?_)
    ·
      exact absurd h3 (by decide)
    ·
      clear h3
      refine gx_iload_n C dX3_isOfKind_17 (by rfl) (by rfl) ?_
      refine gx_iload_n C dX3_isOfKind_18 (by rfl) (by rfl) ?_
      refine gx_icmp_ne (tgt := 24) C dX3_isOfKind_19 (by decide) (fun h4 => ?_) (fun h4 => ?_)
      ·
        refine gx_stat (q := 0) C C.2.2.2.2.2.2.2.1.1 fl_X3_276 dX3_isOfKind_24 ?_
        refine gx_iload_n C dX3_isOfKind_27 (by rfl) (by rfl) ?_
        refine gx_ext (k := 1) (v := 0) C C.2.2.2.2.2.2.2.1.2 (by rfl) (by decide) (by decide) (by rfl) dX3_isOfKind_28 ?_
        refine gx_istore_n (lv2 := [(2, .int 0), (3, .int 0), (0, .int 1), (1, .int w)]) C dX3_isOfKind_29 (by rfl) (by decide) rfl ?_
        refine gx_iinc (v := 1) (lv2 := [(3, .int 1), (2, .int 0), (0, .int 1), (1, .int w)]) C dX3_isOfKind_30 (by rfl) (by decide) (by decide) rfl ?_
        refine gx_goto (tgt := 4) C dX3_isOfKind_33 (by decide) ?_
        refine gx_iload_n C dX3_isOfKind_4 (by rfl) (by rfl) ?_
        refine gx_bipush (v := 7) C dX3_isOfKind_5 (by decide) ?_
        refine gx_icmp_ge (tgt := 36) C dX3_isOfKind_7 (by decide) (fun h5 => ?_) (fun h5 => ?_)
        ·
          exact absurd h5 (by decide)
        ·
          clear h5
          refine gx_iload_n C dX3_isOfKind_10 (by rfl) (by rfl) ?_
          refine gx_callSI (As := [.int 0]) (rest := []) C (c_X3_isKind E σ 0) z_X3_isKind (by rfl) ml_X3_84 (by rfl) (Nat.le_of_ble_eq_true rfl) ⟨Nat.le_of_ble_eq_true rfl, Nat.le_of_ble_eq_true rfl⟩ dX3_isOfKind_11 (fun r6 σ6 w6 => ?_)
          obtain ⟨u1, u2⟩ := w6; rw [u1, u2]; clear u1 u2
          refine gx_if_eq (tgt := 36) C dX3_isOfKind_14 (by decide) (fun h7 => ?_) (fun h7 => ?_)
          ·
            exact absurd h7 (by decide)
          ·
            clear h7
            refine gx_iload_n C dX3_isOfKind_17 (by rfl) (by rfl) ?_
            refine gx_iload_n C dX3_isOfKind_18 (by rfl) (by rfl) ?_
            refine gx_icmp_ne (tgt := 24) C dX3_isOfKind_19 (by decide) (fun h8 => ?_) (fun h8 => ?_)
            ·
              refine gx_stat (q := 0) C C.2.2.2.2.2.2.2.1.1 fl_X3_276 dX3_isOfKind_24 ?_
              refine gx_iload_n C dX3_isOfKind_27 (by rfl) (by rfl) ?_
              refine gx_ext (k := 0) (v := (-1)) C C.2.2.2.2.2.2.2.1.2 (by rfl) (by decide) (by decide) (by rfl) dX3_isOfKind_28 ?_
              refine gx_istore_n (lv2 := [(2, .int (-1)), (3, .int 1), (0, .int 1), (1, .int w)]) C dX3_isOfKind_29 (by rfl) (by decide) rfl ?_
              refine gx_iinc (v := 2) (lv2 := [(3, .int 2), (2, .int (-1)), (0, .int 1), (1, .int w)]) C dX3_isOfKind_30 (by rfl) (by decide) (by decide) rfl ?_
              refine gx_goto (tgt := 4) C dX3_isOfKind_33 (by decide) ?_
              refine gx_iload_n C dX3_isOfKind_4 (by rfl) (by rfl) ?_
              refine gx_bipush (v := 7) C dX3_isOfKind_5 (by decide) ?_
              refine gx_icmp_ge (tgt := 36) C dX3_isOfKind_7 (by decide) (fun h9 => ?_) (fun h9 => ?_)
              ·
                exact absurd h9 (by decide)
              ·
                clear h9
                refine gx_iload_n C dX3_isOfKind_10 (by rfl) (by rfl) ?_
                refine gx_callSI (As := [.int (-1)]) (rest := []) C (c_X3_isKind E σ (-1)) z_X3_isKind (by rfl) ml_X3_84 (by rfl) (Nat.le_of_ble_eq_true rfl) ⟨Nat.le_of_ble_eq_true rfl, Nat.le_of_ble_eq_true rfl⟩ dX3_isOfKind_11 (fun r10 σ10 w10 => ?_)
                obtain ⟨u1, u2⟩ := w10; rw [u1, u2]; clear u1 u2
                refine gx_if_eq (tgt := 36) C dX3_isOfKind_14 (by decide) (fun h11 => ?_) (fun h11 => ?_)
                ·
                  clear h11
                  refine gx_iconst (v := 0) C dX3_isOfKind_36 (by decide) ?_
                  exact gx_iret C hr hlk (by first | rfl | exact nb_b2 _) ⟨rfl, by first | exact b2_t (by simp [okd, *]; done) | exact b2_t (by simp only [okd]; grind) | exact b2_f (by simp [okd]; grind)⟩ dX3_isOfKind_37
                ·
                  exact absurd h11 (by decide)
            ·
              refine gx_iconst (v := 1) C dX3_isOfKind_22 (by decide) ?_
              exact gx_iret C hr hlk (by first | rfl | exact nb_b2 _) ⟨rfl, by first | exact b2_t (by simp [okd, *]; done) | exact b2_t (by simp only [okd]; grind) | exact b2_f (by simp [okd]; grind)⟩ dX3_isOfKind_23
      ·
        refine gx_iconst (v := 1) C dX3_isOfKind_22 (by decide) ?_
        exact gx_iret C hr hlk (by first | rfl | exact nb_b2 _) ⟨rfl, by first | exact b2_t (by simp [okd, *]; done) | exact b2_t (by simp only [okd]; grind) | exact b2_f (by simp [okd]; grind)⟩ dX3_isOfKind_23
set_option maxHeartbeats 4000000 in
set_option maxRecDepth 100000 in
theorem c_X3_isOfKind_2 (E : En) (σ : Mm) (w : Int32) : CtI E yX3_isOfKind cX3_isOfKind 4 (some .boolean) 2 42 [.int 2, .int w] σ (fun rr σ2 => σ2 = σ ∧ rr = b2 (okd 2 w = true)) := by
  refine CtI.of (by decide +kernel) (Nat.le_of_ble_eq_true rfl) (fun p e0 s m below meth c C hr hlk => ?_)
  refine gx_lv (lv' := [(0, .int 2), (1, .int w)]) rfl ?_
  refine gx_iload_n C dX3_isOfKind_0 (by rfl) (by rfl) ?_
  refine gx_istore_n (lv2 := [(2, .int 2), (0, .int 2), (1, .int w)]) C dX3_isOfKind_1 (by rfl) (by decide) rfl ?_
  refine gx_iconst (v := 0) C dX3_isOfKind_2 (by decide) ?_
  refine gx_istore_n (lv2 := [(3, .int 0), (2, .int 2), (0, .int 2), (1, .int w)]) C dX3_isOfKind_3 (by rfl) (by decide) rfl ?_
  refine gx_iload_n C dX3_isOfKind_4 (by rfl) (by rfl) ?_
  refine gx_bipush (v := 7) C dX3_isOfKind_5 (by decide) ?_
  refine gx_icmp_ge (tgt := 36) C dX3_isOfKind_7 (by decide) (fun h1 => ?_) (fun h1 => ?_)
  ·
    exact absurd h1 (by decide)
  ·
    clear h1
    refine gx_iload_n C dX3_isOfKind_10 (by rfl) (by rfl) ?_
    refine gx_callSI (As := [.int 2]) (rest := []) C (c_X3_isKind E σ 2) z_X3_isKind (by rfl) ml_X3_84 (by rfl) (Nat.le_of_ble_eq_true rfl) ⟨Nat.le_of_ble_eq_true rfl, Nat.le_of_ble_eq_true rfl⟩ dX3_isOfKind_11 (fun r2 σ2 w2 => ?_)
    obtain ⟨u1, u2⟩ := w2; rw [u1, u2]; clear u1 u2
    refine gx_if_eq (tgt := 36) C dX3_isOfKind_14 (by decide) (fun h3 => ?_) (fun h3 => ?_)
    ·
      exact absurd h3 (by decide)
    ·
      clear h3
      refine gx_iload_n C dX3_isOfKind_17 (by rfl) (by rfl) ?_
      refine gx_iload_n C dX3_isOfKind_18 (by rfl) (by rfl) ?_
      refine gx_icmp_ne (tgt := 24) C dX3_isOfKind_19 (by decide) (fun h4 => ?_) (fun h4 => ?_)
      ·
        refine gx_stat (q := 0) C C.2.2.2.2.2.2.2.1.1 fl_X3_276 dX3_isOfKind_24 ?_
        refine gx_iload_n C dX3_isOfKind_27 (by rfl) (by rfl) ?_
        refine gx_ext (k := 2) (v := 0) C C.2.2.2.2.2.2.2.1.2 (by rfl) (by decide) (by decide) (by rfl) dX3_isOfKind_28 ?_
        refine gx_istore_n (lv2 := [(2, .int 0), (3, .int 0), (0, .int 2), (1, .int w)]) C dX3_isOfKind_29 (by rfl) (by decide) rfl ?_
        refine gx_iinc (v := 1) (lv2 := [(3, .int 1), (2, .int 0), (0, .int 2), (1, .int w)]) C dX3_isOfKind_30 (by rfl) (by decide) (by decide) rfl ?_
        refine gx_goto (tgt := 4) C dX3_isOfKind_33 (by decide) ?_
        refine gx_iload_n C dX3_isOfKind_4 (by rfl) (by rfl) ?_
        refine gx_bipush (v := 7) C dX3_isOfKind_5 (by decide) ?_
        refine gx_icmp_ge (tgt := 36) C dX3_isOfKind_7 (by decide) (fun h5 => ?_) (fun h5 => ?_)
        ·
          exact absurd h5 (by decide)
        ·
          clear h5
          refine gx_iload_n C dX3_isOfKind_10 (by rfl) (by rfl) ?_
          refine gx_callSI (As := [.int 0]) (rest := []) C (c_X3_isKind E σ 0) z_X3_isKind (by rfl) ml_X3_84 (by rfl) (Nat.le_of_ble_eq_true rfl) ⟨Nat.le_of_ble_eq_true rfl, Nat.le_of_ble_eq_true rfl⟩ dX3_isOfKind_11 (fun r6 σ6 w6 => ?_)
          obtain ⟨u1, u2⟩ := w6; rw [u1, u2]; clear u1 u2
          refine gx_if_eq (tgt := 36) C dX3_isOfKind_14 (by decide) (fun h7 => ?_) (fun h7 => ?_)
          ·
            exact absurd h7 (by decide)
          ·
            clear h7
            refine gx_iload_n C dX3_isOfKind_17 (by rfl) (by rfl) ?_
            refine gx_iload_n C dX3_isOfKind_18 (by rfl) (by rfl) ?_
            refine gx_icmp_ne (tgt := 24) C dX3_isOfKind_19 (by decide) (fun h8 => ?_) (fun h8 => ?_)
            ·
              refine gx_stat (q := 0) C C.2.2.2.2.2.2.2.1.1 fl_X3_276 dX3_isOfKind_24 ?_
              refine gx_iload_n C dX3_isOfKind_27 (by rfl) (by rfl) ?_
              refine gx_ext (k := 0) (v := (-1)) C C.2.2.2.2.2.2.2.1.2 (by rfl) (by decide) (by decide) (by rfl) dX3_isOfKind_28 ?_
              refine gx_istore_n (lv2 := [(2, .int (-1)), (3, .int 1), (0, .int 2), (1, .int w)]) C dX3_isOfKind_29 (by rfl) (by decide) rfl ?_
              refine gx_iinc (v := 2) (lv2 := [(3, .int 2), (2, .int (-1)), (0, .int 2), (1, .int w)]) C dX3_isOfKind_30 (by rfl) (by decide) (by decide) rfl ?_
              refine gx_goto (tgt := 4) C dX3_isOfKind_33 (by decide) ?_
              refine gx_iload_n C dX3_isOfKind_4 (by rfl) (by rfl) ?_
              refine gx_bipush (v := 7) C dX3_isOfKind_5 (by decide) ?_
              refine gx_icmp_ge (tgt := 36) C dX3_isOfKind_7 (by decide) (fun h9 => ?_) (fun h9 => ?_)
              ·
                exact absurd h9 (by decide)
              ·
                clear h9
                refine gx_iload_n C dX3_isOfKind_10 (by rfl) (by rfl) ?_
                refine gx_callSI (As := [.int (-1)]) (rest := []) C (c_X3_isKind E σ (-1)) z_X3_isKind (by rfl) ml_X3_84 (by rfl) (Nat.le_of_ble_eq_true rfl) ⟨Nat.le_of_ble_eq_true rfl, Nat.le_of_ble_eq_true rfl⟩ dX3_isOfKind_11 (fun r10 σ10 w10 => ?_)
                obtain ⟨u1, u2⟩ := w10; rw [u1, u2]; clear u1 u2
                refine gx_if_eq (tgt := 36) C dX3_isOfKind_14 (by decide) (fun h11 => ?_) (fun h11 => ?_)
                ·
                  clear h11
                  refine gx_iconst (v := 0) C dX3_isOfKind_36 (by decide) ?_
                  exact gx_iret C hr hlk (by first | rfl | exact nb_b2 _) ⟨rfl, by first | exact b2_t (by simp [okd, *]; done) | exact b2_t (by simp only [okd]; grind) | exact b2_f (by simp [okd]; grind)⟩ dX3_isOfKind_37
                ·
                  exact absurd h11 (by decide)
            ·
              refine gx_iconst (v := 1) C dX3_isOfKind_22 (by decide) ?_
              exact gx_iret C hr hlk (by first | rfl | exact nb_b2 _) ⟨rfl, by first | exact b2_t (by simp [okd, *]; done) | exact b2_t (by simp only [okd]; grind) | exact b2_f (by simp [okd]; grind)⟩ dX3_isOfKind_23
      ·
        refine gx_iconst (v := 1) C dX3_isOfKind_22 (by decide) ?_
        exact gx_iret C hr hlk (by first | rfl | exact nb_b2 _) ⟨rfl, by first | exact b2_t (by simp [okd, *]; done) | exact b2_t (by simp only [okd]; grind) | exact b2_f (by simp [okd]; grind)⟩ dX3_isOfKind_23
set_option maxHeartbeats 4000000 in
set_option maxRecDepth 100000 in
theorem c_X3_isOfKind_3 (E : En) (σ : Mm) (w : Int32) : CtI E yX3_isOfKind cX3_isOfKind 4 (some .boolean) 2 42 [.int 3, .int w] σ (fun rr σ2 => σ2 = σ ∧ rr = b2 (okd 3 w = true)) := by
  refine CtI.of (by decide +kernel) (Nat.le_of_ble_eq_true rfl) (fun p e0 s m below meth c C hr hlk => ?_)
  refine gx_lv (lv' := [(0, .int 3), (1, .int w)]) rfl ?_
  refine gx_iload_n C dX3_isOfKind_0 (by rfl) (by rfl) ?_
  refine gx_istore_n (lv2 := [(2, .int 3), (0, .int 3), (1, .int w)]) C dX3_isOfKind_1 (by rfl) (by decide) rfl ?_
  refine gx_iconst (v := 0) C dX3_isOfKind_2 (by decide) ?_
  refine gx_istore_n (lv2 := [(3, .int 0), (2, .int 3), (0, .int 3), (1, .int w)]) C dX3_isOfKind_3 (by rfl) (by decide) rfl ?_
  refine gx_iload_n C dX3_isOfKind_4 (by rfl) (by rfl) ?_
  refine gx_bipush (v := 7) C dX3_isOfKind_5 (by decide) ?_
  refine gx_icmp_ge (tgt := 36) C dX3_isOfKind_7 (by decide) (fun h1 => ?_) (fun h1 => ?_)
  ·
    exact absurd h1 (by decide)
  ·
    clear h1
    refine gx_iload_n C dX3_isOfKind_10 (by rfl) (by rfl) ?_
    refine gx_callSI (As := [.int 3]) (rest := []) C (c_X3_isKind E σ 3) z_X3_isKind (by rfl) ml_X3_84 (by rfl) (Nat.le_of_ble_eq_true rfl) ⟨Nat.le_of_ble_eq_true rfl, Nat.le_of_ble_eq_true rfl⟩ dX3_isOfKind_11 (fun r2 σ2 w2 => ?_)
    obtain ⟨u1, u2⟩ := w2; rw [u1, u2]; clear u1 u2
    refine gx_if_eq (tgt := 36) C dX3_isOfKind_14 (by decide) (fun h3 => ?_) (fun h3 => ?_)
    ·
      exact absurd h3 (by decide)
    ·
      clear h3
      refine gx_iload_n C dX3_isOfKind_17 (by rfl) (by rfl) ?_
      refine gx_iload_n C dX3_isOfKind_18 (by rfl) (by rfl) ?_
      refine gx_icmp_ne (tgt := 24) C dX3_isOfKind_19 (by decide) (fun h4 => ?_) (fun h4 => ?_)
      ·
        refine gx_stat (q := 0) C C.2.2.2.2.2.2.2.1.1 fl_X3_276 dX3_isOfKind_24 ?_
        refine gx_iload_n C dX3_isOfKind_27 (by rfl) (by rfl) ?_
        refine gx_ext (k := 3) (v := 2) C C.2.2.2.2.2.2.2.1.2 (by rfl) (by decide) (by decide) (by rfl) dX3_isOfKind_28 ?_
        refine gx_istore_n (lv2 := [(2, .int 2), (3, .int 0), (0, .int 3), (1, .int w)]) C dX3_isOfKind_29 (by rfl) (by decide) rfl ?_
        refine gx_iinc (v := 1) (lv2 := [(3, .int 1), (2, .int 2), (0, .int 3), (1, .int w)]) C dX3_isOfKind_30 (by rfl) (by decide) (by decide) rfl ?_
        refine gx_goto (tgt := 4) C dX3_isOfKind_33 (by decide) ?_
        refine gx_iload_n C dX3_isOfKind_4 (by rfl) (by rfl) ?_
        refine gx_bipush (v := 7) C dX3_isOfKind_5 (by decide) ?_
        refine gx_icmp_ge (tgt := 36) C dX3_isOfKind_7 (by decide) (fun h5 => ?_) (fun h5 => ?_)
        ·
          exact absurd h5 (by decide)
        ·
          clear h5
          refine gx_iload_n C dX3_isOfKind_10 (by rfl) (by rfl) ?_
          refine gx_callSI (As := [.int 2]) (rest := []) C (c_X3_isKind E σ 2) z_X3_isKind (by rfl) ml_X3_84 (by rfl) (Nat.le_of_ble_eq_true rfl) ⟨Nat.le_of_ble_eq_true rfl, Nat.le_of_ble_eq_true rfl⟩ dX3_isOfKind_11 (fun r6 σ6 w6 => ?_)
          obtain ⟨u1, u2⟩ := w6; rw [u1, u2]; clear u1 u2
          refine gx_if_eq (tgt := 36) C dX3_isOfKind_14 (by decide) (fun h7 => ?_) (fun h7 => ?_)
          ·
            exact absurd h7 (by decide)
          ·
            clear h7
            refine gx_iload_n C dX3_isOfKind_17 (by rfl) (by rfl) ?_
            refine gx_iload_n C dX3_isOfKind_18 (by rfl) (by rfl) ?_
            refine gx_icmp_ne (tgt := 24) C dX3_isOfKind_19 (by decide) (fun h8 => ?_) (fun h8 => ?_)
            ·
              refine gx_stat (q := 0) C C.2.2.2.2.2.2.2.1.1 fl_X3_276 dX3_isOfKind_24 ?_
              refine gx_iload_n C dX3_isOfKind_27 (by rfl) (by rfl) ?_
              refine gx_ext (k := 2) (v := 0) C C.2.2.2.2.2.2.2.1.2 (by rfl) (by decide) (by decide) (by rfl) dX3_isOfKind_28 ?_
              refine gx_istore_n (lv2 := [(2, .int 0), (3, .int 1), (0, .int 3), (1, .int w)]) C dX3_isOfKind_29 (by rfl) (by decide) rfl ?_
              refine gx_iinc (v := 2) (lv2 := [(3, .int 2), (2, .int 0), (0, .int 3), (1, .int w)]) C dX3_isOfKind_30 (by rfl) (by decide) (by decide) rfl ?_
              refine gx_goto (tgt := 4) C dX3_isOfKind_33 (by decide) ?_
              refine gx_iload_n C dX3_isOfKind_4 (by rfl) (by rfl) ?_
              refine gx_bipush (v := 7) C dX3_isOfKind_5 (by decide) ?_
              refine gx_icmp_ge (tgt := 36) C dX3_isOfKind_7 (by decide) (fun h9 => ?_) (fun h9 => ?_)
              ·
                exact absurd h9 (by decide)
              ·
                clear h9
                refine gx_iload_n C dX3_isOfKind_10 (by rfl) (by rfl) ?_
                refine gx_callSI (As := [.int 0]) (rest := []) C (c_X3_isKind E σ 0) z_X3_isKind (by rfl) ml_X3_84 (by rfl) (Nat.le_of_ble_eq_true rfl) ⟨Nat.le_of_ble_eq_true rfl, Nat.le_of_ble_eq_true rfl⟩ dX3_isOfKind_11 (fun r10 σ10 w10 => ?_)
                obtain ⟨u1, u2⟩ := w10; rw [u1, u2]; clear u1 u2
                refine gx_if_eq (tgt := 36) C dX3_isOfKind_14 (by decide) (fun h11 => ?_) (fun h11 => ?_)
                ·
                  exact absurd h11 (by decide)
                ·
                  clear h11
                  refine gx_iload_n C dX3_isOfKind_17 (by rfl) (by rfl) ?_
                  refine gx_iload_n C dX3_isOfKind_18 (by rfl) (by rfl) ?_
                  refine gx_icmp_ne (tgt := 24) C dX3_isOfKind_19 (by decide) (fun h12 => ?_) (fun h12 => ?_)
                  ·
                    refine gx_stat (q := 0) C C.2.2.2.2.2.2.2.1.1 fl_X3_276 dX3_isOfKind_24 ?_
                    refine gx_iload_n C dX3_isOfKind_27 (by rfl) (by rfl) ?_
                    refine gx_ext (k := 0) (v := (-1)) C C.2.2.2.2.2.2.2.1.2 (by rfl) (by decide) (by decide) (by rfl) dX3_isOfKind_28 ?_
                    refine gx_istore_n (lv2 := [(2, .int (-1)), (3, .int 2), (0, .int 3), (1, .int w)]) C dX3_isOfKind_29 (by rfl) (by decide) rfl ?_
                    refine gx_iinc (v := 3) (lv2 := [(3, .int 3), (2, .int (-1)), (0, .int 3), (1, .int w)]) C dX3_isOfKind_30 (by rfl) (by decide) (by decide) rfl ?_
                    refine gx_goto (tgt := 4) C dX3_isOfKind_33 (by decide) ?_
                    refine gx_iload_n C dX3_isOfKind_4 (by rfl) (by rfl) ?_
                    refine gx_bipush (v := 7) C dX3_isOfKind_5 (by decide) ?_
                    refine gx_icmp_ge (tgt := 36) C dX3_isOfKind_7 (by decide) (fun h13 => ?_) (fun h13 => ?_)
                    ·
                      exact absurd h13 (by decide)
                    ·
                      clear h13
                      refine gx_iload_n C dX3_isOfKind_10 (by rfl) (by rfl) ?_
                      refine gx_callSI (As := [.int (-1)]) (rest := []) C (c_X3_isKind E σ (-1)) z_X3_isKind (by rfl) ml_X3_84 (by rfl) (Nat.le_of_ble_eq_true rfl) ⟨Nat.le_of_ble_eq_true rfl, Nat.le_of_ble_eq_true rfl⟩ dX3_isOfKind_11 (fun r14 σ14 w14 => ?_)
                      obtain ⟨u1, u2⟩ := w14; rw [u1, u2]; clear u1 u2
                      refine gx_if_eq (tgt := 36) C dX3_isOfKind_14 (by decide) (fun h15 => ?_) (fun h15 => ?_)
                      ·
                        clear h15
                        refine gx_iconst (v := 0) C dX3_isOfKind_36 (by decide) ?_
                        exact gx_iret C hr hlk (by first | rfl | exact nb_b2 _) ⟨rfl, by first | exact b2_t (by simp [okd, *]; done) | exact b2_t (by simp only [okd]; grind) | exact b2_f (by simp [okd]; grind)⟩ dX3_isOfKind_37
                      ·
                        exact absurd h15 (by decide)
                  ·
                    refine gx_iconst (v := 1) C dX3_isOfKind_22 (by decide) ?_
                    exact gx_iret C hr hlk (by first | rfl | exact nb_b2 _) ⟨rfl, by first | exact b2_t (by simp [okd, *]; done) | exact b2_t (by simp only [okd]; grind) | exact b2_f (by simp [okd]; grind)⟩ dX3_isOfKind_23
            ·
              refine gx_iconst (v := 1) C dX3_isOfKind_22 (by decide) ?_
              exact gx_iret C hr hlk (by first | rfl | exact nb_b2 _) ⟨rfl, by first | exact b2_t (by simp [okd, *]; done) | exact b2_t (by simp only [okd]; grind) | exact b2_f (by simp [okd]; grind)⟩ dX3_isOfKind_23
      ·
        refine gx_iconst (v := 1) C dX3_isOfKind_22 (by decide) ?_
        exact gx_iret C hr hlk (by first | rfl | exact nb_b2 _) ⟨rfl, by first | exact b2_t (by simp [okd, *]; done) | exact b2_t (by simp only [okd]; grind) | exact b2_f (by simp [okd]; grind)⟩ dX3_isOfKind_23
set_option maxHeartbeats 4000000 in
set_option maxRecDepth 100000 in
theorem c_X3_isOfKind_4 (E : En) (σ : Mm) (w : Int32) : CtI E yX3_isOfKind cX3_isOfKind 4 (some .boolean) 2 42 [.int 4, .int w] σ (fun rr σ2 => σ2 = σ ∧ rr = b2 (okd 4 w = true)) := by
  refine CtI.of (by decide +kernel) (Nat.le_of_ble_eq_true rfl) (fun p e0 s m below meth c C hr hlk => ?_)
  refine gx_lv (lv' := [(0, .int 4), (1, .int w)]) rfl ?_
  refine gx_iload_n C dX3_isOfKind_0 (by rfl) (by rfl) ?_
  refine gx_istore_n (lv2 := [(2, .int 4), (0, .int 4), (1, .int w)]) C dX3_isOfKind_1 (by rfl) (by decide) rfl ?_
  refine gx_iconst (v := 0) C dX3_isOfKind_2 (by decide) ?_
  refine gx_istore_n (lv2 := [(3, .int 0), (2, .int 4), (0, .int 4), (1, .int w)]) C dX3_isOfKind_3 (by rfl) (by decide) rfl ?_
  refine gx_iload_n C dX3_isOfKind_4 (by rfl) (by rfl) ?_
  refine gx_bipush (v := 7) C dX3_isOfKind_5 (by decide) ?_
  refine gx_icmp_ge (tgt := 36) C dX3_isOfKind_7 (by decide) (fun h1 => ?_) (fun h1 => ?_)
  ·
    exact absurd h1 (by decide)
  ·
    clear h1
    refine gx_iload_n C dX3_isOfKind_10 (by rfl) (by rfl) ?_
    refine gx_callSI (As := [.int 4]) (rest := []) C (c_X3_isKind E σ 4) z_X3_isKind (by rfl) ml_X3_84 (by rfl) (Nat.le_of_ble_eq_true rfl) ⟨Nat.le_of_ble_eq_true rfl, Nat.le_of_ble_eq_true rfl⟩ dX3_isOfKind_11 (fun r2 σ2 w2 => ?_)
    obtain ⟨u1, u2⟩ := w2; rw [u1, u2]; clear u1 u2
    refine gx_if_eq (tgt := 36) C dX3_isOfKind_14 (by decide) (fun h3 => ?_) (fun h3 => ?_)
    ·
      exact absurd h3 (by decide)
    ·
      clear h3
      refine gx_iload_n C dX3_isOfKind_17 (by rfl) (by rfl) ?_
      refine gx_iload_n C dX3_isOfKind_18 (by rfl) (by rfl) ?_
      refine gx_icmp_ne (tgt := 24) C dX3_isOfKind_19 (by decide) (fun h4 => ?_) (fun h4 => ?_)
      ·
        refine gx_stat (q := 0) C C.2.2.2.2.2.2.2.1.1 fl_X3_276 dX3_isOfKind_24 ?_
        refine gx_iload_n C dX3_isOfKind_27 (by rfl) (by rfl) ?_
        refine gx_ext (k := 4) (v := 1) C C.2.2.2.2.2.2.2.1.2 (by rfl) (by decide) (by decide) (by rfl) dX3_isOfKind_28 ?_
        refine gx_istore_n (lv2 := [(2, .int 1), (3, .int 0), (0, .int 4), (1, .int w)]) C dX3_isOfKind_29 (by rfl) (by decide) rfl ?_
        refine gx_iinc (v := 1) (lv2 := [(3, .int 1), (2, .int 1), (0, .int 4), (1, .int w)]) C dX3_isOfKind_30 (by rfl) (by decide) (by decide) rfl ?_
        refine gx_goto (tgt := 4) C dX3_isOfKind_33 (by decide) ?_
        refine gx_iload_n C dX3_isOfKind_4 (by rfl) (by rfl) ?_
        refine gx_bipush (v := 7) C dX3_isOfKind_5 (by decide) ?_
        refine gx_icmp_ge (tgt := 36) C dX3_isOfKind_7 (by decide) (fun h5 => ?_) (fun h5 => ?_)
        ·
          exact absurd h5 (by decide)
        ·
          clear h5
          refine gx_iload_n C dX3_isOfKind_10 (by rfl) (by rfl) ?_
          refine gx_callSI (As := [.int 1]) (rest := []) C (c_X3_isKind E σ 1) z_X3_isKind (by rfl) ml_X3_84 (by rfl) (Nat.le_of_ble_eq_true rfl) ⟨Nat.le_of_ble_eq_true rfl, Nat.le_of_ble_eq_true rfl⟩ dX3_isOfKind_11 (fun r6 σ6 w6 => ?_)
          obtain ⟨u1, u2⟩ := w6; rw [u1, u2]; clear u1 u2
          refine gx_if_eq (tgt := 36) C dX3_isOfKind_14 (by decide) (fun h7 => ?_) (fun h7 => ?_)
          ·
            exact absurd h7 (by decide)
          ·
            clear h7
            refine gx_iload_n C dX3_isOfKind_17 (by rfl) (by rfl) ?_
            refine gx_iload_n C dX3_isOfKind_18 (by rfl) (by rfl) ?_
            refine gx_icmp_ne (tgt := 24) C dX3_isOfKind_19 (by decide) (fun h8 => ?_) (fun h8 => ?_)
            ·
              refine gx_stat (q := 0) C C.2.2.2.2.2.2.2.1.1 fl_X3_276 dX3_isOfKind_24 ?_
              refine gx_iload_n C dX3_isOfKind_27 (by rfl) (by rfl) ?_
              refine gx_ext (k := 1) (v := 0) C C.2.2.2.2.2.2.2.1.2 (by rfl) (by decide) (by decide) (by rfl) dX3_isOfKind_28 ?_
              refine gx_istore_n (lv2 := [(2, .int 0), (3, .int 1), (0, .int 4), (1, .int w)]) C dX3_isOfKind_29 (by rfl) (by decide) rfl ?_
              refine gx_iinc (v := 2) (lv2 := [(3, .int 2), (2, .int 0), (0, .int 4), (1, .int w)]) C dX3_isOfKind_30 (by rfl) (by decide) (by decide) rfl ?_
              refine gx_goto (tgt := 4) C dX3_isOfKind_33 (by decide) ?_
              refine gx_iload_n C dX3_isOfKind_4 (by rfl) (by rfl) ?_
              refine gx_bipush (v := 7) C dX3_isOfKind_5 (by decide) ?_
              refine gx_icmp_ge (tgt := 36) C dX3_isOfKind_7 (by decide) (fun h9 => ?_) (fun h9 => ?_)
              ·
                exact absurd h9 (by decide)
              ·
                clear h9
                refine gx_iload_n C dX3_isOfKind_10 (by rfl) (by rfl) ?_
                refine gx_callSI (As := [.int 0]) (rest := []) C (c_X3_isKind E σ 0) z_X3_isKind (by rfl) ml_X3_84 (by rfl) (Nat.le_of_ble_eq_true rfl) ⟨Nat.le_of_ble_eq_true rfl, Nat.le_of_ble_eq_true rfl⟩ dX3_isOfKind_11 (fun r10 σ10 w10 => ?_)
                obtain ⟨u1, u2⟩ := w10; rw [u1, u2]; clear u1 u2
                refine gx_if_eq (tgt := 36) C dX3_isOfKind_14 (by decide) (fun h11 => ?_) (fun h11 => ?_)
                ·
                  exact absurd h11 (by decide)
                ·
                  clear h11
                  refine gx_iload_n C dX3_isOfKind_17 (by rfl) (by rfl) ?_
                  refine gx_iload_n C dX3_isOfKind_18 (by rfl) (by rfl) ?_
                  refine gx_icmp_ne (tgt := 24) C dX3_isOfKind_19 (by decide) (fun h12 => ?_) (fun h12 => ?_)
                  ·
                    refine gx_stat (q := 0) C C.2.2.2.2.2.2.2.1.1 fl_X3_276 dX3_isOfKind_24 ?_
                    refine gx_iload_n C dX3_isOfKind_27 (by rfl) (by rfl) ?_
                    refine gx_ext (k := 0) (v := (-1)) C C.2.2.2.2.2.2.2.1.2 (by rfl) (by decide) (by decide) (by rfl) dX3_isOfKind_28 ?_
                    refine gx_istore_n (lv2 := [(2, .int (-1)), (3, .int 2), (0, .int 4), (1, .int w)]) C dX3_isOfKind_29 (by rfl) (by decide) rfl ?_
                    refine gx_iinc (v := 3) (lv2 := [(3, .int 3), (2, .int (-1)), (0, .int 4), (1, .int w)]) C dX3_isOfKind_30 (by rfl) (by decide) (by decide) rfl ?_
                    refine gx_goto (tgt := 4) C dX3_isOfKind_33 (by decide) ?_
                    refine gx_iload_n C dX3_isOfKind_4 (by rfl) (by rfl) ?_
                    refine gx_bipush (v := 7) C dX3_isOfKind_5 (by decide) ?_
                    refine gx_icmp_ge (tgt := 36) C dX3_isOfKind_7 (by decide) (fun h13 => ?_) (fun h13 => ?_)
                    ·
                      exact absurd h13 (by decide)
                    ·
                      clear h13
                      refine gx_iload_n C dX3_isOfKind_10 (by rfl) (by rfl) ?_
                      refine gx_callSI (As := [.int (-1)]) (rest := []) C (c_X3_isKind E σ (-1)) z_X3_isKind (by rfl) ml_X3_84 (by rfl) (Nat.le_of_ble_eq_true rfl) ⟨Nat.le_of_ble_eq_true rfl, Nat.le_of_ble_eq_true rfl⟩ dX3_isOfKind_11 (fun r14 σ14 w14 => ?_)
                      obtain ⟨u1, u2⟩ := w14; rw [u1, u2]; clear u1 u2
                      refine gx_if_eq (tgt := 36) C dX3_isOfKind_14 (by decide) (fun h15 => ?_) (fun h15 => ?_)
                      ·
                        clear h15
                        refine gx_iconst (v := 0) C dX3_isOfKind_36 (by decide) ?_
                        exact gx_iret C hr hlk (by first | rfl | exact nb_b2 _) ⟨rfl, by first | exact b2_t (by simp [okd, *]; done) | exact b2_t (by simp only [okd]; grind) | exact b2_f (by simp [okd]; grind)⟩ dX3_isOfKind_37
                      ·
                        exact absurd h15 (by decide)
                  ·
                    refine gx_iconst (v := 1) C dX3_isOfKind_22 (by decide) ?_
                    exact gx_iret C hr hlk (by first | rfl | exact nb_b2 _) ⟨rfl, by first | exact b2_t (by simp [okd, *]; done) | exact b2_t (by simp only [okd]; grind) | exact b2_f (by simp [okd]; grind)⟩ dX3_isOfKind_23
            ·
              refine gx_iconst (v := 1) C dX3_isOfKind_22 (by decide) ?_
              exact gx_iret C hr hlk (by first | rfl | exact nb_b2 _) ⟨rfl, by first | exact b2_t (by simp [okd, *]; done) | exact b2_t (by simp only [okd]; grind) | exact b2_f (by simp [okd]; grind)⟩ dX3_isOfKind_23
      ·
        refine gx_iconst (v := 1) C dX3_isOfKind_22 (by decide) ?_
        exact gx_iret C hr hlk (by first | rfl | exact nb_b2 _) ⟨rfl, by first | exact b2_t (by simp [okd, *]; done) | exact b2_t (by simp only [okd]; grind) | exact b2_f (by simp [okd]; grind)⟩ dX3_isOfKind_23
set_option maxHeartbeats 4000000 in
set_option maxRecDepth 100000 in
theorem c_X3_isOfKind_5 (E : En) (σ : Mm) (w : Int32) : CtI E yX3_isOfKind cX3_isOfKind 4 (some .boolean) 2 42 [.int 5, .int w] σ (fun rr σ2 => σ2 = σ ∧ rr = b2 (okd 5 w = true)) := by
  refine CtI.of (by decide +kernel) (Nat.le_of_ble_eq_true rfl) (fun p e0 s m below meth c C hr hlk => ?_)
  refine gx_lv (lv' := [(0, .int 5), (1, .int w)]) rfl ?_
  refine gx_iload_n C dX3_isOfKind_0 (by rfl) (by rfl) ?_
  refine gx_istore_n (lv2 := [(2, .int 5), (0, .int 5), (1, .int w)]) C dX3_isOfKind_1 (by rfl) (by decide) rfl ?_
  refine gx_iconst (v := 0) C dX3_isOfKind_2 (by decide) ?_
  refine gx_istore_n (lv2 := [(3, .int 0), (2, .int 5), (0, .int 5), (1, .int w)]) C dX3_isOfKind_3 (by rfl) (by decide) rfl ?_
  refine gx_iload_n C dX3_isOfKind_4 (by rfl) (by rfl) ?_
  refine gx_bipush (v := 7) C dX3_isOfKind_5 (by decide) ?_
  refine gx_icmp_ge (tgt := 36) C dX3_isOfKind_7 (by decide) (fun h1 => ?_) (fun h1 => ?_)
  ·
    exact absurd h1 (by decide)
  ·
    clear h1
    refine gx_iload_n C dX3_isOfKind_10 (by rfl) (by rfl) ?_
    refine gx_callSI (As := [.int 5]) (rest := []) C (c_X3_isKind E σ 5) z_X3_isKind (by rfl) ml_X3_84 (by rfl) (Nat.le_of_ble_eq_true rfl) ⟨Nat.le_of_ble_eq_true rfl, Nat.le_of_ble_eq_true rfl⟩ dX3_isOfKind_11 (fun r2 σ2 w2 => ?_)
    obtain ⟨u1, u2⟩ := w2; rw [u1, u2]; clear u1 u2
    refine gx_if_eq (tgt := 36) C dX3_isOfKind_14 (by decide) (fun h3 => ?_) (fun h3 => ?_)
    ·
      exact absurd h3 (by decide)
    ·
      clear h3
      refine gx_iload_n C dX3_isOfKind_17 (by rfl) (by rfl) ?_
      refine gx_iload_n C dX3_isOfKind_18 (by rfl) (by rfl) ?_
      refine gx_icmp_ne (tgt := 24) C dX3_isOfKind_19 (by decide) (fun h4 => ?_) (fun h4 => ?_)
      ·
        refine gx_stat (q := 0) C C.2.2.2.2.2.2.2.1.1 fl_X3_276 dX3_isOfKind_24 ?_
        refine gx_iload_n C dX3_isOfKind_27 (by rfl) (by rfl) ?_
        refine gx_ext (k := 5) (v := 0) C C.2.2.2.2.2.2.2.1.2 (by rfl) (by decide) (by decide) (by rfl) dX3_isOfKind_28 ?_
        refine gx_istore_n (lv2 := [(2, .int 0), (3, .int 0), (0, .int 5), (1, .int w)]) C dX3_isOfKind_29 (by rfl) (by decide) rfl ?_
        refine gx_iinc (v := 1) (lv2 := [(3, .int 1), (2, .int 0), (0, .int 5), (1, .int w)]) C dX3_isOfKind_30 (by rfl) (by decide) (by decide) rfl ?_
        refine gx_goto (tgt := 4) C dX3_isOfKind_33 (by decide) ?_
        refine gx_iload_n C dX3_isOfKind_4 (by rfl) (by rfl) ?_
        refine gx_bipush (v := 7) C dX3_isOfKind_5 (by decide) ?_
        refine gx_icmp_ge (tgt := 36) C dX3_isOfKind_7 (by decide) (fun h5 => ?_) (fun h5 => ?_)
        ·
          exact absurd h5 (by decide)
        ·
          clear h5
          refine gx_iload_n C dX3_isOfKind_10 (by rfl) (by rfl) ?_
          refine gx_callSI (As := [.int 0]) (rest := []) C (c_X3_isKind E σ 0) z_X3_isKind (by rfl) ml_X3_84 (by rfl) (Nat.le_of_ble_eq_true rfl) ⟨Nat.le_of_ble_eq_true rfl, Nat.le_of_ble_eq_true rfl⟩ dX3_isOfKind_11 (fun r6 σ6 w6 => ?_)
          obtain ⟨u1, u2⟩ := w6; rw [u1, u2]; clear u1 u2
          refine gx_if_eq (tgt := 36) C dX3_isOfKind_14 (by decide) (fun h7 => ?_) (fun h7 => ?_)
          ·
            exact absurd h7 (by decide)
          ·
            clear h7
            refine gx_iload_n C dX3_isOfKind_17 (by rfl) (by rfl) ?_
            refine gx_iload_n C dX3_isOfKind_18 (by rfl) (by rfl) ?_
            refine gx_icmp_ne (tgt := 24) C dX3_isOfKind_19 (by decide) (fun h8 => ?_) (fun h8 => ?_)
            ·
              refine gx_stat (q := 0) C C.2.2.2.2.2.2.2.1.1 fl_X3_276 dX3_isOfKind_24 ?_
              refine gx_iload_n C dX3_isOfKind_27 (by rfl) (by rfl) ?_
              refine gx_ext (k := 0) (v := (-1)) C C.2.2.2.2.2.2.2.1.2 (by rfl) (by decide) (by decide) (by rfl) dX3_isOfKind_28 ?_
              refine gx_istore_n (lv2 := [(2, .int (-1)), (3, .int 1), (0, .int 5), (1, .int w)]) C dX3_isOfKind_29 (by rfl) (by decide) rfl ?_
              refine gx_iinc (v := 2) (lv2 := [(3, .int 2), (2, .int (-1)), (0, .int 5), (1, .int w)]) C dX3_isOfKind_30 (by rfl) (by decide) (by decide) rfl ?_
              refine gx_goto (tgt := 4) C dX3_isOfKind_33 (by decide) ?_
              refine gx_iload_n C dX3_isOfKind_4 (by rfl) (by rfl) ?_
              refine gx_bipush (v := 7) C dX3_isOfKind_5 (by decide) ?_
              refine gx_icmp_ge (tgt := 36) C dX3_isOfKind_7 (by decide) (fun h9 => ?_) (fun h9 => ?_)
              ·
                exact absurd h9 (by decide)
              ·
                clear h9
                refine gx_iload_n C dX3_isOfKind_10 (by rfl) (by rfl) ?_
                refine gx_callSI (As := [.int (-1)]) (rest := []) C (c_X3_isKind E σ (-1)) z_X3_isKind (by rfl) ml_X3_84 (by rfl) (Nat.le_of_ble_eq_true rfl) ⟨Nat.le_of_ble_eq_true rfl, Nat.le_of_ble_eq_true rfl⟩ dX3_isOfKind_11 (fun r10 σ10 w10 => ?_)
                obtain ⟨u1, u2⟩ := w10; rw [u1, u2]; clear u1 u2
                refine gx_if_eq (tgt := 36) C dX3_isOfKind_14 (by decide) (fun h11 => ?_) (fun h11 => ?_)
                ·
                  clear h11
                  refine gx_iconst (v := 0) C dX3_isOfKind_36 (by decide) ?_
                  exact gx_iret C hr hlk (by first | rfl | exact nb_b2 _) ⟨rfl, by first | exact b2_t (by simp [okd, *]; done) | exact b2_t (by simp only [okd]; grind) | exact b2_f (by simp [okd]; grind)⟩ dX3_isOfKind_37
                ·
                  exact absurd h11 (by decide)
            ·
              refine gx_iconst (v := 1) C dX3_isOfKind_22 (by decide) ?_
              exact gx_iret C hr hlk (by first | rfl | exact nb_b2 _) ⟨rfl, by first | exact b2_t (by simp [okd, *]; done) | exact b2_t (by simp only [okd]; grind) | exact b2_f (by simp [okd]; grind)⟩ dX3_isOfKind_23
      ·
        refine gx_iconst (v := 1) C dX3_isOfKind_22 (by decide) ?_
        exact gx_iret C hr hlk (by first | rfl | exact nb_b2 _) ⟨rfl, by first | exact b2_t (by simp [okd, *]; done) | exact b2_t (by simp only [okd]; grind) | exact b2_f (by simp [okd]; grind)⟩ dX3_isOfKind_23
set_option maxHeartbeats 4000000 in
set_option maxRecDepth 100000 in
theorem c_X3_isOfKind_6 (E : En) (σ : Mm) (w : Int32) : CtI E yX3_isOfKind cX3_isOfKind 4 (some .boolean) 2 42 [.int 6, .int w] σ (fun rr σ2 => σ2 = σ ∧ rr = b2 (okd 6 w = true)) := by
  refine CtI.of (by decide +kernel) (Nat.le_of_ble_eq_true rfl) (fun p e0 s m below meth c C hr hlk => ?_)
  refine gx_lv (lv' := [(0, .int 6), (1, .int w)]) rfl ?_
  refine gx_iload_n C dX3_isOfKind_0 (by rfl) (by rfl) ?_
  refine gx_istore_n (lv2 := [(2, .int 6), (0, .int 6), (1, .int w)]) C dX3_isOfKind_1 (by rfl) (by decide) rfl ?_
  refine gx_iconst (v := 0) C dX3_isOfKind_2 (by decide) ?_
  refine gx_istore_n (lv2 := [(3, .int 0), (2, .int 6), (0, .int 6), (1, .int w)]) C dX3_isOfKind_3 (by rfl) (by decide) rfl ?_
  refine gx_iload_n C dX3_isOfKind_4 (by rfl) (by rfl) ?_
  refine gx_bipush (v := 7) C dX3_isOfKind_5 (by decide) ?_
  refine gx_icmp_ge (tgt := 36) C dX3_isOfKind_7 (by decide) (fun h1 => ?_) (fun h1 => ?_)
  ·
    exact absurd h1 (by decide)
  ·
    clear h1
    refine gx_iload_n C dX3_isOfKind_10 (by rfl) (by rfl) ?_
    refine gx_callSI (As := [.int 6]) (rest := []) C (c_X3_isKind E σ 6) z_X3_isKind (by rfl) ml_X3_84 (by rfl) (Nat.le_of_ble_eq_true rfl) ⟨Nat.le_of_ble_eq_true rfl, Nat.le_of_ble_eq_true rfl⟩ dX3_isOfKind_11 (fun r2 σ2 w2 => ?_)
    obtain ⟨u1, u2⟩ := w2; rw [u1, u2]; clear u1 u2
    refine gx_if_eq (tgt := 36) C dX3_isOfKind_14 (by decide) (fun h3 => ?_) (fun h3 => ?_)
    ·
      exact absurd h3 (by decide)
    ·
      clear h3
      refine gx_iload_n C dX3_isOfKind_17 (by rfl) (by rfl) ?_
      refine gx_iload_n C dX3_isOfKind_18 (by rfl) (by rfl) ?_
      refine gx_icmp_ne (tgt := 24) C dX3_isOfKind_19 (by decide) (fun h4 => ?_) (fun h4 => ?_)
      ·
        refine gx_stat (q := 0) C C.2.2.2.2.2.2.2.1.1 fl_X3_276 dX3_isOfKind_24 ?_
        refine gx_iload_n C dX3_isOfKind_27 (by rfl) (by rfl) ?_
        refine gx_ext (k := 6) (v := 1) C C.2.2.2.2.2.2.2.1.2 (by rfl) (by decide) (by decide) (by rfl) dX3_isOfKind_28 ?_
        refine gx_istore_n (lv2 := [(2, .int 1), (3, .int 0), (0, .int 6), (1, .int w)]) C dX3_isOfKind_29 (by rfl) (by decide) rfl ?_
        refine gx_iinc (v := 1) (lv2 := [(3, .int 1), (2, .int 1), (0, .int 6), (1, .int w)]) C dX3_isOfKind_30 (by rfl) (by decide) (by decide) rfl ?_
        refine gx_goto (tgt := 4) C dX3_isOfKind_33 (by decide) ?_
        refine gx_iload_n C dX3_isOfKind_4 (by rfl) (by rfl) ?_
        refine gx_bipush (v := 7) C dX3_isOfKind_5 (by decide) ?_
        refine gx_icmp_ge (tgt := 36) C dX3_isOfKind_7 (by decide) (fun h5 => ?_) (fun h5 => ?_)
        ·
          exact absurd h5 (by decide)
        ·
          clear h5
          refine gx_iload_n C dX3_isOfKind_10 (by rfl) (by rfl) ?_
          refine gx_callSI (As := [.int 1]) (rest := []) C (c_X3_isKind E σ 1) z_X3_isKind (by rfl) ml_X3_84 (by rfl) (Nat.le_of_ble_eq_true rfl) ⟨Nat.le_of_ble_eq_true rfl, Nat.le_of_ble_eq_true rfl⟩ dX3_isOfKind_11 (fun r6 σ6 w6 => ?_)
          obtain ⟨u1, u2⟩ := w6; rw [u1, u2]; clear u1 u2
          refine gx_if_eq (tgt := 36) C dX3_isOfKind_14 (by decide) (fun h7 => ?_) (fun h7 => ?_)
          ·
            exact absurd h7 (by decide)
          ·
            clear h7
            refine gx_iload_n C dX3_isOfKind_17 (by rfl) (by rfl) ?_
            refine gx_iload_n C dX3_isOfKind_18 (by rfl) (by rfl) ?_
            refine gx_icmp_ne (tgt := 24) C dX3_isOfKind_19 (by decide) (fun h8 => ?_) (fun h8 => ?_)
            ·
              refine gx_stat (q := 0) C C.2.2.2.2.2.2.2.1.1 fl_X3_276 dX3_isOfKind_24 ?_
              refine gx_iload_n C dX3_isOfKind_27 (by rfl) (by rfl) ?_
              refine gx_ext (k := 1) (v := 0) C C.2.2.2.2.2.2.2.1.2 (by rfl) (by decide) (by decide) (by rfl) dX3_isOfKind_28 ?_
              refine gx_istore_n (lv2 := [(2, .int 0), (3, .int 1), (0, .int 6), (1, .int w)]) C dX3_isOfKind_29 (by rfl) (by decide) rfl ?_
              refine gx_iinc (v := 2) (lv2 := [(3, .int 2), (2, .int 0), (0, .int 6), (1, .int w)]) C dX3_isOfKind_30 (by rfl) (by decide) (by decide) rfl ?_
              refine gx_goto (tgt := 4) C dX3_isOfKind_33 (by decide) ?_
              refine gx_iload_n C dX3_isOfKind_4 (by rfl) (by rfl) ?_
              refine gx_bipush (v := 7) C dX3_isOfKind_5 (by decide) ?_
              refine gx_icmp_ge (tgt := 36) C dX3_isOfKind_7 (by decide) (fun h9 => ?_) (fun h9 => ?_)
              ·
                exact absurd h9 (by decide)
              ·
                clear h9
                refine gx_iload_n C dX3_isOfKind_10 (by rfl) (by rfl) ?_
                refine gx_callSI (As := [.int 0]) (rest := []) C (c_X3_isKind E σ 0) z_X3_isKind (by rfl) ml_X3_84 (by rfl) (Nat.le_of_ble_eq_true rfl) ⟨Nat.le_of_ble_eq_true rfl, Nat.le_of_ble_eq_true rfl⟩ dX3_isOfKind_11 (fun r10 σ10 w10 => ?_)
                obtain ⟨u1, u2⟩ := w10; rw [u1, u2]; clear u1 u2
                refine gx_if_eq (tgt := 36) C dX3_isOfKind_14 (by decide) (fun h11 => ?_) (fun h11 => ?_)
                ·
                  exact absurd h11 (by decide)
                ·
                  clear h11
                  refine gx_iload_n C dX3_isOfKind_17 (by rfl) (by rfl) ?_
                  refine gx_iload_n C dX3_isOfKind_18 (by rfl) (by rfl) ?_
                  refine gx_icmp_ne (tgt := 24) C dX3_isOfKind_19 (by decide) (fun h12 => ?_) (fun h12 => ?_)
                  ·
                    refine gx_stat (q := 0) C C.2.2.2.2.2.2.2.1.1 fl_X3_276 dX3_isOfKind_24 ?_
                    refine gx_iload_n C dX3_isOfKind_27 (by rfl) (by rfl) ?_
                    refine gx_ext (k := 0) (v := (-1)) C C.2.2.2.2.2.2.2.1.2 (by rfl) (by decide) (by decide) (by rfl) dX3_isOfKind_28 ?_
                    refine gx_istore_n (lv2 := [(2, .int (-1)), (3, .int 2), (0, .int 6), (1, .int w)]) C dX3_isOfKind_29 (by rfl) (by decide) rfl ?_
                    refine gx_iinc (v := 3) (lv2 := [(3, .int 3), (2, .int (-1)), (0, .int 6), (1, .int w)]) C dX3_isOfKind_30 (by rfl) (by decide) (by decide) rfl ?_
                    refine gx_goto (tgt := 4) C dX3_isOfKind_33 (by decide) ?_
                    refine gx_iload_n C dX3_isOfKind_4 (by rfl) (by rfl) ?_
                    refine gx_bipush (v := 7) C dX3_isOfKind_5 (by decide) ?_
                    refine gx_icmp_ge (tgt := 36) C dX3_isOfKind_7 (by decide) (fun h13 => ?_) (fun h13 => ?_)
                    ·
                      exact absurd h13 (by decide)
                    ·
                      clear h13
                      refine gx_iload_n C dX3_isOfKind_10 (by rfl) (by rfl) ?_
                      refine gx_callSI (As := [.int (-1)]) (rest := []) C (c_X3_isKind E σ (-1)) z_X3_isKind (by rfl) ml_X3_84 (by rfl) (Nat.le_of_ble_eq_true rfl) ⟨Nat.le_of_ble_eq_true rfl, Nat.le_of_ble_eq_true rfl⟩ dX3_isOfKind_11 (fun r14 σ14 w14 => ?_)
                      obtain ⟨u1, u2⟩ := w14; rw [u1, u2]; clear u1 u2
                      refine gx_if_eq (tgt := 36) C dX3_isOfKind_14 (by decide) (fun h15 => ?_) (fun h15 => ?_)
                      ·
                        clear h15
                        refine gx_iconst (v := 0) C dX3_isOfKind_36 (by decide) ?_
                        exact gx_iret C hr hlk (by first | rfl | exact nb_b2 _) ⟨rfl, by first | exact b2_t (by simp [okd, *]; done) | exact b2_t (by simp only [okd]; grind) | exact b2_f (by simp [okd]; grind)⟩ dX3_isOfKind_37
                      ·
                        exact absurd h15 (by decide)
                  ·
                    refine gx_iconst (v := 1) C dX3_isOfKind_22 (by decide) ?_
                    exact gx_iret C hr hlk (by first | rfl | exact nb_b2 _) ⟨rfl, by first | exact b2_t (by simp [okd, *]; done) | exact b2_t (by simp only [okd]; grind) | exact b2_f (by simp [okd]; grind)⟩ dX3_isOfKind_23
            ·
              refine gx_iconst (v := 1) C dX3_isOfKind_22 (by decide) ?_
              exact gx_iret C hr hlk (by first | rfl | exact nb_b2 _) ⟨rfl, by first | exact b2_t (by simp [okd, *]; done) | exact b2_t (by simp only [okd]; grind) | exact b2_f (by simp [okd]; grind)⟩ dX3_isOfKind_23
      ·
        refine gx_iconst (v := 1) C dX3_isOfKind_22 (by decide) ?_
        exact gx_iret C hr hlk (by first | rfl | exact nb_b2 _) ⟨rfl, by first | exact b2_t (by simp [okd, *]; done) | exact b2_t (by simp only [okd]; grind) | exact b2_f (by simp [okd]; grind)⟩ dX3_isOfKind_23
theorem c_X3_isOfKind (E : En) (σ : Mm) (k : Nat) (hk : k ≤ 6) (w : Int32) : CtI E yX3_isOfKind cX3_isOfKind 4 (some .boolean) 2 42 [.int (nI k), .int w] σ (fun rr σ2 => σ2 = σ ∧ rr = b2 (okd k w = true)) := by
  match k, hk with
  | 0, _ => exact c_X3_isOfKind_0 E σ w
  | 1, _ => exact c_X3_isOfKind_1 E σ w
  | 2, _ => exact c_X3_isOfKind_2 E σ w
  | 3, _ => exact c_X3_isOfKind_3 E σ w
  | 4, _ => exact c_X3_isOfKind_4 E σ w
  | 5, _ => exact c_X3_isOfKind_5 E σ w
  | 6, _ => exact c_X3_isOfKind_6 E σ w
  | k + 7, h => exact absurd h (by omega)
