def ush (x : Int32) (k : Int32) : Int32 := (x.toUInt32 >>> (k.toUInt32 &&& Int32.toUInt32 31)).toInt32
def bc1 (x : Int32) : Int32 := x - (ush x 1 &&& 1431655765)
def bc2 (x : Int32) : Int32 := (x &&& 858993459) + (ush x 2 &&& 858993459)
def bc3 (x : Int32) : Int32 := (x + ush x 4) &&& 252645135
def bc4 (x : Int32) : Int32 := x + ush x 8
def bc5 (x : Int32) : Int32 := x + ush x 16
def bitC (x : Int32) : Int32 := bc5 (bc4 (bc3 (bc2 (bc1 x)))) &&& 63
set_option maxHeartbeats 4000000 in
set_option maxRecDepth 100000 in
theorem c_J6_bitCount_0f7a4 (E : En) (σ : Mm) (x : Int32) : CtI E yJ6_bitCount_0f7a4 cJ6_bitCount_0f7a4 1 (some .int) 0 0 [.int x] σ (fun rr σ2 => σ2 = σ ∧ rr = bitC x) := by
  refine CtI.of (by decide +kernel) (Nat.le_of_ble_eq_true rfl) (fun p e0 s m below meth c C hr hlk => ?_)
  refine gx_lv (lv' := [(0, .int x)]) rfl ?_
  refine gx_iload_n C dJ6_bitCount_0f7a4_0 (by rfl) (by rfl) ?_
  refine gx_iload_n C dJ6_bitCount_0f7a4_1 (by rfl) (by rfl) ?_
  refine gx_iconst (v := 1) C dJ6_bitCount_0f7a4_2 (by decide) ?_
  refine gx_iushr C rfl dJ6_bitCount_0f7a4_3 ?_
  refine gx_ldcw C kc_J6_265 dJ6_bitCount_0f7a4_4 ?_
  refine gx_iand C dJ6_bitCount_0f7a4_7 ?_
  refine gx_isub C dJ6_bitCount_0f7a4_8 ?_
  refine gx_istore_n (lv2 := [(0, .int (x - (((x.toUInt32 >>> ((1 : Int32).toUInt32 &&& Int32.toUInt32 31)).toInt32) &&& 1431655765)))]) C dJ6_bitCount_0f7a4_9 (by rfl) (by decide) rfl ?_
  refine gx_iload_n C dJ6_bitCount_0f7a4_10 (by rfl) (by rfl) ?_
  refine gx_ldcw C kc_J6_266 dJ6_bitCount_0f7a4_11 ?_
  refine gx_iand C dJ6_bitCount_0f7a4_14 ?_
  refine gx_iload_n C dJ6_bitCount_0f7a4_15 (by rfl) (by rfl) ?_
  refine gx_iconst (v := 2) C dJ6_bitCount_0f7a4_16 (by decide) ?_
  refine gx_iushr C rfl dJ6_bitCount_0f7a4_17 ?_
  refine gx_ldcw C kc_J6_266 dJ6_bitCount_0f7a4_18 ?_
  refine gx_iand C dJ6_bitCount_0f7a4_21 ?_
  refine gx_iadd C dJ6_bitCount_0f7a4_22 ?_
  refine gx_istore_n (lv2 := [(0, .int (((x - (((x.toUInt32 >>> ((1 : Int32).toUInt32 &&& Int32.toUInt32 31)).toInt32) &&& 1431655765)) &&& 858993459) + ((((x - (((x.toUInt32 >>> ((1 : Int32).toUInt32 &&& Int32.toUInt32 31)).toInt32) &&& 1431655765)).toUInt32 >>> ((2 : Int32).toUInt32 &&& Int32.toUInt32 31)).toInt32) &&& 858993459)))]) C dJ6_bitCount_0f7a4_23 (by rfl) (by decide) rfl ?_
  refine gx_iload_n C dJ6_bitCount_0f7a4_24 (by rfl) (by rfl) ?_
  refine gx_iload_n C dJ6_bitCount_0f7a4_25 (by rfl) (by rfl) ?_
  refine gx_iconst (v := 4) C dJ6_bitCount_0f7a4_26 (by decide) ?_
  refine gx_iushr C rfl dJ6_bitCount_0f7a4_27 ?_
  refine gx_iadd C dJ6_bitCount_0f7a4_28 ?_
  refine gx_ldcw C kc_J6_267 dJ6_bitCount_0f7a4_29 ?_
  refine gx_iand C dJ6_bitCount_0f7a4_32 ?_
  refine gx_istore_n (lv2 := [(0, .int (((((x - (((x.toUInt32 >>> ((1 : Int32).toUInt32 &&& Int32.toUInt32 31)).toInt32) &&& 1431655765)) &&& 858993459) + ((((x - (((x.toUInt32 >>> ((1 : Int32).toUInt32 &&& Int32.toUInt32 31)).toInt32) &&& 1431655765)).toUInt32 >>> ((2 : Int32).toUInt32 &&& Int32.toUInt32 31)).toInt32) &&& 858993459)) + (((((x - (((x.toUInt32 >>> ((1 : Int32).toUInt32 &&& Int32.toUInt32 31)).toInt32) &&& 1431655765)) &&& 858993459) + ((((x - (((x.toUInt32 >>> ((1 : Int32).toUInt32 &&& Int32.toUInt32 31)).toInt32) &&& 1431655765)).toUInt32 >>> ((2 : Int32).toUInt32 &&& Int32.toUInt32 31)).toInt32) &&& 858993459)).toUInt32 >>> ((4 : Int32).toUInt32 &&& Int32.toUInt32 31)).toInt32)) &&& 252645135))]) C dJ6_bitCount_0f7a4_33 (by rfl) (by decide) rfl ?_
  refine gx_iload_n C dJ6_bitCount_0f7a4_34 (by rfl) (by rfl) ?_
  refine gx_iload_n C dJ6_bitCount_0f7a4_35 (by rfl) (by rfl) ?_
  refine gx_bipush (v := 8) C dJ6_bitCount_0f7a4_36 (by decide) ?_
  refine gx_iushr C rfl dJ6_bitCount_0f7a4_38 ?_
  refine gx_iadd C dJ6_bitCount_0f7a4_39 ?_
  refine gx_istore_n (lv2 := [(0, .int ((((((x - (((x.toUInt32 >>> ((1 : Int32).toUInt32 &&& Int32.toUInt32 31)).toInt32) &&& 1431655765)) &&& 858993459) + ((((x - (((x.toUInt32 >>> ((1 : Int32).toUInt32 &&& Int32.toUInt32 31)).toInt32) &&& 1431655765)).toUInt32 >>> ((2 : Int32).toUInt32 &&& Int32.toUInt32 31)).toInt32) &&& 858993459)) + (((((x - (((x.toUInt32 >>> ((1 : Int32).toUInt32 &&& Int32.toUInt32 31)).toInt32) &&& 1431655765)) &&& 858993459) + ((((x - (((x.toUInt32 >>> ((1 : Int32).toUInt32 &&& Int32.toUInt32 31)).toInt32) &&& 1431655765)).toUInt32 >>> ((2 : Int32).toUInt32 &&& Int32.toUInt32 31)).toInt32) &&& 858993459)).toUInt32 >>> ((4 : Int32).toUInt32 &&& Int32.toUInt32 31)).toInt32)) &&& 252645135) + (((((((x - (((x.toUInt32 >>> ((1 : Int32).toUInt32 &&& Int32.toUInt32 31)).toInt32) &&& 1431655765)) &&& 858993459) + ((((x - (((x.toUInt32 >>> ((1 : Int32).toUInt32 &&& Int32.toUInt32 31)).toInt32) &&& 1431655765)).toUInt32 >>> ((2 : Int32).toUInt32 &&& Int32.toUInt32 31)).toInt32) &&& 858993459)) + (((((x - (((x.toUInt32 >>> ((1 : Int32).toUInt32 &&& Int32.toUInt32 31)).toInt32) &&& 1431655765)) &&& 858993459) + ((((x - (((x.toUInt32 >>> ((1 : Int32).toUInt32 &&& Int32.toUInt32 31)).toInt32) &&& 1431655765)).toUInt32 >>> ((2 : Int32).toUInt32 &&& Int32.toUInt32 31)).toInt32) &&& 858993459)).toUInt32 >>> ((4 : Int32).toUInt32 &&& Int32.toUInt32 31)).toInt32)) &&& 252645135).toUInt32 >>> ((8 : Int32).toUInt32 &&& Int32.toUInt32 31)).toInt32)))]) C dJ6_bitCount_0f7a4_40 (by rfl) (by decide) rfl ?_
  refine gx_iload_n C dJ6_bitCount_0f7a4_41 (by rfl) (by rfl) ?_
  refine gx_iload_n C dJ6_bitCount_0f7a4_42 (by rfl) (by rfl) ?_
  refine gx_bipush (v := 16) C dJ6_bitCount_0f7a4_43 (by decide) ?_
  refine gx_iushr C rfl dJ6_bitCount_0f7a4_45 ?_
  refine gx_iadd C dJ6_bitCount_0f7a4_46 ?_
  refine gx_istore_n (lv2 := [(0, .int (((((((x - (((x.toUInt32 >>> ((1 : Int32).toUInt32 &&& Int32.toUInt32 31)).toInt32) &&& 1431655765)) &&& 858993459) + ((((x - (((x.toUInt32 >>> ((1 : Int32).toUInt32 &&& Int32.toUInt32 31)).toInt32) &&& 1431655765)).toUInt32 >>> ((2 : Int32).toUInt32 &&& Int32.toUInt32 31)).toInt32) &&& 858993459)) + (((((x - (((x.toUInt32 >>> ((1 : Int32).toUInt32 &&& Int32.toUInt32 31)).toInt32) &&& 1431655765)) &&& 858993459) + ((((x - (((x.toUInt32 >>> ((1 : Int32).toUInt32 &&& Int32.toUInt32 31)).toInt32) &&& 1431655765)).toUInt32 >>> ((2 : Int32).toUInt32 &&& Int32.toUInt32 31)).toInt32) &&& 858993459)).toUInt32 >>> ((4 : Int32).toUInt32 &&& Int32.toUInt32 31)).toInt32)) &&& 252645135) + (((((((x - (((x.toUInt32 >>> ((1 : Int32).toUInt32 &&& Int32.toUInt32 31)).toInt32) &&& 1431655765)) &&& 858993459) + ((((x - (((x.toUInt32 >>> ((1 : Int32).toUInt32 &&& Int32.toUInt32 31)).toInt32) &&& 1431655765)).toUInt32 >>> ((2 : Int32).toUInt32 &&& Int32.toUInt32 31)).toInt32) &&& 858993459)) + (((((x - (((x.toUInt32 >>> ((1 : Int32).toUInt32 &&& Int32.toUInt32 31)).toInt32) &&& 1431655765)) &&& 858993459) + ((((x - (((x.toUInt32 >>> ((1 : Int32).toUInt32 &&& Int32.toUInt32 31)).toInt32) &&& 1431655765)).toUInt32 >>> ((2 : Int32).toUInt32 &&& Int32.toUInt32 31)).toInt32) &&& 858993459)).toUInt32 >>> ((4 : Int32).toUInt32 &&& Int32.toUInt32 31)).toInt32)) &&& 252645135).toUInt32 >>> ((8 : Int32).toUInt32 &&& Int32.toUInt32 31)).toInt32)) + ((((((((x - (((x.toUInt32 >>> ((1 : Int32).toUInt32 &&& Int32.toUInt32 31)).toInt32) &&& 1431655765)) &&& 858993459) + ((((x - (((x.toUInt32 >>> ((1 : Int32).toUInt32 &&& Int32.toUInt32 31)).toInt32) &&& 1431655765)).toUInt32 >>> ((2 : Int32).toUInt32 &&& Int32.toUInt32 31)).toInt32) &&& 858993459)) + (((((x - (((x.toUInt32 >>> ((1 : Int32).toUInt32 &&& Int32.toUInt32 31)).toInt32) &&& 1431655765)) &&& 858993459) + ((((x - (((x.toUInt32 >>> ((1 : Int32).toUInt32 &&& Int32.toUInt32 31)).toInt32) &&& 1431655765)).toUInt32 >>> ((2 : Int32).toUInt32 &&& Int32.toUInt32 31)).toInt32) &&& 858993459)).toUInt32 >>> ((4 : Int32).toUInt32 &&& Int32.toUInt32 31)).toInt32)) &&& 252645135) + (((((((x - (((x.toUInt32 >>> ((1 : Int32).toUInt32 &&& Int32.toUInt32 31)).toInt32) &&& 1431655765)) &&& 858993459) + ((((x - (((x.toUInt32 >>> ((1 : Int32).toUInt32 &&& Int32.toUInt32 31)).toInt32) &&& 1431655765)).toUInt32 >>> ((2 : Int32).toUInt32 &&& Int32.toUInt32 31)).toInt32) &&& 858993459)) + (((((x - (((x.toUInt32 >>> ((1 : Int32).toUInt32 &&& Int32.toUInt32 31)).toInt32) &&& 1431655765)) &&& 858993459) + ((((x - (((x.toUInt32 >>> ((1 : Int32).toUInt32 &&& Int32.toUInt32 31)).toInt32) &&& 1431655765)).toUInt32 >>> ((2 : Int32).toUInt32 &&& Int32.toUInt32 31)).toInt32) &&& 858993459)).toUInt32 >>> ((4 : Int32).toUInt32 &&& Int32.toUInt32 31)).toInt32)) &&& 252645135).toUInt32 >>> ((8 : Int32).toUInt32 &&& Int32.toUInt32 31)).toInt32)).toUInt32 >>> ((16 : Int32).toUInt32 &&& Int32.toUInt32 31)).toInt32)))]) C dJ6_bitCount_0f7a4_47 (by rfl) (by decide) rfl ?_
  refine gx_iload_n C dJ6_bitCount_0f7a4_48 (by rfl) (by rfl) ?_
  refine gx_bipush (v := 63) C dJ6_bitCount_0f7a4_49 (by decide) ?_
  refine gx_iand C dJ6_bitCount_0f7a4_51 ?_
  exact gx_iret C hr hlk rfl ⟨rfl, rfl⟩ dJ6_bitCount_0f7a4_52
set_option maxHeartbeats 4000000 in
set_option maxRecDepth 100000 in
theorem c_X3_isWithin (E : En) (σ : Mm) (v a b : Int32) : CtI E yX3_isWithin cX3_isWithin 3 (some .boolean) 0 0 [.int v, .int a, .int b] σ (fun rr σ2 => σ2 = σ ∧ rr = b2 (a ≤ v ∧ v ≤ b)) := by
  refine CtI.of (by decide +kernel) (Nat.le_of_ble_eq_true rfl) (fun p e0 s m below meth c C hr hlk => ?_)
  refine gx_lv (lv' := [(0, .int v), (1, .int a), (2, .int b)]) rfl ?_
  refine gx_iload_n C dX3_isWithin_0 (by rfl) (by rfl) ?_
  refine gx_iload_n C dX3_isWithin_1 (by rfl) (by rfl) ?_
  refine gx_icmp_lt (tgt := 14) C dX3_isWithin_2 (by decide) (fun h1 => ?_) (fun h1 => ?_)
  ·
    refine gx_iconst (v := 0) C dX3_isWithin_14 (by decide) ?_
    exact gx_iret C hr hlk (by first | rfl | exact nb_b2 _) ⟨rfl, by first | exact b2_t ⟨by grind, by grind⟩ | exact b2_f (by grind)⟩ dX3_isWithin_15
  ·
    refine gx_iload_n C dX3_isWithin_5 (by rfl) (by rfl) ?_
    refine gx_iload_n C dX3_isWithin_6 (by rfl) (by rfl) ?_
    refine gx_icmp_gt (tgt := 14) C dX3_isWithin_7 (by decide) (fun h2 => ?_) (fun h2 => ?_)
    ·
      refine gx_iconst (v := 0) C dX3_isWithin_14 (by decide) ?_
      exact gx_iret C hr hlk (by first | rfl | exact nb_b2 _) ⟨rfl, by first | exact b2_t ⟨by grind, by grind⟩ | exact b2_f (by grind)⟩ dX3_isWithin_15
    ·
      refine gx_iconst (v := 1) C dX3_isWithin_10 (by decide) ?_
      refine gx_goto (tgt := 15) C dX3_isWithin_11 (by decide) ?_
      exact gx_iret C hr hlk (by first | rfl | exact nb_b2 _) ⟨rfl, by first | exact b2_t ⟨by grind, by grind⟩ | exact b2_f (by grind)⟩ dX3_isWithin_15
set_option maxHeartbeats 4000000 in
set_option maxRecDepth 100000 in
theorem c_X3_isRank (E : En) (σ : Mm) (v : Int32) : CtI E yX3_isRank cX3_isRank 1 (some .boolean) 1 22 [.int v] σ (fun rr σ2 => σ2 = σ ∧ rr = b2 (0 ≤ v ∧ v ≤ 7)) := by
  refine CtI.of (by decide +kernel) (Nat.le_of_ble_eq_true rfl) (fun p e0 s m below meth c C hr hlk => ?_)
  refine gx_lv (lv' := [(0, .int v)]) rfl ?_
  refine gx_iload_n C dX3_isRank_0 (by rfl) (by rfl) ?_
  refine gx_iconst (v := 0) C dX3_isRank_1 (by decide) ?_
  refine gx_bipush (v := 7) C dX3_isRank_2 (by decide) ?_
  refine gx_callSI (As := [.int v, .int 0, .int 7]) (rest := []) C (c_X3_isWithin E σ v 0 7) z_X3_isWithin (by rfl) ml_X3_44 (by rfl) (Nat.le_of_ble_eq_true rfl) ⟨Nat.le_of_ble_eq_true rfl, Nat.le_of_ble_eq_true rfl⟩ dX3_isRank_4 (fun r1 σ1 w1 => ?_)
  obtain ⟨u1, u2⟩ := w1; rw [u1, u2]; clear u1 u2
  exact gx_iret C hr hlk (by first | rfl | exact nb_b2 _) ⟨rfl, rfl⟩ dX3_isRank_7
set_option maxHeartbeats 4000000 in
set_option maxRecDepth 100000 in
theorem c_X3_isKind (E : En) (σ : Mm) (v : Int32) : CtI E yX3_isKind cX3_isKind 1 (some .boolean) 1 22 [.int v] σ (fun rr σ2 => σ2 = σ ∧ rr = b2 (0 ≤ v ∧ v ≤ 6)) := by
  refine CtI.of (by decide +kernel) (Nat.le_of_ble_eq_true rfl) (fun p e0 s m below meth c C hr hlk => ?_)
  refine gx_lv (lv' := [(0, .int v)]) rfl ?_
  refine gx_iload_n C dX3_isKind_0 (by rfl) (by rfl) ?_
  refine gx_iconst (v := 0) C dX3_isKind_1 (by decide) ?_
  refine gx_bipush (v := 6) C dX3_isKind_2 (by decide) ?_
  refine gx_callSI (As := [.int v, .int 0, .int 6]) (rest := []) C (c_X3_isWithin E σ v 0 6) z_X3_isWithin (by rfl) ml_X3_44 (by rfl) (Nat.le_of_ble_eq_true rfl) ⟨Nat.le_of_ble_eq_true rfl, Nat.le_of_ble_eq_true rfl⟩ dX3_isKind_4 (fun r1 σ1 w1 => ?_)
  obtain ⟨u1, u2⟩ := w1; rw [u1, u2]; clear u1 u2
  exact gx_iret C hr hlk (by first | rfl | exact nb_b2 _) ⟨rfl, rfl⟩ dX3_isKind_7
set_option maxHeartbeats 4000000 in
set_option maxRecDepth 100000 in
theorem c_X0_has (E : En) (σ : Mm) (e : Nat) (he : isE e) (q : Int32) : CtI E yX0_has cX0_has 2 (some .boolean) 0 0 [.ref (eA E e), .int q] σ (fun rr σ2 => σ2 = σ ∧ rr = b2 (0 ≤ q ∧ q < σ e 11)) := by
  refine CtI.of (by decide +kernel) (Nat.le_of_ble_eq_true rfl) (fun p e0 s m below meth c C hr hlk => ?_)
  refine gx_lv (lv' := [(0, .ref (eA E e)), (1, .int q)]) rfl ?_
  refine gx_iload_n C dX0_has_0 (by rfl) (by rfl) ?_
  refine gx_if_lt (tgt := 16) C dX0_has_1 (by decide) (fun h1 => ?_) (fun h1 => ?_)
  ·
    refine gx_iconst (v := 0) C dX0_has_16 (by decide) ?_
    exact gx_iret C hr hlk (by first | rfl | exact nb_b2 _) ⟨rfl, by first | exact b2_t ⟨by grind, by grind⟩ | exact b2_f (by grind)⟩ dX0_has_17
  ·
    refine gx_iload_n C dX0_has_4 (by rfl) (by rfl) ?_
    refine gx_aload_n C dX0_has_5 (by rfl) (by rfl) ?_
    refine gx_geti (k := 11) C ck0 (sh_e he) (by rfl) (by decide) fl_X0_58 dX0_has_6 ?_
    refine gx_icmp_ge (tgt := 16) C dX0_has_9 (by decide) (fun h2 => ?_) (fun h2 => ?_)
    ·
      refine gx_iconst (v := 0) C dX0_has_16 (by decide) ?_
      exact gx_iret C hr hlk (by first | rfl | exact nb_b2 _) ⟨rfl, by first | exact b2_t ⟨by grind, by grind⟩ | exact b2_f (by grind)⟩ dX0_has_17
    ·
      refine gx_iconst (v := 1) C dX0_has_12 (by decide) ?_
      refine gx_goto (tgt := 17) C dX0_has_13 (by decide) ?_
      exact gx_iret C hr hlk (by first | rfl | exact nb_b2 _) ⟨rfl, by first | exact b2_t ⟨by grind, by grind⟩ | exact b2_f (by grind)⟩ dX0_has_17
set_option maxHeartbeats 4000000 in
set_option maxRecDepth 100000 in
theorem c_X0_hasOrNobody (E : En) (σ : Mm) (e : Nat) (he : isE e) (q : Int32) : CtI E yX0_hasOrNobody cX0_hasOrNobody 2 (some .boolean) 1 21 [.ref (eA E e), .int q] σ (fun rr σ2 => σ2 = σ ∧ rr = b2 (q = -1 ∨ (0 ≤ q ∧ q < σ e 11))) := by
  refine CtI.of (by decide +kernel) (Nat.le_of_ble_eq_true rfl) (fun p e0 s m below meth c C hr hlk => ?_)
  refine gx_lv (lv' := [(0, .ref (eA E e)), (1, .int q)]) rfl ?_
  refine gx_iload_n C dX0_hasOrNobody_0 (by rfl) (by rfl) ?_
  refine gx_iconst (v := (-1)) C dX0_hasOrNobody_1 (by decide) ?_
  refine gx_icmp_eq (tgt := 13) C dX0_hasOrNobody_2 (by decide) (fun h1 => ?_) (fun h1 => ?_)
  ·
    refine gx_iconst (v := 1) C dX0_hasOrNobody_13 (by decide) ?_
    refine gx_goto (tgt := 18) C dX0_hasOrNobody_14 (by decide) ?_
    exact gx_iret C hr hlk (by first | rfl | exact nb_b2 _) ⟨rfl, by first | exact b2_t (by grind) | exact b2_f (by grind)⟩ dX0_hasOrNobody_18
  ·
    refine gx_aload_n C dX0_hasOrNobody_5 (by rfl) (by rfl) ?_
    refine gx_iload_n C dX0_hasOrNobody_6 (by rfl) (by rfl) ?_
    refine gx_callVI (As := [.int q]) (rest := []) C (c_X0_has E σ e he q) z_X0_has ck0 (sh_e he) (by rfl) ml_X0_67 (by rfl) (Nat.le_of_ble_eq_true rfl) ⟨Nat.le_of_ble_eq_true rfl, Nat.le_of_ble_eq_true rfl⟩ dX0_hasOrNobody_7 (fun r2 σ2 w2 => ?_)
    obtain ⟨u1, u2⟩ := w2; rw [u1, u2]; clear u1 u2
    refine gx_if_eq (tgt := 17) C dX0_hasOrNobody_10 (by decide) (fun h3 => ?_) (fun h3 => ?_)
    ·
      have h3 := b2_z.mp h3
      refine gx_iconst (v := 0) C dX0_hasOrNobody_17 (by decide) ?_
      exact gx_iret C hr hlk (by first | rfl | exact nb_b2 _) ⟨rfl, by first | exact b2_t (by grind) | exact b2_f (by grind)⟩ dX0_hasOrNobody_18
    ·
      have h3 := b2_nz.mp h3
      refine gx_iconst (v := 1) C dX0_hasOrNobody_13 (by decide) ?_
      refine gx_goto (tgt := 18) C dX0_hasOrNobody_14 (by decide) ?_
      exact gx_iret C hr hlk (by first | rfl | exact nb_b2 _) ⟨rfl, by first | exact b2_t (by grind) | exact b2_f (by grind)⟩ dX0_hasOrNobody_18
set_option maxHeartbeats 4000000 in
set_option maxRecDepth 100000 in
theorem c_X0_all (E : En) (σ : Mm) (e : Nat) (he : isE e) : CtI E yX0_all cX0_all 1 (some .int) 0 0 [.ref (eA E e)] σ (fun rr σ2 => σ2 = σ ∧ rr = ((1 : Int32) <<< (σ e 11 &&& 31)) - 1) := by
  refine CtI.of (by decide +kernel) (Nat.le_of_ble_eq_true rfl) (fun p e0 s m below meth c C hr hlk => ?_)
  refine gx_lv (lv' := [(0, .ref (eA E e))]) rfl ?_
  refine gx_iconst (v := 1) C dX0_all_0 (by decide) ?_
  refine gx_aload_n C dX0_all_1 (by rfl) (by rfl) ?_
  refine gx_geti (k := 11) C ck0 (sh_e he) (by rfl) (by decide) fl_X0_58 dX0_all_2 ?_
  refine gx_ishl C dX0_all_5 ?_
  refine gx_iconst (v := 1) C dX0_all_6 (by decide) ?_
  refine gx_isub C dX0_all_7 ?_
  exact gx_iret C hr hlk rfl ⟨rfl, rfl⟩ dX0_all_8
set_option maxHeartbeats 4000000 in
set_option maxRecDepth 100000 in
theorem c_X0_standingOf (E : En) (σ : Mm) (e : Nat) (he : isE e) (q : Nat) (hq : q < 12) : CtI E yX0_standingOf cX0_standingOf 2 (some .int) 0 0 [.ref (eA E e), .int (nI q)] σ (fun rr σ2 => σ2 = σ ∧ rr = if σ (e + 2) q = -1 then 8 else σ (e + 2) q) := by
  refine CtI.of (by decide +kernel) (Nat.le_of_ble_eq_true rfl) (fun p e0 s m below meth c C hr hlk => ?_)
  refine gx_lv (lv' := [(0, .ref (eA E e)), (1, .int (nI q))]) rfl ?_
  refine gx_aload_n C dX0_standingOf_0 (by rfl) (by rfl) ?_
  refine gx_getr (j := e + 2) (k := 1) C ck0 (sh_e he) (by rfl) (by decide) fl_X0_15 dX0_standingOf_1 ?_
  refine gx_iload_n C dX0_standingOf_4 (by rfl) (by rfl) ?_
  refine gx_ialdN (k := q) C (sh_e2 he) rfl (by omega) (by decide) dX0_standingOf_5 ?_
  refine gx_iconst (v := (-1)) C dX0_standingOf_6 (by decide) ?_
  refine gx_icmp_ne (tgt := 15) C dX0_standingOf_7 (by decide) (fun h1 => ?_) (fun h1 => ?_)
  ·
    refine gx_aload_n C dX0_standingOf_15 (by rfl) (by rfl) ?_
    refine gx_getr (j := e + 2) (k := 1) C ck0 (sh_e he) (by rfl) (by decide) fl_X0_15 dX0_standingOf_16 ?_
    refine gx_iload_n C dX0_standingOf_19 (by rfl) (by rfl) ?_
    refine gx_ialdN (k := q) C (sh_e2 he) rfl (by omega) (by decide) dX0_standingOf_20 ?_
    exact gx_iret C hr hlk rfl ⟨rfl, by grind⟩ dX0_standingOf_21
  ·
    refine gx_bipush (v := 8) C dX0_standingOf_10 (by decide) ?_
    refine gx_goto (tgt := 21) C dX0_standingOf_12 (by decide) ?_
    exact gx_iret C hr hlk rfl ⟨rfl, by grind⟩ dX0_standingOf_21
set_option maxHeartbeats 4000000 in
set_option maxRecDepth 100000 in
theorem c_X0_sizeOf (E : En) (σ : Mm) (e : Nat) (he : isE e) (r : Nat) (hr8 : r < 8) : CtI E yX0_sizeOf cX0_sizeOf 2 (some .int) 1 20 [.ref (eA E e), .int (nI r)] σ (fun rr σ2 => σ2 = σ ∧ rr = bitC (σ (e + 9) r)) := by
  refine CtI.of (by decide +kernel) (Nat.le_of_ble_eq_true rfl) (fun p e0 s m below meth c C hr hlk => ?_)
  refine gx_lv (lv' := [(0, .ref (eA E e)), (1, .int (nI r))]) rfl ?_
  refine gx_aload_n C dX0_sizeOf_0 (by rfl) (by rfl) ?_
  refine gx_getr (j := e + 9) (k := 8) C ck0 (sh_e he) (by rfl) (by decide) fl_X0_36 dX0_sizeOf_1 ?_
  refine gx_iload_n C dX0_sizeOf_4 (by rfl) (by rfl) ?_
  refine gx_ialdN (k := r) C (sh_e9 he) rfl (by omega) (by decide) dX0_sizeOf_5 ?_
  refine gx_callSI (As := [.int (σ (e + 9) r)]) (rest := []) C (c_J6_bitCount_0f7a4 E σ (σ (e + 9) r)) z_J6_bitCount_0f7a4 (by rfl) ml_X0_71 (by rfl) (Nat.le_of_ble_eq_true rfl) ⟨Nat.le_of_ble_eq_true rfl, Nat.le_of_ble_eq_true rfl⟩ dX0_sizeOf_6 (fun r1 σ1 w1 => ?_)
  obtain ⟨u1, u2⟩ := w1; rw [u1, u2]; clear u1 u2
  exact gx_iret C hr hlk rfl ⟨rfl, rfl⟩ dX0_sizeOf_9
set_option maxHeartbeats 4000000 in
set_option maxRecDepth 100000 in
theorem c_X0_hasFree (E : En) (σ : Mm) (e : Nat) (he : isE e) (r : Nat) (hr8 : r < 8) : CtI E yX0_hasFree cX0_hasFree 2 (some .boolean) 2 41 [.ref (eA E e), .int (nI r)] σ (fun rr σ2 => σ2 = σ ∧ rr = b2 (bitC (σ (e + 9) r) < σ (e + 8) r)) := by
  refine CtI.of (by decide +kernel) (Nat.le_of_ble_eq_true rfl) (fun p e0 s m below meth c C hr hlk => ?_)
  refine gx_lv (lv' := [(0, .ref (eA E e)), (1, .int (nI r))]) rfl ?_
  refine gx_aload_n C dX0_hasFree_0 (by rfl) (by rfl) ?_
  refine gx_iload_n C dX0_hasFree_1 (by rfl) (by rfl) ?_
  refine gx_callVI (As := [.int (nI r)]) (rest := []) C (c_X0_sizeOf E σ e he r (by omega)) z_X0_sizeOf ck0 (sh_e he) (by rfl) ml_X0_77 (by rfl) (Nat.le_of_ble_eq_true rfl) ⟨Nat.le_of_ble_eq_true rfl, Nat.le_of_ble_eq_true rfl⟩ dX0_hasFree_2 (fun r1 σ1 w1 => ?_)
  obtain ⟨u1, u2⟩ := w1; rw [u1, u2]; clear u1 u2
  refine gx_aload_n C dX0_hasFree_5 (by rfl) (by rfl) ?_
  refine gx_getr (j := e + 8) (k := 7) C ck0 (sh_e he) (by rfl) (by decide) fl_X0_33 dX0_hasFree_6 ?_
  refine gx_iload_n C dX0_hasFree_9 (by rfl) (by rfl) ?_
  refine gx_ialdN (k := r) C (sh_e8 he) rfl (by omega) (by decide) dX0_hasFree_10 ?_
  refine gx_icmp_ge (tgt := 18) C dX0_hasFree_11 (by decide) (fun h2 => ?_) (fun h2 => ?_)
  ·
    refine gx_iconst (v := 0) C dX0_hasFree_18 (by decide) ?_
    exact gx_iret C hr hlk (by first | rfl | exact nb_b2 _) ⟨rfl, by first | exact b2_t (by grind) | exact b2_f (by grind)⟩ dX0_hasFree_19
  ·
    refine gx_iconst (v := 1) C dX0_hasFree_14 (by decide) ?_
    refine gx_goto (tgt := 19) C dX0_hasFree_15 (by decide) ?_
    exact gx_iret C hr hlk (by first | rfl | exact nb_b2 _) ⟨rfl, by first | exact b2_t (by grind) | exact b2_f (by grind)⟩ dX0_hasFree_19
set_option maxHeartbeats 4000000 in
set_option maxRecDepth 100000 in
theorem c_X0_resent (E : En) (σ : Mm) (e : Nat) (he : isE e) (q : Nat) (hq : q < 12) (v : Int32) : CtV E yX0_resent cX0_resent 3 none 0 0 [.ref (eA E e), .int (nI q), .int v] σ (fun σ2 => σ2 = up2 (up2 σ (e + 6) q v) (e + 7) q 0) := by
  refine CtV.of (by decide +kernel) (Nat.le_of_ble_eq_true rfl) (fun p e0 s m below meth c C hr hlk => ?_)
  refine gx_lv (lv' := [(0, .ref (eA E e)), (1, .int (nI q)), (2, .int v)]) rfl ?_
  refine gx_aload_n C dX0_resent_0 (by rfl) (by rfl) ?_
  refine gx_getr (j := e + 6) (k := 5) C ck0 (sh_e he) (by rfl) (by decide) fl_X0_27 dX0_resent_1 ?_
  refine gx_iload_n C dX0_resent_4 (by rfl) (by rfl) ?_
  refine gx_iload_n C dX0_resent_5 (by rfl) (by rfl) ?_
  refine gx_iastN (k := q) C (sh_e6 he) rfl (by omega) (by decide) dX0_resent_6 ?_
  refine gx_aload_n C dX0_resent_7 (by rfl) (by rfl) ?_
  refine gx_getr (j := e + 7) (k := 6) C ck0 (sh_e he) (by rfl) (by decide) fl_X0_30 dX0_resent_8 ?_
  refine gx_iload_n C dX0_resent_11 (by rfl) (by rfl) ?_
  refine gx_iconst (v := 0) C dX0_resent_12 (by decide) ?_
  refine gx_iastN (k := q) C (sh_e7 he) rfl (by omega) (by decide) dX0_resent_13 ?_
  exact gx_vret C hr hlk rfl dX0_resent_14
