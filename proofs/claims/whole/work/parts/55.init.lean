def wX1 (cI : ClassId) (u : Nat → Nat) : va_W := [(u 0, .inr (1, [.ref (u 1), .int 0, .int 0])), (u 1, .inl (cI, 40, .inl zI))]
set_option maxHeartbeats 4000000 in
set_option maxRecDepth 100000 in
theorem c_X1_init (l : Launch) (D : va_G) (cI cS : ClassId) (z0 h0 : Nat) : CtN l D cI cS z0 yX1_init cX1_init 1 1 12 1 40 h0 [(h0, .inr (1, [.null, .int 0, .int 0]))] (wX1 cI) := by
  refine CtN.of (by decide +kernel) rfl (by decide) (fun p e0 s m below meth c C hr hlk hin => ?_)
  refine gy_aload_n C dX1_init_0 (by rfl) (by rfl) ?_
  refine gy_obj C ml_X1_3 dX1_init_1 (Nat.le_of_ble_eq_true rfl) (Nat.le_of_ble_eq_true rfl) ?_
  refine gy_aload_n C dX1_init_4 (by rfl) (by rfl) ?_
  refine gy_bipush (v := 40) C dX1_init_5 (by decide) ?_
  refine gy_newa C 40 (by decide) (by decide) (by decide) (Nat.le_of_ble_eq_true rfl) (Nat.le_of_ble_eq_true rfl) dX1_init_7 (fun q1 => ?_)
  refine gy_num (k' := 1) (n' := 40) rfl rfl ?_
  refine gy_ws (ws2 := [(h0, .inr (1, [.null, .int 0, .int 0])), (q1, .inl (cI, 40, .inl zI))]) rfl ?_
  refine gy_putF (ws2 := [(h0, .inr (1, [.ref q1, .int 0, .int 0])), (q1, .inl (cI, 40, .inl zI))]) C ck1 0 0 rfl (by decide) fl_X1_9 rfl hin rfl rfl rfl (Nat.le_of_ble_eq_true rfl) rfl dX1_init_9 ?_
  exact gy_vret C (fun i => ([h0, q1] : List Nat).getD i 0) rfl hr hlk (fun H hP hD => ⟨hP, hD⟩) dX1_init_12
def wX2 (cI : ClassId) (u : Nat → Nat) : va_W := [(u 0, .inr (2, [.ref (u 1), .int 0, .int 0, .int 0, .int 0, .int 0])), (u 1, .inl (cI, 120, .inl zI))]
set_option maxHeartbeats 4000000 in
set_option maxRecDepth 100000 in
theorem c_X2_init (l : Launch) (D : va_G) (cI cS : ClassId) (z0 h0 : Nat) : CtN l D cI cS z0 yX2_init cX2_init 1 1 12 1 120 h0 [(h0, .inr (2, [.null, .int 0, .int 0, .int 0, .int 0, .int 0]))] (wX2 cI) := by
  refine CtN.of (by decide +kernel) rfl (by decide) (fun p e0 s m below meth c C hr hlk hin => ?_)
  refine gy_aload_n C dX2_init_0 (by rfl) (by rfl) ?_
  refine gy_obj C ml_X2_3 dX2_init_1 (Nat.le_of_ble_eq_true rfl) (Nat.le_of_ble_eq_true rfl) ?_
  refine gy_aload_n C dX2_init_4 (by rfl) (by rfl) ?_
  refine gy_bipush (v := 120) C dX2_init_5 (by decide) ?_
  refine gy_newa C 120 (by decide) (by decide) (by decide) (Nat.le_of_ble_eq_true rfl) (Nat.le_of_ble_eq_true rfl) dX2_init_7 (fun q1 => ?_)
  refine gy_num (k' := 1) (n' := 120) rfl rfl ?_
  refine gy_ws (ws2 := [(h0, .inr (2, [.null, .int 0, .int 0, .int 0, .int 0, .int 0])), (q1, .inl (cI, 120, .inl zI))]) rfl ?_
  refine gy_putF (ws2 := [(h0, .inr (2, [.ref q1, .int 0, .int 0, .int 0, .int 0, .int 0])), (q1, .inl (cI, 120, .inl zI))]) C ck2 0 0 rfl (by decide) fl_X2_9 rfl hin rfl rfl rfl (Nat.le_of_ble_eq_true rfl) rfl dX2_init_9 ?_
  exact gy_vret C (fun i => ([h0, q1] : List Nat).getD i 0) rfl hr hlk (fun H hP hD => ⟨hP, hD⟩) dX2_init_12
def iSeats : Nat → Int32 := upd (upd (upd (upd (upd (upd (upd (upd zI 0 3) 1 3) 2 3) 3 3) 4 3) 5 3) 6 3) 7 3
def iLaws : Nat → Int32 := upd (upd (upd zI 0 0) 1 3) 2 50
def iSpots : Nat → Int32 := upd (upd (upd (upd (upd (upd (upd (upd (upd (upd zI 0 (-1)) 1 (-1)) 2 (-1)) 3 (-1)) 4 (-1)) 5 (-1)) 6 (-1)) 7 (-1)) 8 (-1)) 9 (-1)
def wX0 (cI : ClassId) (u : Nat → Nat) : va_W := [(u 0, .inr (0, [.ref (u 1), .ref (u 2), .ref (u 3), .ref (u 4), .ref (u 5), .ref (u 6), .ref (u 7), .ref (u 8), .ref (u 9), .ref (u 10), .ref (u 11), .int 0, .int 0, .int 0, .int 1])), (u 1, .inl (cI, 12, .inl zI)), (u 2, .inl (cI, 12, .inl zI)), (u 3, .inl (cI, 12, .inl zI)), (u 4, .inl (cI, 12, .inl zI)), (u 5, .inl (cI, 12, .inl zI)), (u 6, .inl (cI, 12, .inl zI)), (u 7, .inl (cI, 12, .inl zI)), (u 8, .inl (cI, 8, .inl iSeats)), (u 9, .inl (cI, 8, .inl zI)), (u 10, .inl (cI, 3, .inl iLaws)), (u 11, .inl (cI, 10, .inl iSpots))]
set_option maxHeartbeats 4000000 in
set_option maxRecDepth 100000 in
theorem c_X0_init (l : Launch) (D : va_G) (cI cS : ClassId) (z0 h0 : Nat) : CtN l D cI cS z0 yX0_init cX0_init 2 1 12 11 113 h0 [(h0, .inr (0, [.null, .null, .null, .null, .null, .null, .null, .null, .null, .null, .null, .int 0, .int 0, .int 0, .int 0]))] (wX0 cI) := by
  refine CtN.of (by decide +kernel) rfl (by decide) (fun p e0 s m below meth c C hr hlk hin => ?_)
  refine gy_aload_n C dX0_init_0 (by rfl) (by rfl) ?_
  refine gy_obj C ml_X0_3 dX0_init_1 (Nat.le_of_ble_eq_true rfl) (Nat.le_of_ble_eq_true rfl) ?_
  refine gy_aload_n C dX0_init_4 (by rfl) (by rfl) ?_
  refine gy_bipush (v := 12) C dX0_init_5 (by decide) ?_
  refine gy_newa C 12 (by decide) (by decide) (by decide) (Nat.le_of_ble_eq_true rfl) (Nat.le_of_ble_eq_true rfl) dX0_init_7 (fun q1 => ?_)
  refine gy_num (k' := 1) (n' := 12) rfl rfl ?_
  refine gy_ws (ws2 := [(h0, .inr (0, [.null, .null, .null, .null, .null, .null, .null, .null, .null, .null, .null, .int 0, .int 0, .int 0, .int 0])), (q1, .inl (cI, 12, .inl zI))]) rfl ?_
  refine gy_putF (ws2 := [(h0, .inr (0, [.ref q1, .null, .null, .null, .null, .null, .null, .null, .null, .null, .null, .int 0, .int 0, .int 0, .int 0])), (q1, .inl (cI, 12, .inl zI))]) C ck0 0 0 rfl (by decide) fl_X0_9 rfl hin rfl rfl rfl (Nat.le_of_ble_eq_true rfl) rfl dX0_init_9 ?_
  refine gy_aload_n C dX0_init_12 (by rfl) (by rfl) ?_
  refine gy_bipush (v := 12) C dX0_init_13 (by decide) ?_
  refine gy_newa C 12 (by decide) (by decide) (by decide) (Nat.le_of_ble_eq_true rfl) (Nat.le_of_ble_eq_true rfl) dX0_init_15 (fun q2 => ?_)
  refine gy_num (k' := 2) (n' := 24) rfl rfl ?_
  refine gy_ws (ws2 := [(h0, .inr (0, [.ref q1, .null, .null, .null, .null, .null, .null, .null, .null, .null, .null, .int 0, .int 0, .int 0, .int 0])), (q1, .inl (cI, 12, .inl zI)), (q2, .inl (cI, 12, .inl zI))]) rfl ?_
  refine gy_putF (ws2 := [(h0, .inr (0, [.ref q1, .ref q2, .null, .null, .null, .null, .null, .null, .null, .null, .null, .int 0, .int 0, .int 0, .int 0])), (q1, .inl (cI, 12, .inl zI)), (q2, .inl (cI, 12, .inl zI))]) C ck0 0 1 rfl (by decide) fl_X0_15 rfl hin rfl rfl rfl (Nat.le_of_ble_eq_true rfl) rfl dX0_init_17 ?_
  refine gy_aload_n C dX0_init_20 (by rfl) (by rfl) ?_
  refine gy_bipush (v := 12) C dX0_init_21 (by decide) ?_
  refine gy_newa C 12 (by decide) (by decide) (by decide) (Nat.le_of_ble_eq_true rfl) (Nat.le_of_ble_eq_true rfl) dX0_init_23 (fun q3 => ?_)
  refine gy_num (k' := 3) (n' := 36) rfl rfl ?_
  refine gy_ws (ws2 := [(h0, .inr (0, [.ref q1, .ref q2, .null, .null, .null, .null, .null, .null, .null, .null, .null, .int 0, .int 0, .int 0, .int 0])), (q1, .inl (cI, 12, .inl zI)), (q2, .inl (cI, 12, .inl zI)), (q3, .inl (cI, 12, .inl zI))]) rfl ?_
  refine gy_putF (ws2 := [(h0, .inr (0, [.ref q1, .ref q2, .ref q3, .null, .null, .null, .null, .null, .null, .null, .null, .int 0, .int 0, .int 0, .int 0])), (q1, .inl (cI, 12, .inl zI)), (q2, .inl (cI, 12, .inl zI)), (q3, .inl (cI, 12, .inl zI))]) C ck0 0 2 rfl (by decide) fl_X0_18 rfl hin rfl rfl rfl (Nat.le_of_ble_eq_true rfl) rfl dX0_init_25 ?_
  refine gy_aload_n C dX0_init_28 (by rfl) (by rfl) ?_
  refine gy_bipush (v := 12) C dX0_init_29 (by decide) ?_
  refine gy_newa C 12 (by decide) (by decide) (by decide) (Nat.le_of_ble_eq_true rfl) (Nat.le_of_ble_eq_true rfl) dX0_init_31 (fun q4 => ?_)
  refine gy_num (k' := 4) (n' := 48) rfl rfl ?_
  refine gy_ws (ws2 := [(h0, .inr (0, [.ref q1, .ref q2, .ref q3, .null, .null, .null, .null, .null, .null, .null, .null, .int 0, .int 0, .int 0, .int 0])), (q1, .inl (cI, 12, .inl zI)), (q2, .inl (cI, 12, .inl zI)), (q3, .inl (cI, 12, .inl zI)), (q4, .inl (cI, 12, .inl zI))]) rfl ?_
  refine gy_putF (ws2 := [(h0, .inr (0, [.ref q1, .ref q2, .ref q3, .ref q4, .null, .null, .null, .null, .null, .null, .null, .int 0, .int 0, .int 0, .int 0])), (q1, .inl (cI, 12, .inl zI)), (q2, .inl (cI, 12, .inl zI)), (q3, .inl (cI, 12, .inl zI)), (q4, .inl (cI, 12, .inl zI))]) C ck0 0 3 rfl (by decide) fl_X0_21 rfl hin rfl rfl rfl (Nat.le_of_ble_eq_true rfl) rfl dX0_init_33 ?_
  refine gy_aload_n C dX0_init_36 (by rfl) (by rfl) ?_
  refine gy_bipush (v := 12) C dX0_init_37 (by decide) ?_
  refine gy_newa C 12 (by decide) (by decide) (by decide) (Nat.le_of_ble_eq_true rfl) (Nat.le_of_ble_eq_true rfl) dX0_init_39 (fun q5 => ?_)
  refine gy_num (k' := 5) (n' := 60) rfl rfl ?_
  refine gy_ws (ws2 := [(h0, .inr (0, [.ref q1, .ref q2, .ref q3, .ref q4, .null, .null, .null, .null, .null, .null, .null, .int 0, .int 0, .int 0, .int 0])), (q1, .inl (cI, 12, .inl zI)), (q2, .inl (cI, 12, .inl zI)), (q3, .inl (cI, 12, .inl zI)), (q4, .inl (cI, 12, .inl zI)), (q5, .inl (cI, 12, .inl zI))]) rfl ?_
  refine gy_putF (ws2 := [(h0, .inr (0, [.ref q1, .ref q2, .ref q3, .ref q4, .ref q5, .null, .null, .null, .null, .null, .null, .int 0, .int 0, .int 0, .int 0])), (q1, .inl (cI, 12, .inl zI)), (q2, .inl (cI, 12, .inl zI)), (q3, .inl (cI, 12, .inl zI)), (q4, .inl (cI, 12, .inl zI)), (q5, .inl (cI, 12, .inl zI))]) C ck0 0 4 rfl (by decide) fl_X0_24 rfl hin rfl rfl rfl (Nat.le_of_ble_eq_true rfl) rfl dX0_init_41 ?_
  refine gy_aload_n C dX0_init_44 (by rfl) (by rfl) ?_
  refine gy_bipush (v := 12) C dX0_init_45 (by decide) ?_
  refine gy_newa C 12 (by decide) (by decide) (by decide) (Nat.le_of_ble_eq_true rfl) (Nat.le_of_ble_eq_true rfl) dX0_init_47 (fun q6 => ?_)
  refine gy_num (k' := 6) (n' := 72) rfl rfl ?_
  refine gy_ws (ws2 := [(h0, .inr (0, [.ref q1, .ref q2, .ref q3, .ref q4, .ref q5, .null, .null, .null, .null, .null, .null, .int 0, .int 0, .int 0, .int 0])), (q1, .inl (cI, 12, .inl zI)), (q2, .inl (cI, 12, .inl zI)), (q3, .inl (cI, 12, .inl zI)), (q4, .inl (cI, 12, .inl zI)), (q5, .inl (cI, 12, .inl zI)), (q6, .inl (cI, 12, .inl zI))]) rfl ?_
  refine gy_putF (ws2 := [(h0, .inr (0, [.ref q1, .ref q2, .ref q3, .ref q4, .ref q5, .ref q6, .null, .null, .null, .null, .null, .int 0, .int 0, .int 0, .int 0])), (q1, .inl (cI, 12, .inl zI)), (q2, .inl (cI, 12, .inl zI)), (q3, .inl (cI, 12, .inl zI)), (q4, .inl (cI, 12, .inl zI)), (q5, .inl (cI, 12, .inl zI)), (q6, .inl (cI, 12, .inl zI))]) C ck0 0 5 rfl (by decide) fl_X0_27 rfl hin rfl rfl rfl (Nat.le_of_ble_eq_true rfl) rfl dX0_init_49 ?_
  refine gy_aload_n C dX0_init_52 (by rfl) (by rfl) ?_
  refine gy_bipush (v := 12) C dX0_init_53 (by decide) ?_
  refine gy_newa C 12 (by decide) (by decide) (by decide) (Nat.le_of_ble_eq_true rfl) (Nat.le_of_ble_eq_true rfl) dX0_init_55 (fun q7 => ?_)
  refine gy_num (k' := 7) (n' := 84) rfl rfl ?_
  refine gy_ws (ws2 := [(h0, .inr (0, [.ref q1, .ref q2, .ref q3, .ref q4, .ref q5, .ref q6, .null, .null, .null, .null, .null, .int 0, .int 0, .int 0, .int 0])), (q1, .inl (cI, 12, .inl zI)), (q2, .inl (cI, 12, .inl zI)), (q3, .inl (cI, 12, .inl zI)), (q4, .inl (cI, 12, .inl zI)), (q5, .inl (cI, 12, .inl zI)), (q6, .inl (cI, 12, .inl zI)), (q7, .inl (cI, 12, .inl zI))]) rfl ?_
  refine gy_putF (ws2 := [(h0, .inr (0, [.ref q1, .ref q2, .ref q3, .ref q4, .ref q5, .ref q6, .ref q7, .null, .null, .null, .null, .int 0, .int 0, .int 0, .int 0])), (q1, .inl (cI, 12, .inl zI)), (q2, .inl (cI, 12, .inl zI)), (q3, .inl (cI, 12, .inl zI)), (q4, .inl (cI, 12, .inl zI)), (q5, .inl (cI, 12, .inl zI)), (q6, .inl (cI, 12, .inl zI)), (q7, .inl (cI, 12, .inl zI))]) C ck0 0 6 rfl (by decide) fl_X0_30 rfl hin rfl rfl rfl (Nat.le_of_ble_eq_true rfl) rfl dX0_init_57 ?_
  refine gy_aload_n C dX0_init_60 (by rfl) (by rfl) ?_
  refine gy_bipush (v := 8) C dX0_init_61 (by decide) ?_
  refine gy_newa C 8 (by decide) (by decide) (by decide) (Nat.le_of_ble_eq_true rfl) (Nat.le_of_ble_eq_true rfl) dX0_init_63 (fun q8 => ?_)
  refine gy_num (k' := 8) (n' := 92) rfl rfl ?_
  refine gy_ws (ws2 := [(h0, .inr (0, [.ref q1, .ref q2, .ref q3, .ref q4, .ref q5, .ref q6, .ref q7, .null, .null, .null, .null, .int 0, .int 0, .int 0, .int 0])), (q1, .inl (cI, 12, .inl zI)), (q2, .inl (cI, 12, .inl zI)), (q3, .inl (cI, 12, .inl zI)), (q4, .inl (cI, 12, .inl zI)), (q5, .inl (cI, 12, .inl zI)), (q6, .inl (cI, 12, .inl zI)), (q7, .inl (cI, 12, .inl zI)), (q8, .inl (cI, 8, .inl zI))]) rfl ?_
  refine gy_putF (ws2 := [(h0, .inr (0, [.ref q1, .ref q2, .ref q3, .ref q4, .ref q5, .ref q6, .ref q7, .ref q8, .null, .null, .null, .int 0, .int 0, .int 0, .int 0])), (q1, .inl (cI, 12, .inl zI)), (q2, .inl (cI, 12, .inl zI)), (q3, .inl (cI, 12, .inl zI)), (q4, .inl (cI, 12, .inl zI)), (q5, .inl (cI, 12, .inl zI)), (q6, .inl (cI, 12, .inl zI)), (q7, .inl (cI, 12, .inl zI)), (q8, .inl (cI, 8, .inl zI))]) C ck0 0 7 rfl (by decide) fl_X0_33 rfl hin rfl rfl rfl (Nat.le_of_ble_eq_true rfl) rfl dX0_init_65 ?_
  refine gy_aload_n C dX0_init_68 (by rfl) (by rfl) ?_
  refine gy_bipush (v := 8) C dX0_init_69 (by decide) ?_
  refine gy_newa C 8 (by decide) (by decide) (by decide) (Nat.le_of_ble_eq_true rfl) (Nat.le_of_ble_eq_true rfl) dX0_init_71 (fun q9 => ?_)
  refine gy_num (k' := 9) (n' := 100) rfl rfl ?_
  refine gy_ws (ws2 := [(h0, .inr (0, [.ref q1, .ref q2, .ref q3, .ref q4, .ref q5, .ref q6, .ref q7, .ref q8, .null, .null, .null, .int 0, .int 0, .int 0, .int 0])), (q1, .inl (cI, 12, .inl zI)), (q2, .inl (cI, 12, .inl zI)), (q3, .inl (cI, 12, .inl zI)), (q4, .inl (cI, 12, .inl zI)), (q5, .inl (cI, 12, .inl zI)), (q6, .inl (cI, 12, .inl zI)), (q7, .inl (cI, 12, .inl zI)), (q8, .inl (cI, 8, .inl zI)), (q9, .inl (cI, 8, .inl zI))]) rfl ?_
  refine gy_putF (ws2 := [(h0, .inr (0, [.ref q1, .ref q2, .ref q3, .ref q4, .ref q5, .ref q6, .ref q7, .ref q8, .ref q9, .null, .null, .int 0, .int 0, .int 0, .int 0])), (q1, .inl (cI, 12, .inl zI)), (q2, .inl (cI, 12, .inl zI)), (q3, .inl (cI, 12, .inl zI)), (q4, .inl (cI, 12, .inl zI)), (q5, .inl (cI, 12, .inl zI)), (q6, .inl (cI, 12, .inl zI)), (q7, .inl (cI, 12, .inl zI)), (q8, .inl (cI, 8, .inl zI)), (q9, .inl (cI, 8, .inl zI))]) C ck0 0 8 rfl (by decide) fl_X0_36 rfl hin rfl rfl rfl (Nat.le_of_ble_eq_true rfl) rfl dX0_init_73 ?_
  refine gy_aload_n C dX0_init_76 (by rfl) (by rfl) ?_
  refine gy_iconst (v := 3) C dX0_init_77 (by decide) ?_
  refine gy_newa C 3 (by decide) (by decide) (by decide) (Nat.le_of_ble_eq_true rfl) (Nat.le_of_ble_eq_true rfl) dX0_init_78 (fun q10 => ?_)
  refine gy_num (k' := 10) (n' := 103) rfl rfl ?_
  refine gy_ws (ws2 := [(h0, .inr (0, [.ref q1, .ref q2, .ref q3, .ref q4, .ref q5, .ref q6, .ref q7, .ref q8, .ref q9, .null, .null, .int 0, .int 0, .int 0, .int 0])), (q1, .inl (cI, 12, .inl zI)), (q2, .inl (cI, 12, .inl zI)), (q3, .inl (cI, 12, .inl zI)), (q4, .inl (cI, 12, .inl zI)), (q5, .inl (cI, 12, .inl zI)), (q6, .inl (cI, 12, .inl zI)), (q7, .inl (cI, 12, .inl zI)), (q8, .inl (cI, 8, .inl zI)), (q9, .inl (cI, 8, .inl zI)), (q10, .inl (cI, 3, .inl zI))]) rfl ?_
  refine gy_putF (ws2 := [(h0, .inr (0, [.ref q1, .ref q2, .ref q3, .ref q4, .ref q5, .ref q6, .ref q7, .ref q8, .ref q9, .ref q10, .null, .int 0, .int 0, .int 0, .int 0])), (q1, .inl (cI, 12, .inl zI)), (q2, .inl (cI, 12, .inl zI)), (q3, .inl (cI, 12, .inl zI)), (q4, .inl (cI, 12, .inl zI)), (q5, .inl (cI, 12, .inl zI)), (q6, .inl (cI, 12, .inl zI)), (q7, .inl (cI, 12, .inl zI)), (q8, .inl (cI, 8, .inl zI)), (q9, .inl (cI, 8, .inl zI)), (q10, .inl (cI, 3, .inl zI))]) C ck0 0 9 rfl (by decide) fl_X0_39 rfl hin rfl rfl rfl (Nat.le_of_ble_eq_true rfl) rfl dX0_init_80 ?_
  refine gy_aload_n C dX0_init_83 (by rfl) (by rfl) ?_
  refine gy_bipush (v := 10) C dX0_init_84 (by decide) ?_
  refine gy_newa C 10 (by decide) (by decide) (by decide) (Nat.le_of_ble_eq_true rfl) (Nat.le_of_ble_eq_true rfl) dX0_init_86 (fun q11 => ?_)
  refine gy_num (k' := 11) (n' := 113) rfl rfl ?_
  refine gy_ws (ws2 := [(h0, .inr (0, [.ref q1, .ref q2, .ref q3, .ref q4, .ref q5, .ref q6, .ref q7, .ref q8, .ref q9, .ref q10, .null, .int 0, .int 0, .int 0, .int 0])), (q1, .inl (cI, 12, .inl zI)), (q2, .inl (cI, 12, .inl zI)), (q3, .inl (cI, 12, .inl zI)), (q4, .inl (cI, 12, .inl zI)), (q5, .inl (cI, 12, .inl zI)), (q6, .inl (cI, 12, .inl zI)), (q7, .inl (cI, 12, .inl zI)), (q8, .inl (cI, 8, .inl zI)), (q9, .inl (cI, 8, .inl zI)), (q10, .inl (cI, 3, .inl zI)), (q11, .inl (cI, 10, .inl zI))]) rfl ?_
  refine gy_putF (ws2 := [(h0, .inr (0, [.ref q1, .ref q2, .ref q3, .ref q4, .ref q5, .ref q6, .ref q7, .ref q8, .ref q9, .ref q10, .ref q11, .int 0, .int 0, .int 0, .int 0])), (q1, .inl (cI, 12, .inl zI)), (q2, .inl (cI, 12, .inl zI)), (q3, .inl (cI, 12, .inl zI)), (q4, .inl (cI, 12, .inl zI)), (q5, .inl (cI, 12, .inl zI)), (q6, .inl (cI, 12, .inl zI)), (q7, .inl (cI, 12, .inl zI)), (q8, .inl (cI, 8, .inl zI)), (q9, .inl (cI, 8, .inl zI)), (q10, .inl (cI, 3, .inl zI)), (q11, .inl (cI, 10, .inl zI))]) C ck0 0 10 rfl (by decide) fl_X0_42 rfl hin rfl rfl rfl (Nat.le_of_ble_eq_true rfl) rfl dX0_init_88 ?_
  refine gy_aload_n C dX0_init_91 (by rfl) (by rfl) ?_
  refine gy_iconst (v := 1) C dX0_init_92 (by decide) ?_
  refine gy_puti (ws2 := [(h0, .inr (0, [.ref q1, .ref q2, .ref q3, .ref q4, .ref q5, .ref q6, .ref q7, .ref q8, .ref q9, .ref q10, .ref q11, .int 0, .int 0, .int 0, .int 1])), (q1, .inl (cI, 12, .inl zI)), (q2, .inl (cI, 12, .inl zI)), (q3, .inl (cI, 12, .inl zI)), (q4, .inl (cI, 12, .inl zI)), (q5, .inl (cI, 12, .inl zI)), (q6, .inl (cI, 12, .inl zI)), (q7, .inl (cI, 12, .inl zI)), (q8, .inl (cI, 8, .inl zI)), (q9, .inl (cI, 8, .inl zI)), (q10, .inl (cI, 3, .inl zI)), (q11, .inl (cI, 10, .inl zI))]) C ck0 0 14 rfl (by decide) fl_X0_45 rfl rfl rfl (Nat.le_of_ble_eq_true rfl) rfl dX0_init_93 ?_
  refine gy_iconst (v := 0) C dX0_init_96 (by decide) ?_
  refine gy_istore_n (lv2 := [(1, .int 0), (0, .ref h0)]) C dX0_init_97 (by rfl) (by decide) rfl ?_
  refine gy_iload_n C dX0_init_98 (by rfl) (by rfl) ?_
  refine gy_bipush (v := 8) C dX0_init_99 (by decide) ?_
  refine gy_ge_f (tgt := 117) C dX0_init_101 (by decide) (by decide) ?_
  refine gy_aload_n C dX0_init_104 (by rfl) (by rfl) ?_
  refine gy_get (v := .ref q8) C ck0 0 7 rfl (by decide) fl_X0_33 rfl dX0_init_105 ?_
  refine gy_iload_n C dX0_init_108 (by rfl) (by rfl) ?_
  refine gy_iconst (v := 3) C dX0_init_109 (by decide) ?_
  refine gy_iast (ws2 := [(h0, .inr (0, [.ref q1, .ref q2, .ref q3, .ref q4, .ref q5, .ref q6, .ref q7, .ref q8, .ref q9, .ref q10, .ref q11, .int 0, .int 0, .int 0, .int 1])), (q1, .inl (cI, 12, .inl zI)), (q2, .inl (cI, 12, .inl zI)), (q3, .inl (cI, 12, .inl zI)), (q4, .inl (cI, 12, .inl zI)), (q5, .inl (cI, 12, .inl zI)), (q6, .inl (cI, 12, .inl zI)), (q7, .inl (cI, 12, .inl zI)), (q8, .inl (cI, 8, .inl (upd zI 0 3))), (q9, .inl (cI, 8, .inl zI)), (q10, .inl (cI, 3, .inl zI)), (q11, .inl (cI, 10, .inl zI))]) C 8 0 rfl (vp_in_nI (n := 0) (by decide) (by decide)) (by decide) rfl dX0_init_110 ?_
  refine gy_iinc (v := 1) (lv2 := [(1, .int 1), (0, .ref h0)]) C dX0_init_111 (by rfl) (by decide) (by decide) rfl ?_
  refine gy_goto (tgt := 98) C dX0_init_114 (by decide) ?_
  refine gy_iload_n C dX0_init_98 (by rfl) (by rfl) ?_
  refine gy_bipush (v := 8) C dX0_init_99 (by decide) ?_
  refine gy_ge_f (tgt := 117) C dX0_init_101 (by decide) (by decide) ?_
  refine gy_aload_n C dX0_init_104 (by rfl) (by rfl) ?_
  refine gy_get (v := .ref q8) C ck0 0 7 rfl (by decide) fl_X0_33 rfl dX0_init_105 ?_
  refine gy_iload_n C dX0_init_108 (by rfl) (by rfl) ?_
  refine gy_iconst (v := 3) C dX0_init_109 (by decide) ?_
  refine gy_iast (ws2 := [(h0, .inr (0, [.ref q1, .ref q2, .ref q3, .ref q4, .ref q5, .ref q6, .ref q7, .ref q8, .ref q9, .ref q10, .ref q11, .int 0, .int 0, .int 0, .int 1])), (q1, .inl (cI, 12, .inl zI)), (q2, .inl (cI, 12, .inl zI)), (q3, .inl (cI, 12, .inl zI)), (q4, .inl (cI, 12, .inl zI)), (q5, .inl (cI, 12, .inl zI)), (q6, .inl (cI, 12, .inl zI)), (q7, .inl (cI, 12, .inl zI)), (q8, .inl (cI, 8, .inl (upd (upd zI 0 3) 1 3))), (q9, .inl (cI, 8, .inl zI)), (q10, .inl (cI, 3, .inl zI)), (q11, .inl (cI, 10, .inl zI))]) C 8 1 rfl (vp_in_nI (n := 1) (by decide) (by decide)) (by decide) rfl dX0_init_110 ?_
  refine gy_iinc (v := 2) (lv2 := [(1, .int 2), (0, .ref h0)]) C dX0_init_111 (by rfl) (by decide) (by decide) rfl ?_
  refine gy_goto (tgt := 98) C dX0_init_114 (by decide) ?_
  refine gy_iload_n C dX0_init_98 (by rfl) (by rfl) ?_
  refine gy_bipush (v := 8) C dX0_init_99 (by decide) ?_
  refine gy_ge_f (tgt := 117) C dX0_init_101 (by decide) (by decide) ?_
  refine gy_aload_n C dX0_init_104 (by rfl) (by rfl) ?_
  refine gy_get (v := .ref q8) C ck0 0 7 rfl (by decide) fl_X0_33 rfl dX0_init_105 ?_
  refine gy_iload_n C dX0_init_108 (by rfl) (by rfl) ?_
  refine gy_iconst (v := 3) C dX0_init_109 (by decide) ?_
  refine gy_iast (ws2 := [(h0, .inr (0, [.ref q1, .ref q2, .ref q3, .ref q4, .ref q5, .ref q6, .ref q7, .ref q8, .ref q9, .ref q10, .ref q11, .int 0, .int 0, .int 0, .int 1])), (q1, .inl (cI, 12, .inl zI)), (q2, .inl (cI, 12, .inl zI)), (q3, .inl (cI, 12, .inl zI)), (q4, .inl (cI, 12, .inl zI)), (q5, .inl (cI, 12, .inl zI)), (q6, .inl (cI, 12, .inl zI)), (q7, .inl (cI, 12, .inl zI)), (q8, .inl (cI, 8, .inl (upd (upd (upd zI 0 3) 1 3) 2 3))), (q9, .inl (cI, 8, .inl zI)), (q10, .inl (cI, 3, .inl zI)), (q11, .inl (cI, 10, .inl zI))]) C 8 2 rfl (vp_in_nI (n := 2) (by decide) (by decide)) (by decide) rfl dX0_init_110 ?_
  refine gy_iinc (v := 3) (lv2 := [(1, .int 3), (0, .ref h0)]) C dX0_init_111 (by rfl) (by decide) (by decide) rfl ?_
  refine gy_goto (tgt := 98) C dX0_init_114 (by decide) ?_
  refine gy_iload_n C dX0_init_98 (by rfl) (by rfl) ?_
  refine gy_bipush (v := 8) C dX0_init_99 (by decide) ?_
  refine gy_ge_f (tgt := 117) C dX0_init_101 (by decide) (by decide) ?_
  refine gy_aload_n C dX0_init_104 (by rfl) (by rfl) ?_
  refine gy_get (v := .ref q8) C ck0 0 7 rfl (by decide) fl_X0_33 rfl dX0_init_105 ?_
  refine gy_iload_n C dX0_init_108 (by rfl) (by rfl) ?_
  refine gy_iconst (v := 3) C dX0_init_109 (by decide) ?_
  refine gy_iast (ws2 := [(h0, .inr (0, [.ref q1, .ref q2, .ref q3, .ref q4, .ref q5, .ref q6, .ref q7, .ref q8, .ref q9, .ref q10, .ref q11, .int 0, .int 0, .int 0, .int 1])), (q1, .inl (cI, 12, .inl zI)), (q2, .inl (cI, 12, .inl zI)), (q3, .inl (cI, 12, .inl zI)), (q4, .inl (cI, 12, .inl zI)), (q5, .inl (cI, 12, .inl zI)), (q6, .inl (cI, 12, .inl zI)), (q7, .inl (cI, 12, .inl zI)), (q8, .inl (cI, 8, .inl (upd (upd (upd (upd zI 0 3) 1 3) 2 3) 3 3))), (q9, .inl (cI, 8, .inl zI)), (q10, .inl (cI, 3, .inl zI)), (q11, .inl (cI, 10, .inl zI))]) C 8 3 rfl (vp_in_nI (n := 3) (by decide) (by decide)) (by decide) rfl dX0_init_110 ?_
  refine gy_iinc (v := 4) (lv2 := [(1, .int 4), (0, .ref h0)]) C dX0_init_111 (by rfl) (by decide) (by decide) rfl ?_
  refine gy_goto (tgt := 98) C dX0_init_114 (by decide) ?_
  refine gy_iload_n C dX0_init_98 (by rfl) (by rfl) ?_
  refine gy_bipush (v := 8) C dX0_init_99 (by decide) ?_
  refine gy_ge_f (tgt := 117) C dX0_init_101 (by decide) (by decide) ?_
  refine gy_aload_n C dX0_init_104 (by rfl) (by rfl) ?_
  refine gy_get (v := .ref q8) C ck0 0 7 rfl (by decide) fl_X0_33 rfl dX0_init_105 ?_
  refine gy_iload_n C dX0_init_108 (by rfl) (by rfl) ?_
  refine gy_iconst (v := 3) C dX0_init_109 (by decide) ?_
  refine gy_iast (ws2 := [(h0, .inr (0, [.ref q1, .ref q2, .ref q3, .ref q4, .ref q5, .ref q6, .ref q7, .ref q8, .ref q9, .ref q10, .ref q11, .int 0, .int 0, .int 0, .int 1])), (q1, .inl (cI, 12, .inl zI)), (q2, .inl (cI, 12, .inl zI)), (q3, .inl (cI, 12, .inl zI)), (q4, .inl (cI, 12, .inl zI)), (q5, .inl (cI, 12, .inl zI)), (q6, .inl (cI, 12, .inl zI)), (q7, .inl (cI, 12, .inl zI)), (q8, .inl (cI, 8, .inl (upd (upd (upd (upd (upd zI 0 3) 1 3) 2 3) 3 3) 4 3))), (q9, .inl (cI, 8, .inl zI)), (q10, .inl (cI, 3, .inl zI)), (q11, .inl (cI, 10, .inl zI))]) C 8 4 rfl (vp_in_nI (n := 4) (by decide) (by decide)) (by decide) rfl dX0_init_110 ?_
  refine gy_iinc (v := 5) (lv2 := [(1, .int 5), (0, .ref h0)]) C dX0_init_111 (by rfl) (by decide) (by decide) rfl ?_
  refine gy_goto (tgt := 98) C dX0_init_114 (by decide) ?_
  refine gy_iload_n C dX0_init_98 (by rfl) (by rfl) ?_
  refine gy_bipush (v := 8) C dX0_init_99 (by decide) ?_
  refine gy_ge_f (tgt := 117) C dX0_init_101 (by decide) (by decide) ?_
  refine gy_aload_n C dX0_init_104 (by rfl) (by rfl) ?_
  refine gy_get (v := .ref q8) C ck0 0 7 rfl (by decide) fl_X0_33 rfl dX0_init_105 ?_
  refine gy_iload_n C dX0_init_108 (by rfl) (by rfl) ?_
  refine gy_iconst (v := 3) C dX0_init_109 (by decide) ?_
  refine gy_iast (ws2 := [(h0, .inr (0, [.ref q1, .ref q2, .ref q3, .ref q4, .ref q5, .ref q6, .ref q7, .ref q8, .ref q9, .ref q10, .ref q11, .int 0, .int 0, .int 0, .int 1])), (q1, .inl (cI, 12, .inl zI)), (q2, .inl (cI, 12, .inl zI)), (q3, .inl (cI, 12, .inl zI)), (q4, .inl (cI, 12, .inl zI)), (q5, .inl (cI, 12, .inl zI)), (q6, .inl (cI, 12, .inl zI)), (q7, .inl (cI, 12, .inl zI)), (q8, .inl (cI, 8, .inl (upd (upd (upd (upd (upd (upd zI 0 3) 1 3) 2 3) 3 3) 4 3) 5 3))), (q9, .inl (cI, 8, .inl zI)), (q10, .inl (cI, 3, .inl zI)), (q11, .inl (cI, 10, .inl zI))]) C 8 5 rfl (vp_in_nI (n := 5) (by decide) (by decide)) (by decide) rfl dX0_init_110 ?_
  refine gy_iinc (v := 6) (lv2 := [(1, .int 6), (0, .ref h0)]) C dX0_init_111 (by rfl) (by decide) (by decide) rfl ?_
  refine gy_goto (tgt := 98) C dX0_init_114 (by decide) ?_
  refine gy_iload_n C dX0_init_98 (by rfl) (by rfl) ?_
  refine gy_bipush (v := 8) C dX0_init_99 (by decide) ?_
  refine gy_ge_f (tgt := 117) C dX0_init_101 (by decide) (by decide) ?_
  refine gy_aload_n C dX0_init_104 (by rfl) (by rfl) ?_
  refine gy_get (v := .ref q8) C ck0 0 7 rfl (by decide) fl_X0_33 rfl dX0_init_105 ?_
  refine gy_iload_n C dX0_init_108 (by rfl) (by rfl) ?_
  refine gy_iconst (v := 3) C dX0_init_109 (by decide) ?_
  refine gy_iast (ws2 := [(h0, .inr (0, [.ref q1, .ref q2, .ref q3, .ref q4, .ref q5, .ref q6, .ref q7, .ref q8, .ref q9, .ref q10, .ref q11, .int 0, .int 0, .int 0, .int 1])), (q1, .inl (cI, 12, .inl zI)), (q2, .inl (cI, 12, .inl zI)), (q3, .inl (cI, 12, .inl zI)), (q4, .inl (cI, 12, .inl zI)), (q5, .inl (cI, 12, .inl zI)), (q6, .inl (cI, 12, .inl zI)), (q7, .inl (cI, 12, .inl zI)), (q8, .inl (cI, 8, .inl (upd (upd (upd (upd (upd (upd (upd zI 0 3) 1 3) 2 3) 3 3) 4 3) 5 3) 6 3))), (q9, .inl (cI, 8, .inl zI)), (q10, .inl (cI, 3, .inl zI)), (q11, .inl (cI, 10, .inl zI))]) C 8 6 rfl (vp_in_nI (n := 6) (by decide) (by decide)) (by decide) rfl dX0_init_110 ?_
  refine gy_iinc (v := 7) (lv2 := [(1, .int 7), (0, .ref h0)]) C dX0_init_111 (by rfl) (by decide) (by decide) rfl ?_
  refine gy_goto (tgt := 98) C dX0_init_114 (by decide) ?_
  refine gy_iload_n C dX0_init_98 (by rfl) (by rfl) ?_
  refine gy_bipush (v := 8) C dX0_init_99 (by decide) ?_
  refine gy_ge_f (tgt := 117) C dX0_init_101 (by decide) (by decide) ?_
  refine gy_aload_n C dX0_init_104 (by rfl) (by rfl) ?_
  refine gy_get (v := .ref q8) C ck0 0 7 rfl (by decide) fl_X0_33 rfl dX0_init_105 ?_
  refine gy_iload_n C dX0_init_108 (by rfl) (by rfl) ?_
  refine gy_iconst (v := 3) C dX0_init_109 (by decide) ?_
  refine gy_iast (ws2 := [(h0, .inr (0, [.ref q1, .ref q2, .ref q3, .ref q4, .ref q5, .ref q6, .ref q7, .ref q8, .ref q9, .ref q10, .ref q11, .int 0, .int 0, .int 0, .int 1])), (q1, .inl (cI, 12, .inl zI)), (q2, .inl (cI, 12, .inl zI)), (q3, .inl (cI, 12, .inl zI)), (q4, .inl (cI, 12, .inl zI)), (q5, .inl (cI, 12, .inl zI)), (q6, .inl (cI, 12, .inl zI)), (q7, .inl (cI, 12, .inl zI)), (q8, .inl (cI, 8, .inl (upd (upd (upd (upd (upd (upd (upd (upd zI 0 3) 1 3) 2 3) 3 3) 4 3) 5 3) 6 3) 7 3))), (q9, .inl (cI, 8, .inl zI)), (q10, .inl (cI, 3, .inl zI)), (q11, .inl (cI, 10, .inl zI))]) C 8 7 rfl (vp_in_nI (n := 7) (by decide) (by decide)) (by decide) rfl dX0_init_110 ?_
  refine gy_iinc (v := 8) (lv2 := [(1, .int 8), (0, .ref h0)]) C dX0_init_111 (by rfl) (by decide) (by decide) rfl ?_
  refine gy_goto (tgt := 98) C dX0_init_114 (by decide) ?_
  refine gy_iload_n C dX0_init_98 (by rfl) (by rfl) ?_
  refine gy_bipush (v := 8) C dX0_init_99 (by decide) ?_
  refine gy_ge_t (tgt := 117) C dX0_init_101 (by decide) (by decide) ?_
  refine gy_iconst (v := 0) C dX0_init_117 (by decide) ?_
  refine gy_istore_n (lv2 := [(1, .int 0), (0, .ref h0)]) C dX0_init_118 (by rfl) (by decide) rfl ?_
  refine gy_iload_n C dX0_init_119 (by rfl) (by rfl) ?_
  refine gy_iconst (v := 3) C dX0_init_120 (by decide) ?_
  refine gy_ge_f (tgt := 141) C dX0_init_121 (by decide) (by decide) ?_
  refine gy_aload_n C dX0_init_124 (by rfl) (by rfl) ?_
  refine gy_get (v := .ref q10) C ck0 0 9 rfl (by decide) fl_X0_39 rfl dX0_init_125 ?_
  refine gy_iload_n C dX0_init_128 (by rfl) (by rfl) ?_
  refine gy_first C dX0_init_129 ?_
  refine gy_iload_n C dX0_init_132 (by rfl) (by rfl) ?_
  refine gy_fld (v := 0) C 0 (vp_in_nI (n := 0) (by decide) (by decide)) (by decide) rfl dX0_init_133 ?_
  refine gy_iast (ws2 := [(h0, .inr (0, [.ref q1, .ref q2, .ref q3, .ref q4, .ref q5, .ref q6, .ref q7, .ref q8, .ref q9, .ref q10, .ref q11, .int 0, .int 0, .int 0, .int 1])), (q1, .inl (cI, 12, .inl zI)), (q2, .inl (cI, 12, .inl zI)), (q3, .inl (cI, 12, .inl zI)), (q4, .inl (cI, 12, .inl zI)), (q5, .inl (cI, 12, .inl zI)), (q6, .inl (cI, 12, .inl zI)), (q7, .inl (cI, 12, .inl zI)), (q8, .inl (cI, 8, .inl (upd (upd (upd (upd (upd (upd (upd (upd zI 0 3) 1 3) 2 3) 3 3) 4 3) 5 3) 6 3) 7 3))), (q9, .inl (cI, 8, .inl zI)), (q10, .inl (cI, 3, .inl (upd zI 0 0))), (q11, .inl (cI, 10, .inl zI))]) C 10 0 rfl (vp_in_nI (n := 0) (by decide) (by decide)) (by decide) rfl dX0_init_134 ?_
  refine gy_iinc (v := 1) (lv2 := [(1, .int 1), (0, .ref h0)]) C dX0_init_135 (by rfl) (by decide) (by decide) rfl ?_
  refine gy_goto (tgt := 119) C dX0_init_138 (by decide) ?_
  refine gy_iload_n C dX0_init_119 (by rfl) (by rfl) ?_
  refine gy_iconst (v := 3) C dX0_init_120 (by decide) ?_
  refine gy_ge_f (tgt := 141) C dX0_init_121 (by decide) (by decide) ?_
  refine gy_aload_n C dX0_init_124 (by rfl) (by rfl) ?_
  refine gy_get (v := .ref q10) C ck0 0 9 rfl (by decide) fl_X0_39 rfl dX0_init_125 ?_
  refine gy_iload_n C dX0_init_128 (by rfl) (by rfl) ?_
  refine gy_first C dX0_init_129 ?_
  refine gy_iload_n C dX0_init_132 (by rfl) (by rfl) ?_
  refine gy_fld (v := 3) C 1 (vp_in_nI (n := 1) (by decide) (by decide)) (by decide) rfl dX0_init_133 ?_
  refine gy_iast (ws2 := [(h0, .inr (0, [.ref q1, .ref q2, .ref q3, .ref q4, .ref q5, .ref q6, .ref q7, .ref q8, .ref q9, .ref q10, .ref q11, .int 0, .int 0, .int 0, .int 1])), (q1, .inl (cI, 12, .inl zI)), (q2, .inl (cI, 12, .inl zI)), (q3, .inl (cI, 12, .inl zI)), (q4, .inl (cI, 12, .inl zI)), (q5, .inl (cI, 12, .inl zI)), (q6, .inl (cI, 12, .inl zI)), (q7, .inl (cI, 12, .inl zI)), (q8, .inl (cI, 8, .inl (upd (upd (upd (upd (upd (upd (upd (upd zI 0 3) 1 3) 2 3) 3 3) 4 3) 5 3) 6 3) 7 3))), (q9, .inl (cI, 8, .inl zI)), (q10, .inl (cI, 3, .inl (upd (upd zI 0 0) 1 3))), (q11, .inl (cI, 10, .inl zI))]) C 10 1 rfl (vp_in_nI (n := 1) (by decide) (by decide)) (by decide) rfl dX0_init_134 ?_
  refine gy_iinc (v := 2) (lv2 := [(1, .int 2), (0, .ref h0)]) C dX0_init_135 (by rfl) (by decide) (by decide) rfl ?_
  refine gy_goto (tgt := 119) C dX0_init_138 (by decide) ?_
  refine gy_iload_n C dX0_init_119 (by rfl) (by rfl) ?_
  refine gy_iconst (v := 3) C dX0_init_120 (by decide) ?_
  refine gy_ge_f (tgt := 141) C dX0_init_121 (by decide) (by decide) ?_
  refine gy_aload_n C dX0_init_124 (by rfl) (by rfl) ?_
  refine gy_get (v := .ref q10) C ck0 0 9 rfl (by decide) fl_X0_39 rfl dX0_init_125 ?_
  refine gy_iload_n C dX0_init_128 (by rfl) (by rfl) ?_
  refine gy_first C dX0_init_129 ?_
  refine gy_iload_n C dX0_init_132 (by rfl) (by rfl) ?_
  refine gy_fld (v := 50) C 2 (vp_in_nI (n := 2) (by decide) (by decide)) (by decide) rfl dX0_init_133 ?_
  refine gy_iast (ws2 := [(h0, .inr (0, [.ref q1, .ref q2, .ref q3, .ref q4, .ref q5, .ref q6, .ref q7, .ref q8, .ref q9, .ref q10, .ref q11, .int 0, .int 0, .int 0, .int 1])), (q1, .inl (cI, 12, .inl zI)), (q2, .inl (cI, 12, .inl zI)), (q3, .inl (cI, 12, .inl zI)), (q4, .inl (cI, 12, .inl zI)), (q5, .inl (cI, 12, .inl zI)), (q6, .inl (cI, 12, .inl zI)), (q7, .inl (cI, 12, .inl zI)), (q8, .inl (cI, 8, .inl (upd (upd (upd (upd (upd (upd (upd (upd zI 0 3) 1 3) 2 3) 3 3) 4 3) 5 3) 6 3) 7 3))), (q9, .inl (cI, 8, .inl zI)), (q10, .inl (cI, 3, .inl (upd (upd (upd zI 0 0) 1 3) 2 50))), (q11, .inl (cI, 10, .inl zI))]) C 10 2 rfl (vp_in_nI (n := 2) (by decide) (by decide)) (by decide) rfl dX0_init_134 ?_
  refine gy_iinc (v := 3) (lv2 := [(1, .int 3), (0, .ref h0)]) C dX0_init_135 (by rfl) (by decide) (by decide) rfl ?_
  refine gy_goto (tgt := 119) C dX0_init_138 (by decide) ?_
  refine gy_iload_n C dX0_init_119 (by rfl) (by rfl) ?_
  refine gy_iconst (v := 3) C dX0_init_120 (by decide) ?_
  refine gy_ge_t (tgt := 141) C dX0_init_121 (by decide) (by decide) ?_
  refine gy_iconst (v := 0) C dX0_init_141 (by decide) ?_
  refine gy_istore_n (lv2 := [(1, .int 0), (0, .ref h0)]) C dX0_init_142 (by rfl) (by decide) rfl ?_
  refine gy_iload_n C dX0_init_143 (by rfl) (by rfl) ?_
  refine gy_bipush (v := 10) C dX0_init_144 (by decide) ?_
  refine gy_ge_f (tgt := 162) C dX0_init_146 (by decide) (by decide) ?_
  refine gy_aload_n C dX0_init_149 (by rfl) (by rfl) ?_
  refine gy_get (v := .ref q11) C ck0 0 10 rfl (by decide) fl_X0_42 rfl dX0_init_150 ?_
  refine gy_iload_n C dX0_init_153 (by rfl) (by rfl) ?_
  refine gy_iconst (v := (-1)) C dX0_init_154 (by decide) ?_
  refine gy_iast (ws2 := [(h0, .inr (0, [.ref q1, .ref q2, .ref q3, .ref q4, .ref q5, .ref q6, .ref q7, .ref q8, .ref q9, .ref q10, .ref q11, .int 0, .int 0, .int 0, .int 1])), (q1, .inl (cI, 12, .inl zI)), (q2, .inl (cI, 12, .inl zI)), (q3, .inl (cI, 12, .inl zI)), (q4, .inl (cI, 12, .inl zI)), (q5, .inl (cI, 12, .inl zI)), (q6, .inl (cI, 12, .inl zI)), (q7, .inl (cI, 12, .inl zI)), (q8, .inl (cI, 8, .inl (upd (upd (upd (upd (upd (upd (upd (upd zI 0 3) 1 3) 2 3) 3 3) 4 3) 5 3) 6 3) 7 3))), (q9, .inl (cI, 8, .inl zI)), (q10, .inl (cI, 3, .inl (upd (upd (upd zI 0 0) 1 3) 2 50))), (q11, .inl (cI, 10, .inl (upd zI 0 (-1))))]) C 11 0 rfl (vp_in_nI (n := 0) (by decide) (by decide)) (by decide) rfl dX0_init_155 ?_
  refine gy_iinc (v := 1) (lv2 := [(1, .int 1), (0, .ref h0)]) C dX0_init_156 (by rfl) (by decide) (by decide) rfl ?_
  refine gy_goto (tgt := 143) C dX0_init_159 (by decide) ?_
  refine gy_iload_n C dX0_init_143 (by rfl) (by rfl) ?_
  refine gy_bipush (v := 10) C dX0_init_144 (by decide) ?_
  refine gy_ge_f (tgt := 162) C dX0_init_146 (by decide) (by decide) ?_
  refine gy_aload_n C dX0_init_149 (by rfl) (by rfl) ?_
  refine gy_get (v := .ref q11) C ck0 0 10 rfl (by decide) fl_X0_42 rfl dX0_init_150 ?_
  refine gy_iload_n C dX0_init_153 (by rfl) (by rfl) ?_
  refine gy_iconst (v := (-1)) C dX0_init_154 (by decide) ?_
  refine gy_iast (ws2 := [(h0, .inr (0, [.ref q1, .ref q2, .ref q3, .ref q4, .ref q5, .ref q6, .ref q7, .ref q8, .ref q9, .ref q10, .ref q11, .int 0, .int 0, .int 0, .int 1])), (q1, .inl (cI, 12, .inl zI)), (q2, .inl (cI, 12, .inl zI)), (q3, .inl (cI, 12, .inl zI)), (q4, .inl (cI, 12, .inl zI)), (q5, .inl (cI, 12, .inl zI)), (q6, .inl (cI, 12, .inl zI)), (q7, .inl (cI, 12, .inl zI)), (q8, .inl (cI, 8, .inl (upd (upd (upd (upd (upd (upd (upd (upd zI 0 3) 1 3) 2 3) 3 3) 4 3) 5 3) 6 3) 7 3))), (q9, .inl (cI, 8, .inl zI)), (q10, .inl (cI, 3, .inl (upd (upd (upd zI 0 0) 1 3) 2 50))), (q11, .inl (cI, 10, .inl (upd (upd zI 0 (-1)) 1 (-1))))]) C 11 1 rfl (vp_in_nI (n := 1) (by decide) (by decide)) (by decide) rfl dX0_init_155 ?_
  refine gy_iinc (v := 2) (lv2 := [(1, .int 2), (0, .ref h0)]) C dX0_init_156 (by rfl) (by decide) (by decide) rfl ?_
  refine gy_goto (tgt := 143) C dX0_init_159 (by decide) ?_
  refine gy_iload_n C dX0_init_143 (by rfl) (by rfl) ?_
  refine gy_bipush (v := 10) C dX0_init_144 (by decide) ?_
  refine gy_ge_f (tgt := 162) C dX0_init_146 (by decide) (by decide) ?_
  refine gy_aload_n C dX0_init_149 (by rfl) (by rfl) ?_
  refine gy_get (v := .ref q11) C ck0 0 10 rfl (by decide) fl_X0_42 rfl dX0_init_150 ?_
  refine gy_iload_n C dX0_init_153 (by rfl) (by rfl) ?_
  refine gy_iconst (v := (-1)) C dX0_init_154 (by decide) ?_
  refine gy_iast (ws2 := [(h0, .inr (0, [.ref q1, .ref q2, .ref q3, .ref q4, .ref q5, .ref q6, .ref q7, .ref q8, .ref q9, .ref q10, .ref q11, .int 0, .int 0, .int 0, .int 1])), (q1, .inl (cI, 12, .inl zI)), (q2, .inl (cI, 12, .inl zI)), (q3, .inl (cI, 12, .inl zI)), (q4, .inl (cI, 12, .inl zI)), (q5, .inl (cI, 12, .inl zI)), (q6, .inl (cI, 12, .inl zI)), (q7, .inl (cI, 12, .inl zI)), (q8, .inl (cI, 8, .inl (upd (upd (upd (upd (upd (upd (upd (upd zI 0 3) 1 3) 2 3) 3 3) 4 3) 5 3) 6 3) 7 3))), (q9, .inl (cI, 8, .inl zI)), (q10, .inl (cI, 3, .inl (upd (upd (upd zI 0 0) 1 3) 2 50))), (q11, .inl (cI, 10, .inl (upd (upd (upd zI 0 (-1)) 1 (-1)) 2 (-1))))]) C 11 2 rfl (vp_in_nI (n := 2) (by decide) (by decide)) (by decide) rfl dX0_init_155 ?_
  refine gy_iinc (v := 3) (lv2 := [(1, .int 3), (0, .ref h0)]) C dX0_init_156 (by rfl) (by decide) (by decide) rfl ?_
  refine gy_goto (tgt := 143) C dX0_init_159 (by decide) ?_
  refine gy_iload_n C dX0_init_143 (by rfl) (by rfl) ?_
  refine gy_bipush (v := 10) C dX0_init_144 (by decide) ?_
  refine gy_ge_f (tgt := 162) C dX0_init_146 (by decide) (by decide) ?_
  refine gy_aload_n C dX0_init_149 (by rfl) (by rfl) ?_
  refine gy_get (v := .ref q11) C ck0 0 10 rfl (by decide) fl_X0_42 rfl dX0_init_150 ?_
  refine gy_iload_n C dX0_init_153 (by rfl) (by rfl) ?_
  refine gy_iconst (v := (-1)) C dX0_init_154 (by decide) ?_
  refine gy_iast (ws2 := [(h0, .inr (0, [.ref q1, .ref q2, .ref q3, .ref q4, .ref q5, .ref q6, .ref q7, .ref q8, .ref q9, .ref q10, .ref q11, .int 0, .int 0, .int 0, .int 1])), (q1, .inl (cI, 12, .inl zI)), (q2, .inl (cI, 12, .inl zI)), (q3, .inl (cI, 12, .inl zI)), (q4, .inl (cI, 12, .inl zI)), (q5, .inl (cI, 12, .inl zI)), (q6, .inl (cI, 12, .inl zI)), (q7, .inl (cI, 12, .inl zI)), (q8, .inl (cI, 8, .inl (upd (upd (upd (upd (upd (upd (upd (upd zI 0 3) 1 3) 2 3) 3 3) 4 3) 5 3) 6 3) 7 3))), (q9, .inl (cI, 8, .inl zI)), (q10, .inl (cI, 3, .inl (upd (upd (upd zI 0 0) 1 3) 2 50))), (q11, .inl (cI, 10, .inl (upd (upd (upd (upd zI 0 (-1)) 1 (-1)) 2 (-1)) 3 (-1))))]) C 11 3 rfl (vp_in_nI (n := 3) (by decide) (by decide)) (by decide) rfl dX0_init_155 ?_
  refine gy_iinc (v := 4) (lv2 := [(1, .int 4), (0, .ref h0)]) C dX0_init_156 (by rfl) (by decide) (by decide) rfl ?_
  refine gy_goto (tgt := 143) C dX0_init_159 (by decide) ?_
  refine gy_iload_n C dX0_init_143 (by rfl) (by rfl) ?_
  refine gy_bipush (v := 10) C dX0_init_144 (by decide) ?_
  refine gy_ge_f (tgt := 162) C dX0_init_146 (by decide) (by decide) ?_
  refine gy_aload_n C dX0_init_149 (by rfl) (by rfl) ?_
  refine gy_get (v := .ref q11) C ck0 0 10 rfl (by decide) fl_X0_42 rfl dX0_init_150 ?_
  refine gy_iload_n C dX0_init_153 (by rfl) (by rfl) ?_
  refine gy_iconst (v := (-1)) C dX0_init_154 (by decide) ?_
  refine gy_iast (ws2 := [(h0, .inr (0, [.ref q1, .ref q2, .ref q3, .ref q4, .ref q5, .ref q6, .ref q7, .ref q8, .ref q9, .ref q10, .ref q11, .int 0, .int 0, .int 0, .int 1])), (q1, .inl (cI, 12, .inl zI)), (q2, .inl (cI, 12, .inl zI)), (q3, .inl (cI, 12, .inl zI)), (q4, .inl (cI, 12, .inl zI)), (q5, .inl (cI, 12, .inl zI)), (q6, .inl (cI, 12, .inl zI)), (q7, .inl (cI, 12, .inl zI)), (q8, .inl (cI, 8, .inl (upd (upd (upd (upd (upd (upd (upd (upd zI 0 3) 1 3) 2 3) 3 3) 4 3) 5 3) 6 3) 7 3))), (q9, .inl (cI, 8, .inl zI)), (q10, .inl (cI, 3, .inl (upd (upd (upd zI 0 0) 1 3) 2 50))), (q11, .inl (cI, 10, .inl (upd (upd (upd (upd (upd zI 0 (-1)) 1 (-1)) 2 (-1)) 3 (-1)) 4 (-1))))]) C 11 4 rfl (vp_in_nI (n := 4) (by decide) (by decide)) (by decide) rfl dX0_init_155 ?_
  refine gy_iinc (v := 5) (lv2 := [(1, .int 5), (0, .ref h0)]) C dX0_init_156 (by rfl) (by decide) (by decide) rfl ?_
  refine gy_goto (tgt := 143) C dX0_init_159 (by decide) ?_
  refine gy_iload_n C dX0_init_143 (by rfl) (by rfl) ?_
  refine gy_bipush (v := 10) C dX0_init_144 (by decide) ?_
  refine gy_ge_f (tgt := 162) C dX0_init_146 (by decide) (by decide) ?_
  refine gy_aload_n C dX0_init_149 (by rfl) (by rfl) ?_
  refine gy_get (v := .ref q11) C ck0 0 10 rfl (by decide) fl_X0_42 rfl dX0_init_150 ?_
  refine gy_iload_n C dX0_init_153 (by rfl) (by rfl) ?_
  refine gy_iconst (v := (-1)) C dX0_init_154 (by decide) ?_
  refine gy_iast (ws2 := [(h0, .inr (0, [.ref q1, .ref q2, .ref q3, .ref q4, .ref q5, .ref q6, .ref q7, .ref q8, .ref q9, .ref q10, .ref q11, .int 0, .int 0, .int 0, .int 1])), (q1, .inl (cI, 12, .inl zI)), (q2, .inl (cI, 12, .inl zI)), (q3, .inl (cI, 12, .inl zI)), (q4, .inl (cI, 12, .inl zI)), (q5, .inl (cI, 12, .inl zI)), (q6, .inl (cI, 12, .inl zI)), (q7, .inl (cI, 12, .inl zI)), (q8, .inl (cI, 8, .inl (upd (upd (upd (upd (upd (upd (upd (upd zI 0 3) 1 3) 2 3) 3 3) 4 3) 5 3) 6 3) 7 3))), (q9, .inl (cI, 8, .inl zI)), (q10, .inl (cI, 3, .inl (upd (upd (upd zI 0 0) 1 3) 2 50))), (q11, .inl (cI, 10, .inl (upd (upd (upd (upd (upd (upd zI 0 (-1)) 1 (-1)) 2 (-1)) 3 (-1)) 4 (-1)) 5 (-1))))]) C 11 5 rfl (vp_in_nI (n := 5) (by decide) (by decide)) (by decide) rfl dX0_init_155 ?_
  refine gy_iinc (v := 6) (lv2 := [(1, .int 6), (0, .ref h0)]) C dX0_init_156 (by rfl) (by decide) (by decide) rfl ?_
  refine gy_goto (tgt := 143) C dX0_init_159 (by decide) ?_
  refine gy_iload_n C dX0_init_143 (by rfl) (by rfl) ?_
  refine gy_bipush (v := 10) C dX0_init_144 (by decide) ?_
  refine gy_ge_f (tgt := 162) C dX0_init_146 (by decide) (by decide) ?_
  refine gy_aload_n C dX0_init_149 (by rfl) (by rfl) ?_
  refine gy_get (v := .ref q11) C ck0 0 10 rfl (by decide) fl_X0_42 rfl dX0_init_150 ?_
  refine gy_iload_n C dX0_init_153 (by rfl) (by rfl) ?_
  refine gy_iconst (v := (-1)) C dX0_init_154 (by decide) ?_
  refine gy_iast (ws2 := [(h0, .inr (0, [.ref q1, .ref q2, .ref q3, .ref q4, .ref q5, .ref q6, .ref q7, .ref q8, .ref q9, .ref q10, .ref q11, .int 0, .int 0, .int 0, .int 1])), (q1, .inl (cI, 12, .inl zI)), (q2, .inl (cI, 12, .inl zI)), (q3, .inl (cI, 12, .inl zI)), (q4, .inl (cI, 12, .inl zI)), (q5, .inl (cI, 12, .inl zI)), (q6, .inl (cI, 12, .inl zI)), (q7, .inl (cI, 12, .inl zI)), (q8, .inl (cI, 8, .inl (upd (upd (upd (upd (upd (upd (upd (upd zI 0 3) 1 3) 2 3) 3 3) 4 3) 5 3) 6 3) 7 3))), (q9, .inl (cI, 8, .inl zI)), (q10, .inl (cI, 3, .inl (upd (upd (upd zI 0 0) 1 3) 2 50))), (q11, .inl (cI, 10, .inl (upd (upd (upd (upd (upd (upd (upd zI 0 (-1)) 1 (-1)) 2 (-1)) 3 (-1)) 4 (-1)) 5 (-1)) 6 (-1))))]) C 11 6 rfl (vp_in_nI (n := 6) (by decide) (by decide)) (by decide) rfl dX0_init_155 ?_
  refine gy_iinc (v := 7) (lv2 := [(1, .int 7), (0, .ref h0)]) C dX0_init_156 (by rfl) (by decide) (by decide) rfl ?_
  refine gy_goto (tgt := 143) C dX0_init_159 (by decide) ?_
  refine gy_iload_n C dX0_init_143 (by rfl) (by rfl) ?_
  refine gy_bipush (v := 10) C dX0_init_144 (by decide) ?_
  refine gy_ge_f (tgt := 162) C dX0_init_146 (by decide) (by decide) ?_
  refine gy_aload_n C dX0_init_149 (by rfl) (by rfl) ?_
  refine gy_get (v := .ref q11) C ck0 0 10 rfl (by decide) fl_X0_42 rfl dX0_init_150 ?_
  refine gy_iload_n C dX0_init_153 (by rfl) (by rfl) ?_
  refine gy_iconst (v := (-1)) C dX0_init_154 (by decide) ?_
  refine gy_iast (ws2 := [(h0, .inr (0, [.ref q1, .ref q2, .ref q3, .ref q4, .ref q5, .ref q6, .ref q7, .ref q8, .ref q9, .ref q10, .ref q11, .int 0, .int 0, .int 0, .int 1])), (q1, .inl (cI, 12, .inl zI)), (q2, .inl (cI, 12, .inl zI)), (q3, .inl (cI, 12, .inl zI)), (q4, .inl (cI, 12, .inl zI)), (q5, .inl (cI, 12, .inl zI)), (q6, .inl (cI, 12, .inl zI)), (q7, .inl (cI, 12, .inl zI)), (q8, .inl (cI, 8, .inl (upd (upd (upd (upd (upd (upd (upd (upd zI 0 3) 1 3) 2 3) 3 3) 4 3) 5 3) 6 3) 7 3))), (q9, .inl (cI, 8, .inl zI)), (q10, .inl (cI, 3, .inl (upd (upd (upd zI 0 0) 1 3) 2 50))), (q11, .inl (cI, 10, .inl (upd (upd (upd (upd (upd (upd (upd (upd zI 0 (-1)) 1 (-1)) 2 (-1)) 3 (-1)) 4 (-1)) 5 (-1)) 6 (-1)) 7 (-1))))]) C 11 7 rfl (vp_in_nI (n := 7) (by decide) (by decide)) (by decide) rfl dX0_init_155 ?_
  refine gy_iinc (v := 8) (lv2 := [(1, .int 8), (0, .ref h0)]) C dX0_init_156 (by rfl) (by decide) (by decide) rfl ?_
  refine gy_goto (tgt := 143) C dX0_init_159 (by decide) ?_
  refine gy_iload_n C dX0_init_143 (by rfl) (by rfl) ?_
  refine gy_bipush (v := 10) C dX0_init_144 (by decide) ?_
  refine gy_ge_f (tgt := 162) C dX0_init_146 (by decide) (by decide) ?_
  refine gy_aload_n C dX0_init_149 (by rfl) (by rfl) ?_
  refine gy_get (v := .ref q11) C ck0 0 10 rfl (by decide) fl_X0_42 rfl dX0_init_150 ?_
  refine gy_iload_n C dX0_init_153 (by rfl) (by rfl) ?_
  refine gy_iconst (v := (-1)) C dX0_init_154 (by decide) ?_
  refine gy_iast (ws2 := [(h0, .inr (0, [.ref q1, .ref q2, .ref q3, .ref q4, .ref q5, .ref q6, .ref q7, .ref q8, .ref q9, .ref q10, .ref q11, .int 0, .int 0, .int 0, .int 1])), (q1, .inl (cI, 12, .inl zI)), (q2, .inl (cI, 12, .inl zI)), (q3, .inl (cI, 12, .inl zI)), (q4, .inl (cI, 12, .inl zI)), (q5, .inl (cI, 12, .inl zI)), (q6, .inl (cI, 12, .inl zI)), (q7, .inl (cI, 12, .inl zI)), (q8, .inl (cI, 8, .inl (upd (upd (upd (upd (upd (upd (upd (upd zI 0 3) 1 3) 2 3) 3 3) 4 3) 5 3) 6 3) 7 3))), (q9, .inl (cI, 8, .inl zI)), (q10, .inl (cI, 3, .inl (upd (upd (upd zI 0 0) 1 3) 2 50))), (q11, .inl (cI, 10, .inl (upd (upd (upd (upd (upd (upd (upd (upd (upd zI 0 (-1)) 1 (-1)) 2 (-1)) 3 (-1)) 4 (-1)) 5 (-1)) 6 (-1)) 7 (-1)) 8 (-1))))]) C 11 8 rfl (vp_in_nI (n := 8) (by decide) (by decide)) (by decide) rfl dX0_init_155 ?_
  refine gy_iinc (v := 9) (lv2 := [(1, .int 9), (0, .ref h0)]) C dX0_init_156 (by rfl) (by decide) (by decide) rfl ?_
  refine gy_goto (tgt := 143) C dX0_init_159 (by decide) ?_
  refine gy_iload_n C dX0_init_143 (by rfl) (by rfl) ?_
  refine gy_bipush (v := 10) C dX0_init_144 (by decide) ?_
  refine gy_ge_f (tgt := 162) C dX0_init_146 (by decide) (by decide) ?_
  refine gy_aload_n C dX0_init_149 (by rfl) (by rfl) ?_
  refine gy_get (v := .ref q11) C ck0 0 10 rfl (by decide) fl_X0_42 rfl dX0_init_150 ?_
  refine gy_iload_n C dX0_init_153 (by rfl) (by rfl) ?_
  refine gy_iconst (v := (-1)) C dX0_init_154 (by decide) ?_
  refine gy_iast (ws2 := [(h0, .inr (0, [.ref q1, .ref q2, .ref q3, .ref q4, .ref q5, .ref q6, .ref q7, .ref q8, .ref q9, .ref q10, .ref q11, .int 0, .int 0, .int 0, .int 1])), (q1, .inl (cI, 12, .inl zI)), (q2, .inl (cI, 12, .inl zI)), (q3, .inl (cI, 12, .inl zI)), (q4, .inl (cI, 12, .inl zI)), (q5, .inl (cI, 12, .inl zI)), (q6, .inl (cI, 12, .inl zI)), (q7, .inl (cI, 12, .inl zI)), (q8, .inl (cI, 8, .inl (upd (upd (upd (upd (upd (upd (upd (upd zI 0 3) 1 3) 2 3) 3 3) 4 3) 5 3) 6 3) 7 3))), (q9, .inl (cI, 8, .inl zI)), (q10, .inl (cI, 3, .inl (upd (upd (upd zI 0 0) 1 3) 2 50))), (q11, .inl (cI, 10, .inl (upd (upd (upd (upd (upd (upd (upd (upd (upd (upd zI 0 (-1)) 1 (-1)) 2 (-1)) 3 (-1)) 4 (-1)) 5 (-1)) 6 (-1)) 7 (-1)) 8 (-1)) 9 (-1))))]) C 11 9 rfl (vp_in_nI (n := 9) (by decide) (by decide)) (by decide) rfl dX0_init_155 ?_
  refine gy_iinc (v := 10) (lv2 := [(1, .int 10), (0, .ref h0)]) C dX0_init_156 (by rfl) (by decide) (by decide) rfl ?_
  refine gy_goto (tgt := 143) C dX0_init_159 (by decide) ?_
  refine gy_iload_n C dX0_init_143 (by rfl) (by rfl) ?_
  refine gy_bipush (v := 10) C dX0_init_144 (by decide) ?_
  refine gy_ge_t (tgt := 162) C dX0_init_146 (by decide) (by decide) ?_
  exact gy_vret C (fun i => ([h0, q1, q2, q3, q4, q5, q6, q7, q8, q9, q10, q11] : List Nat).getD i 0) rfl hr hlk (fun H hP hD => ⟨hP, hD⟩) dX0_init_162
def iRow : Nat → Int32 := upd (upd (upd (upd (upd (upd (upd (upd (upd (upd (upd (upd (upd (upd (upd (upd (upd (upd (upd (upd (upd zI 2 3) 3 50) 5 1) 7 3) 8 3) 9 3) 10 3) 11 3) 12 3) 13 3) 14 3) 99 (-1)) 100 (-1)) 101 (-1)) 102 (-1)) 103 (-1)) 104 (-1)) 105 (-1)) 106 (-1)) 107 (-1)) 108 (-1)
def wX4 (cI : ClassId) (u : Nat → Nat) : va_W := [(u 0, .inr (4, [.ref (u 1), .ref (u 2), .ref (u 3), .ref (u 4), .int 0, .ref (u 5), .ref (u 6), .int 0, .int 0, .int 0, .int 0, .int 0, .int 0, .ref (u 7), .ref (u 8), .ref (u 9)])), (u 1, .inl (cI, 109, .inl iRow)), (u 2, .inl (cI, 109, .inl zI)), (u 3, .inl (cI, 109, .inl zI)), (u 4, .inl (cI, 109, .inl zI)), (u 5, .inl (cI, 7, .inl zI)), (u 6, .inl (cI, 120, .inl zI)), (u 7, .inl (cI, 4, .inl zI)), (u 8, .inl (cI, 4, .inl zI)), (u 9, .inl (cI, 160, .inl zI))]
set_option maxHeartbeats 4000000 in
set_option maxRecDepth 100000 in
theorem c_X4_init (l : Launch) (D : va_G) (cI cS : ClassId) (z0 h0 : Nat) : CtN l D cI cS z0 yX4_init cX4_init 2 1 12 9 731 h0 [(h0, .inr (4, [.null, .null, .null, .null, .int 0, .null, .null, .int 0, .int 0, .int 0, .int 0, .int 0, .int 0, .null, .null, .null]))] (wX4 cI) := by
  refine CtN.of (by decide +kernel) rfl (by decide) (fun p e0 s m below meth c C hr hlk hin => ?_)
  refine gy_aload_n C dX4_init_0 (by rfl) (by rfl) ?_
  refine gy_obj C ml_X4_3 dX4_init_1 (Nat.le_of_ble_eq_true rfl) (Nat.le_of_ble_eq_true rfl) ?_
  refine gy_aload_n C dX4_init_4 (by rfl) (by rfl) ?_
  refine gy_bipush (v := 109) C dX4_init_5 (by decide) ?_
  refine gy_newa C 109 (by decide) (by decide) (by decide) (Nat.le_of_ble_eq_true rfl) (Nat.le_of_ble_eq_true rfl) dX4_init_7 (fun q1 => ?_)
  refine gy_num (k' := 1) (n' := 109) rfl rfl ?_
  refine gy_ws (ws2 := [(h0, .inr (4, [.null, .null, .null, .null, .int 0, .null, .null, .int 0, .int 0, .int 0, .int 0, .int 0, .int 0, .null, .null, .null])), (q1, .inl (cI, 109, .inl zI))]) rfl ?_
  refine gy_putF (ws2 := [(h0, .inr (4, [.ref q1, .null, .null, .null, .int 0, .null, .null, .int 0, .int 0, .int 0, .int 0, .int 0, .int 0, .null, .null, .null])), (q1, .inl (cI, 109, .inl zI))]) C ck4 0 0 rfl (by decide) fl_X4_9 rfl hin rfl rfl rfl (Nat.le_of_ble_eq_true rfl) rfl dX4_init_9 ?_
  refine gy_aload_n C dX4_init_12 (by rfl) (by rfl) ?_
  refine gy_bipush (v := 109) C dX4_init_13 (by decide) ?_
  refine gy_newa C 109 (by decide) (by decide) (by decide) (Nat.le_of_ble_eq_true rfl) (Nat.le_of_ble_eq_true rfl) dX4_init_15 (fun q2 => ?_)
  refine gy_num (k' := 2) (n' := 218) rfl rfl ?_
  refine gy_ws (ws2 := [(h0, .inr (4, [.ref q1, .null, .null, .null, .int 0, .null, .null, .int 0, .int 0, .int 0, .int 0, .int 0, .int 0, .null, .null, .null])), (q1, .inl (cI, 109, .inl zI)), (q2, .inl (cI, 109, .inl zI))]) rfl ?_
  refine gy_putF (ws2 := [(h0, .inr (4, [.ref q1, .ref q2, .null, .null, .int 0, .null, .null, .int 0, .int 0, .int 0, .int 0, .int 0, .int 0, .null, .null, .null])), (q1, .inl (cI, 109, .inl zI)), (q2, .inl (cI, 109, .inl zI))]) C ck4 0 1 rfl (by decide) fl_X4_13 rfl hin rfl rfl rfl (Nat.le_of_ble_eq_true rfl) rfl dX4_init_17 ?_
  refine gy_aload_n C dX4_init_20 (by rfl) (by rfl) ?_
  refine gy_bipush (v := 109) C dX4_init_21 (by decide) ?_
  refine gy_newa C 109 (by decide) (by decide) (by decide) (Nat.le_of_ble_eq_true rfl) (Nat.le_of_ble_eq_true rfl) dX4_init_23 (fun q3 => ?_)
  refine gy_num (k' := 3) (n' := 327) rfl rfl ?_
  refine gy_ws (ws2 := [(h0, .inr (4, [.ref q1, .ref q2, .null, .null, .int 0, .null, .null, .int 0, .int 0, .int 0, .int 0, .int 0, .int 0, .null, .null, .null])), (q1, .inl (cI, 109, .inl zI)), (q2, .inl (cI, 109, .inl zI)), (q3, .inl (cI, 109, .inl zI))]) rfl ?_
  refine gy_putF (ws2 := [(h0, .inr (4, [.ref q1, .ref q2, .ref q3, .null, .int 0, .null, .null, .int 0, .int 0, .int 0, .int 0, .int 0, .int 0, .null, .null, .null])), (q1, .inl (cI, 109, .inl zI)), (q2, .inl (cI, 109, .inl zI)), (q3, .inl (cI, 109, .inl zI))]) C ck4 0 2 rfl (by decide) fl_X4_16 rfl hin rfl rfl rfl (Nat.le_of_ble_eq_true rfl) rfl dX4_init_25 ?_
  refine gy_aload_n C dX4_init_28 (by rfl) (by rfl) ?_
  refine gy_bipush (v := 109) C dX4_init_29 (by decide) ?_
  refine gy_newa C 109 (by decide) (by decide) (by decide) (Nat.le_of_ble_eq_true rfl) (Nat.le_of_ble_eq_true rfl) dX4_init_31 (fun q4 => ?_)
  refine gy_num (k' := 4) (n' := 436) rfl rfl ?_
  refine gy_ws (ws2 := [(h0, .inr (4, [.ref q1, .ref q2, .ref q3, .null, .int 0, .null, .null, .int 0, .int 0, .int 0, .int 0, .int 0, .int 0, .null, .null, .null])), (q1, .inl (cI, 109, .inl zI)), (q2, .inl (cI, 109, .inl zI)), (q3, .inl (cI, 109, .inl zI)), (q4, .inl (cI, 109, .inl zI))]) rfl ?_
  refine gy_putF (ws2 := [(h0, .inr (4, [.ref q1, .ref q2, .ref q3, .ref q4, .int 0, .null, .null, .int 0, .int 0, .int 0, .int 0, .int 0, .int 0, .null, .null, .null])), (q1, .inl (cI, 109, .inl zI)), (q2, .inl (cI, 109, .inl zI)), (q3, .inl (cI, 109, .inl zI)), (q4, .inl (cI, 109, .inl zI))]) C ck4 0 3 rfl (by decide) fl_X4_19 rfl hin rfl rfl rfl (Nat.le_of_ble_eq_true rfl) rfl dX4_init_33 ?_
  refine gy_aload_n C dX4_init_36 (by rfl) (by rfl) ?_
  refine gy_bipush (v := 7) C dX4_init_37 (by decide) ?_
  refine gy_newa C 7 (by decide) (by decide) (by decide) (Nat.le_of_ble_eq_true rfl) (Nat.le_of_ble_eq_true rfl) dX4_init_39 (fun q5 => ?_)
  refine gy_num (k' := 5) (n' := 443) rfl rfl ?_
  refine gy_ws (ws2 := [(h0, .inr (4, [.ref q1, .ref q2, .ref q3, .ref q4, .int 0, .null, .null, .int 0, .int 0, .int 0, .int 0, .int 0, .int 0, .null, .null, .null])), (q1, .inl (cI, 109, .inl zI)), (q2, .inl (cI, 109, .inl zI)), (q3, .inl (cI, 109, .inl zI)), (q4, .inl (cI, 109, .inl zI)), (q5, .inl (cI, 7, .inl zI))]) rfl ?_
  refine gy_putF (ws2 := [(h0, .inr (4, [.ref q1, .ref q2, .ref q3, .ref q4, .int 0, .ref q5, .null, .int 0, .int 0, .int 0, .int 0, .int 0, .int 0, .null, .null, .null])), (q1, .inl (cI, 109, .inl zI)), (q2, .inl (cI, 109, .inl zI)), (q3, .inl (cI, 109, .inl zI)), (q4, .inl (cI, 109, .inl zI)), (q5, .inl (cI, 7, .inl zI))]) C ck4 0 5 rfl (by decide) fl_X4_22 rfl hin rfl rfl rfl (Nat.le_of_ble_eq_true rfl) rfl dX4_init_41 ?_
  refine gy_aload_n C dX4_init_44 (by rfl) (by rfl) ?_
  refine gy_bipush (v := 120) C dX4_init_45 (by decide) ?_
  refine gy_newa C 120 (by decide) (by decide) (by decide) (Nat.le_of_ble_eq_true rfl) (Nat.le_of_ble_eq_true rfl) dX4_init_47 (fun q6 => ?_)
  refine gy_num (k' := 6) (n' := 563) rfl rfl ?_
  refine gy_ws (ws2 := [(h0, .inr (4, [.ref q1, .ref q2, .ref q3, .ref q4, .int 0, .ref q5, .null, .int 0, .int 0, .int 0, .int 0, .int 0, .int 0, .null, .null, .null])), (q1, .inl (cI, 109, .inl zI)), (q2, .inl (cI, 109, .inl zI)), (q3, .inl (cI, 109, .inl zI)), (q4, .inl (cI, 109, .inl zI)), (q5, .inl (cI, 7, .inl zI)), (q6, .inl (cI, 120, .inl zI))]) rfl ?_
  refine gy_putF (ws2 := [(h0, .inr (4, [.ref q1, .ref q2, .ref q3, .ref q4, .int 0, .ref q5, .ref q6, .int 0, .int 0, .int 0, .int 0, .int 0, .int 0, .null, .null, .null])), (q1, .inl (cI, 109, .inl zI)), (q2, .inl (cI, 109, .inl zI)), (q3, .inl (cI, 109, .inl zI)), (q4, .inl (cI, 109, .inl zI)), (q5, .inl (cI, 7, .inl zI)), (q6, .inl (cI, 120, .inl zI))]) C ck4 0 6 rfl (by decide) fl_X4_25 rfl hin rfl rfl rfl (Nat.le_of_ble_eq_true rfl) rfl dX4_init_49 ?_
  refine gy_aload_n C dX4_init_52 (by rfl) (by rfl) ?_
  refine gy_iconst (v := 4) C dX4_init_53 (by decide) ?_
  refine gy_newa C 4 (by decide) (by decide) (by decide) (Nat.le_of_ble_eq_true rfl) (Nat.le_of_ble_eq_true rfl) dX4_init_54 (fun q7 => ?_)
  refine gy_num (k' := 7) (n' := 567) rfl rfl ?_
  refine gy_ws (ws2 := [(h0, .inr (4, [.ref q1, .ref q2, .ref q3, .ref q4, .int 0, .ref q5, .ref q6, .int 0, .int 0, .int 0, .int 0, .int 0, .int 0, .null, .null, .null])), (q1, .inl (cI, 109, .inl zI)), (q2, .inl (cI, 109, .inl zI)), (q3, .inl (cI, 109, .inl zI)), (q4, .inl (cI, 109, .inl zI)), (q5, .inl (cI, 7, .inl zI)), (q6, .inl (cI, 120, .inl zI)), (q7, .inl (cI, 4, .inl zI))]) rfl ?_
  refine gy_putF (ws2 := [(h0, .inr (4, [.ref q1, .ref q2, .ref q3, .ref q4, .int 0, .ref q5, .ref q6, .int 0, .int 0, .int 0, .int 0, .int 0, .int 0, .ref q7, .null, .null])), (q1, .inl (cI, 109, .inl zI)), (q2, .inl (cI, 109, .inl zI)), (q3, .inl (cI, 109, .inl zI)), (q4, .inl (cI, 109, .inl zI)), (q5, .inl (cI, 7, .inl zI)), (q6, .inl (cI, 120, .inl zI)), (q7, .inl (cI, 4, .inl zI))]) C ck4 0 13 rfl (by decide) fl_X4_28 rfl hin rfl rfl rfl (Nat.le_of_ble_eq_true rfl) rfl dX4_init_56 ?_
  refine gy_aload_n C dX4_init_59 (by rfl) (by rfl) ?_
  refine gy_iconst (v := 4) C dX4_init_60 (by decide) ?_
  refine gy_newa C 4 (by decide) (by decide) (by decide) (Nat.le_of_ble_eq_true rfl) (Nat.le_of_ble_eq_true rfl) dX4_init_61 (fun q8 => ?_)
  refine gy_num (k' := 8) (n' := 571) rfl rfl ?_
  refine gy_ws (ws2 := [(h0, .inr (4, [.ref q1, .ref q2, .ref q3, .ref q4, .int 0, .ref q5, .ref q6, .int 0, .int 0, .int 0, .int 0, .int 0, .int 0, .ref q7, .null, .null])), (q1, .inl (cI, 109, .inl zI)), (q2, .inl (cI, 109, .inl zI)), (q3, .inl (cI, 109, .inl zI)), (q4, .inl (cI, 109, .inl zI)), (q5, .inl (cI, 7, .inl zI)), (q6, .inl (cI, 120, .inl zI)), (q7, .inl (cI, 4, .inl zI)), (q8, .inl (cI, 4, .inl zI))]) rfl ?_
  refine gy_putF (ws2 := [(h0, .inr (4, [.ref q1, .ref q2, .ref q3, .ref q4, .int 0, .ref q5, .ref q6, .int 0, .int 0, .int 0, .int 0, .int 0, .int 0, .ref q7, .ref q8, .null])), (q1, .inl (cI, 109, .inl zI)), (q2, .inl (cI, 109, .inl zI)), (q3, .inl (cI, 109, .inl zI)), (q4, .inl (cI, 109, .inl zI)), (q5, .inl (cI, 7, .inl zI)), (q6, .inl (cI, 120, .inl zI)), (q7, .inl (cI, 4, .inl zI)), (q8, .inl (cI, 4, .inl zI))]) C ck4 0 14 rfl (by decide) fl_X4_31 rfl hin rfl rfl rfl (Nat.le_of_ble_eq_true rfl) rfl dX4_init_63 ?_
  refine gy_aload_n C dX4_init_66 (by rfl) (by rfl) ?_
  refine gy_sipush (v := 160) C dX4_init_67 (by decide) ?_
  refine gy_newa C 160 (by decide) (by decide) (by decide) (Nat.le_of_ble_eq_true rfl) (Nat.le_of_ble_eq_true rfl) dX4_init_70 (fun q9 => ?_)
  refine gy_num (k' := 9) (n' := 731) rfl rfl ?_
  refine gy_ws (ws2 := [(h0, .inr (4, [.ref q1, .ref q2, .ref q3, .ref q4, .int 0, .ref q5, .ref q6, .int 0, .int 0, .int 0, .int 0, .int 0, .int 0, .ref q7, .ref q8, .null])), (q1, .inl (cI, 109, .inl zI)), (q2, .inl (cI, 109, .inl zI)), (q3, .inl (cI, 109, .inl zI)), (q4, .inl (cI, 109, .inl zI)), (q5, .inl (cI, 7, .inl zI)), (q6, .inl (cI, 120, .inl zI)), (q7, .inl (cI, 4, .inl zI)), (q8, .inl (cI, 4, .inl zI)), (q9, .inl (cI, 160, .inl zI))]) rfl ?_
  refine gy_putF (ws2 := [(h0, .inr (4, [.ref q1, .ref q2, .ref q3, .ref q4, .int 0, .ref q5, .ref q6, .int 0, .int 0, .int 0, .int 0, .int 0, .int 0, .ref q7, .ref q8, .ref q9])), (q1, .inl (cI, 109, .inl zI)), (q2, .inl (cI, 109, .inl zI)), (q3, .inl (cI, 109, .inl zI)), (q4, .inl (cI, 109, .inl zI)), (q5, .inl (cI, 7, .inl zI)), (q6, .inl (cI, 120, .inl zI)), (q7, .inl (cI, 4, .inl zI)), (q8, .inl (cI, 4, .inl zI)), (q9, .inl (cI, 160, .inl zI))]) C ck4 0 15 rfl (by decide) fl_X4_34 rfl hin rfl rfl rfl (Nat.le_of_ble_eq_true rfl) rfl dX4_init_72 ?_
  refine gy_aload_n C dX4_init_75 (by rfl) (by rfl) ?_
  refine gy_get (v := .ref q1) C ck4 0 0 rfl (by decide) fl_X4_9 rfl dX4_init_76 ?_
  refine gy_iconst (v := 2) C dX4_init_79 (by decide) ?_
  refine gy_iconst (v := 3) C dX4_init_80 (by decide) ?_
  refine gy_iast (ws2 := [(h0, .inr (4, [.ref q1, .ref q2, .ref q3, .ref q4, .int 0, .ref q5, .ref q6, .int 0, .int 0, .int 0, .int 0, .int 0, .int 0, .ref q7, .ref q8, .ref q9])), (q1, .inl (cI, 109, .inl (upd zI 2 3))), (q2, .inl (cI, 109, .inl zI)), (q3, .inl (cI, 109, .inl zI)), (q4, .inl (cI, 109, .inl zI)), (q5, .inl (cI, 7, .inl zI)), (q6, .inl (cI, 120, .inl zI)), (q7, .inl (cI, 4, .inl zI)), (q8, .inl (cI, 4, .inl zI)), (q9, .inl (cI, 160, .inl zI))]) C 1 2 rfl (vp_in_nI (n := 2) (by decide) (by decide)) (by decide) rfl dX4_init_81 ?_
  refine gy_aload_n C dX4_init_82 (by rfl) (by rfl) ?_
  refine gy_get (v := .ref q1) C ck4 0 0 rfl (by decide) fl_X4_9 rfl dX4_init_83 ?_
  refine gy_iconst (v := 3) C dX4_init_86 (by decide) ?_
  refine gy_bipush (v := 50) C dX4_init_87 (by decide) ?_
  refine gy_iast (ws2 := [(h0, .inr (4, [.ref q1, .ref q2, .ref q3, .ref q4, .int 0, .ref q5, .ref q6, .int 0, .int 0, .int 0, .int 0, .int 0, .int 0, .ref q7, .ref q8, .ref q9])), (q1, .inl (cI, 109, .inl (upd (upd zI 2 3) 3 50))), (q2, .inl (cI, 109, .inl zI)), (q3, .inl (cI, 109, .inl zI)), (q4, .inl (cI, 109, .inl zI)), (q5, .inl (cI, 7, .inl zI)), (q6, .inl (cI, 120, .inl zI)), (q7, .inl (cI, 4, .inl zI)), (q8, .inl (cI, 4, .inl zI)), (q9, .inl (cI, 160, .inl zI))]) C 1 3 rfl (vp_in_nI (n := 3) (by decide) (by decide)) (by decide) rfl dX4_init_89 ?_
  refine gy_aload_n C dX4_init_90 (by rfl) (by rfl) ?_
  refine gy_get (v := .ref q1) C ck4 0 0 rfl (by decide) fl_X4_9 rfl dX4_init_91 ?_
  refine gy_iconst (v := 5) C dX4_init_94 (by decide) ?_
  refine gy_iconst (v := 1) C dX4_init_95 (by decide) ?_
  refine gy_iast (ws2 := [(h0, .inr (4, [.ref q1, .ref q2, .ref q3, .ref q4, .int 0, .ref q5, .ref q6, .int 0, .int 0, .int 0, .int 0, .int 0, .int 0, .ref q7, .ref q8, .ref q9])), (q1, .inl (cI, 109, .inl (upd (upd (upd zI 2 3) 3 50) 5 1))), (q2, .inl (cI, 109, .inl zI)), (q3, .inl (cI, 109, .inl zI)), (q4, .inl (cI, 109, .inl zI)), (q5, .inl (cI, 7, .inl zI)), (q6, .inl (cI, 120, .inl zI)), (q7, .inl (cI, 4, .inl zI)), (q8, .inl (cI, 4, .inl zI)), (q9, .inl (cI, 160, .inl zI))]) C 1 5 rfl (vp_in_nI (n := 5) (by decide) (by decide)) (by decide) rfl dX4_init_96 ?_
  refine gy_iconst (v := 0) C dX4_init_97 (by decide) ?_
  refine gy_istore_n (lv2 := [(1, .int 0), (0, .ref h0)]) C dX4_init_98 (by rfl) (by decide) rfl ?_
  refine gy_iload_n C dX4_init_99 (by rfl) (by rfl) ?_
  refine gy_bipush (v := 8) C dX4_init_100 (by decide) ?_
  refine gy_ge_f (tgt := 121) C dX4_init_102 (by decide) (by decide) ?_
  refine gy_aload_n C dX4_init_105 (by rfl) (by rfl) ?_
  refine gy_get (v := .ref q1) C ck4 0 0 rfl (by decide) fl_X4_9 rfl dX4_init_106 ?_
  refine gy_bipush (v := 7) C dX4_init_109 (by decide) ?_
  refine gy_iload_n C dX4_init_111 (by rfl) (by rfl) ?_
  refine gy_iadd (v := 7) C dX4_init_112 (by decide) ?_
  refine gy_iconst (v := 3) C dX4_init_113 (by decide) ?_
  refine gy_iast (ws2 := [(h0, .inr (4, [.ref q1, .ref q2, .ref q3, .ref q4, .int 0, .ref q5, .ref q6, .int 0, .int 0, .int 0, .int 0, .int 0, .int 0, .ref q7, .ref q8, .ref q9])), (q1, .inl (cI, 109, .inl (upd (upd (upd (upd zI 2 3) 3 50) 5 1) 7 3))), (q2, .inl (cI, 109, .inl zI)), (q3, .inl (cI, 109, .inl zI)), (q4, .inl (cI, 109, .inl zI)), (q5, .inl (cI, 7, .inl zI)), (q6, .inl (cI, 120, .inl zI)), (q7, .inl (cI, 4, .inl zI)), (q8, .inl (cI, 4, .inl zI)), (q9, .inl (cI, 160, .inl zI))]) C 1 7 rfl (vp_in_nI (n := 7) (by decide) (by decide)) (by decide) rfl dX4_init_114 ?_
  refine gy_iinc (v := 1) (lv2 := [(1, .int 1), (0, .ref h0)]) C dX4_init_115 (by rfl) (by decide) (by decide) rfl ?_
  refine gy_goto (tgt := 99) C dX4_init_118 (by decide) ?_
  refine gy_iload_n C dX4_init_99 (by rfl) (by rfl) ?_
  refine gy_bipush (v := 8) C dX4_init_100 (by decide) ?_
  refine gy_ge_f (tgt := 121) C dX4_init_102 (by decide) (by decide) ?_
  refine gy_aload_n C dX4_init_105 (by rfl) (by rfl) ?_
  refine gy_get (v := .ref q1) C ck4 0 0 rfl (by decide) fl_X4_9 rfl dX4_init_106 ?_
  refine gy_bipush (v := 7) C dX4_init_109 (by decide) ?_
  refine gy_iload_n C dX4_init_111 (by rfl) (by rfl) ?_
  refine gy_iadd (v := 8) C dX4_init_112 (by decide) ?_
  refine gy_iconst (v := 3) C dX4_init_113 (by decide) ?_
  refine gy_iast (ws2 := [(h0, .inr (4, [.ref q1, .ref q2, .ref q3, .ref q4, .int 0, .ref q5, .ref q6, .int 0, .int 0, .int 0, .int 0, .int 0, .int 0, .ref q7, .ref q8, .ref q9])), (q1, .inl (cI, 109, .inl (upd (upd (upd (upd (upd zI 2 3) 3 50) 5 1) 7 3) 8 3))), (q2, .inl (cI, 109, .inl zI)), (q3, .inl (cI, 109, .inl zI)), (q4, .inl (cI, 109, .inl zI)), (q5, .inl (cI, 7, .inl zI)), (q6, .inl (cI, 120, .inl zI)), (q7, .inl (cI, 4, .inl zI)), (q8, .inl (cI, 4, .inl zI)), (q9, .inl (cI, 160, .inl zI))]) C 1 8 rfl (vp_in_nI (n := 8) (by decide) (by decide)) (by decide) rfl dX4_init_114 ?_
  refine gy_iinc (v := 2) (lv2 := [(1, .int 2), (0, .ref h0)]) C dX4_init_115 (by rfl) (by decide) (by decide) rfl ?_
  refine gy_goto (tgt := 99) C dX4_init_118 (by decide) ?_
  refine gy_iload_n C dX4_init_99 (by rfl) (by rfl) ?_
  refine gy_bipush (v := 8) C dX4_init_100 (by decide) ?_
  refine gy_ge_f (tgt := 121) C dX4_init_102 (by decide) (by decide) ?_
  refine gy_aload_n C dX4_init_105 (by rfl) (by rfl) ?_
  refine gy_get (v := .ref q1) C ck4 0 0 rfl (by decide) fl_X4_9 rfl dX4_init_106 ?_
  refine gy_bipush (v := 7) C dX4_init_109 (by decide) ?_
  refine gy_iload_n C dX4_init_111 (by rfl) (by rfl) ?_
  refine gy_iadd (v := 9) C dX4_init_112 (by decide) ?_
  refine gy_iconst (v := 3) C dX4_init_113 (by decide) ?_
  refine gy_iast (ws2 := [(h0, .inr (4, [.ref q1, .ref q2, .ref q3, .ref q4, .int 0, .ref q5, .ref q6, .int 0, .int 0, .int 0, .int 0, .int 0, .int 0, .ref q7, .ref q8, .ref q9])), (q1, .inl (cI, 109, .inl (upd (upd (upd (upd (upd (upd zI 2 3) 3 50) 5 1) 7 3) 8 3) 9 3))), (q2, .inl (cI, 109, .inl zI)), (q3, .inl (cI, 109, .inl zI)), (q4, .inl (cI, 109, .inl zI)), (q5, .inl (cI, 7, .inl zI)), (q6, .inl (cI, 120, .inl zI)), (q7, .inl (cI, 4, .inl zI)), (q8, .inl (cI, 4, .inl zI)), (q9, .inl (cI, 160, .inl zI))]) C 1 9 rfl (vp_in_nI (n := 9) (by decide) (by decide)) (by decide) rfl dX4_init_114 ?_
  refine gy_iinc (v := 3) (lv2 := [(1, .int 3), (0, .ref h0)]) C dX4_init_115 (by rfl) (by decide) (by decide) rfl ?_
  refine gy_goto (tgt := 99) C dX4_init_118 (by decide) ?_
  refine gy_iload_n C dX4_init_99 (by rfl) (by rfl) ?_
  refine gy_bipush (v := 8) C dX4_init_100 (by decide) ?_
  refine gy_ge_f (tgt := 121) C dX4_init_102 (by decide) (by decide) ?_
  refine gy_aload_n C dX4_init_105 (by rfl) (by rfl) ?_
  refine gy_get (v := .ref q1) C ck4 0 0 rfl (by decide) fl_X4_9 rfl dX4_init_106 ?_
  refine gy_bipush (v := 7) C dX4_init_109 (by decide) ?_
  refine gy_iload_n C dX4_init_111 (by rfl) (by rfl) ?_
  refine gy_iadd (v := 10) C dX4_init_112 (by decide) ?_
  refine gy_iconst (v := 3) C dX4_init_113 (by decide) ?_
  refine gy_iast (ws2 := [(h0, .inr (4, [.ref q1, .ref q2, .ref q3, .ref q4, .int 0, .ref q5, .ref q6, .int 0, .int 0, .int 0, .int 0, .int 0, .int 0, .ref q7, .ref q8, .ref q9])), (q1, .inl (cI, 109, .inl (upd (upd (upd (upd (upd (upd (upd zI 2 3) 3 50) 5 1) 7 3) 8 3) 9 3) 10 3))), (q2, .inl (cI, 109, .inl zI)), (q3, .inl (cI, 109, .inl zI)), (q4, .inl (cI, 109, .inl zI)), (q5, .inl (cI, 7, .inl zI)), (q6, .inl (cI, 120, .inl zI)), (q7, .inl (cI, 4, .inl zI)), (q8, .inl (cI, 4, .inl zI)), (q9, .inl (cI, 160, .inl zI))]) C 1 10 rfl (vp_in_nI (n := 10) (by decide) (by decide)) (by decide) rfl dX4_init_114 ?_
  refine gy_iinc (v := 4) (lv2 := [(1, .int 4), (0, .ref h0)]) C dX4_init_115 (by rfl) (by decide) (by decide) rfl ?_
  refine gy_goto (tgt := 99) C dX4_init_118 (by decide) ?_
  refine gy_iload_n C dX4_init_99 (by rfl) (by rfl) ?_
  refine gy_bipush (v := 8) C dX4_init_100 (by decide) ?_
  refine gy_ge_f (tgt := 121) C dX4_init_102 (by decide) (by decide) ?_
  refine gy_aload_n C dX4_init_105 (by rfl) (by rfl) ?_
  refine gy_get (v := .ref q1) C ck4 0 0 rfl (by decide) fl_X4_9 rfl dX4_init_106 ?_
  refine gy_bipush (v := 7) C dX4_init_109 (by decide) ?_
  refine gy_iload_n C dX4_init_111 (by rfl) (by rfl) ?_
  refine gy_iadd (v := 11) C dX4_init_112 (by decide) ?_
  refine gy_iconst (v := 3) C dX4_init_113 (by decide) ?_
  refine gy_iast (ws2 := [(h0, .inr (4, [.ref q1, .ref q2, .ref q3, .ref q4, .int 0, .ref q5, .ref q6, .int 0, .int 0, .int 0, .int 0, .int 0, .int 0, .ref q7, .ref q8, .ref q9])), (q1, .inl (cI, 109, .inl (upd (upd (upd (upd (upd (upd (upd (upd zI 2 3) 3 50) 5 1) 7 3) 8 3) 9 3) 10 3) 11 3))), (q2, .inl (cI, 109, .inl zI)), (q3, .inl (cI, 109, .inl zI)), (q4, .inl (cI, 109, .inl zI)), (q5, .inl (cI, 7, .inl zI)), (q6, .inl (cI, 120, .inl zI)), (q7, .inl (cI, 4, .inl zI)), (q8, .inl (cI, 4, .inl zI)), (q9, .inl (cI, 160, .inl zI))]) C 1 11 rfl (vp_in_nI (n := 11) (by decide) (by decide)) (by decide) rfl dX4_init_114 ?_
  refine gy_iinc (v := 5) (lv2 := [(1, .int 5), (0, .ref h0)]) C dX4_init_115 (by rfl) (by decide) (by decide) rfl ?_
  refine gy_goto (tgt := 99) C dX4_init_118 (by decide) ?_
  refine gy_iload_n C dX4_init_99 (by rfl) (by rfl) ?_
  refine gy_bipush (v := 8) C dX4_init_100 (by decide) ?_
  refine gy_ge_f (tgt := 121) C dX4_init_102 (by decide) (by decide) ?_
  refine gy_aload_n C dX4_init_105 (by rfl) (by rfl) ?_
  refine gy_get (v := .ref q1) C ck4 0 0 rfl (by decide) fl_X4_9 rfl dX4_init_106 ?_
  refine gy_bipush (v := 7) C dX4_init_109 (by decide) ?_
  refine gy_iload_n C dX4_init_111 (by rfl) (by rfl) ?_
  refine gy_iadd (v := 12) C dX4_init_112 (by decide) ?_
  refine gy_iconst (v := 3) C dX4_init_113 (by decide) ?_
  refine gy_iast (ws2 := [(h0, .inr (4, [.ref q1, .ref q2, .ref q3, .ref q4, .int 0, .ref q5, .ref q6, .int 0, .int 0, .int 0, .int 0, .int 0, .int 0, .ref q7, .ref q8, .ref q9])), (q1, .inl (cI, 109, .inl (upd (upd (upd (upd (upd (upd (upd (upd (upd zI 2 3) 3 50) 5 1) 7 3) 8 3) 9 3) 10 3) 11 3) 12 3))), (q2, .inl (cI, 109, .inl zI)), (q3, .inl (cI, 109, .inl zI)), (q4, .inl (cI, 109, .inl zI)), (q5, .inl (cI, 7, .inl zI)), (q6, .inl (cI, 120, .inl zI)), (q7, .inl (cI, 4, .inl zI)), (q8, .inl (cI, 4, .inl zI)), (q9, .inl (cI, 160, .inl zI))]) C 1 12 rfl (vp_in_nI (n := 12) (by decide) (by decide)) (by decide) rfl dX4_init_114 ?_
  refine gy_iinc (v := 6) (lv2 := [(1, .int 6), (0, .ref h0)]) C dX4_init_115 (by rfl) (by decide) (by decide) rfl ?_
  refine gy_goto (tgt := 99) C dX4_init_118 (by decide) ?_
  refine gy_iload_n C dX4_init_99 (by rfl) (by rfl) ?_
  refine gy_bipush (v := 8) C dX4_init_100 (by decide) ?_
  refine gy_ge_f (tgt := 121) C dX4_init_102 (by decide) (by decide) ?_
  refine gy_aload_n C dX4_init_105 (by rfl) (by rfl) ?_
  refine gy_get (v := .ref q1) C ck4 0 0 rfl (by decide) fl_X4_9 rfl dX4_init_106 ?_
  refine gy_bipush (v := 7) C dX4_init_109 (by decide) ?_
  refine gy_iload_n C dX4_init_111 (by rfl) (by rfl) ?_
  refine gy_iadd (v := 13) C dX4_init_112 (by decide) ?_
  refine gy_iconst (v := 3) C dX4_init_113 (by decide) ?_
  refine gy_iast (ws2 := [(h0, .inr (4, [.ref q1, .ref q2, .ref q3, .ref q4, .int 0, .ref q5, .ref q6, .int 0, .int 0, .int 0, .int 0, .int 0, .int 0, .ref q7, .ref q8, .ref q9])), (q1, .inl (cI, 109, .inl (upd (upd (upd (upd (upd (upd (upd (upd (upd (upd zI 2 3) 3 50) 5 1) 7 3) 8 3) 9 3) 10 3) 11 3) 12 3) 13 3))), (q2, .inl (cI, 109, .inl zI)), (q3, .inl (cI, 109, .inl zI)), (q4, .inl (cI, 109, .inl zI)), (q5, .inl (cI, 7, .inl zI)), (q6, .inl (cI, 120, .inl zI)), (q7, .inl (cI, 4, .inl zI)), (q8, .inl (cI, 4, .inl zI)), (q9, .inl (cI, 160, .inl zI))]) C 1 13 rfl (vp_in_nI (n := 13) (by decide) (by decide)) (by decide) rfl dX4_init_114 ?_
  refine gy_iinc (v := 7) (lv2 := [(1, .int 7), (0, .ref h0)]) C dX4_init_115 (by rfl) (by decide) (by decide) rfl ?_
  refine gy_goto (tgt := 99) C dX4_init_118 (by decide) ?_
  refine gy_iload_n C dX4_init_99 (by rfl) (by rfl) ?_
  refine gy_bipush (v := 8) C dX4_init_100 (by decide) ?_
  refine gy_ge_f (tgt := 121) C dX4_init_102 (by decide) (by decide) ?_
  refine gy_aload_n C dX4_init_105 (by rfl) (by rfl) ?_
  refine gy_get (v := .ref q1) C ck4 0 0 rfl (by decide) fl_X4_9 rfl dX4_init_106 ?_
  refine gy_bipush (v := 7) C dX4_init_109 (by decide) ?_
  refine gy_iload_n C dX4_init_111 (by rfl) (by rfl) ?_
  refine gy_iadd (v := 14) C dX4_init_112 (by decide) ?_
  refine gy_iconst (v := 3) C dX4_init_113 (by decide) ?_
  refine gy_iast (ws2 := [(h0, .inr (4, [.ref q1, .ref q2, .ref q3, .ref q4, .int 0, .ref q5, .ref q6, .int 0, .int 0, .int 0, .int 0, .int 0, .int 0, .ref q7, .ref q8, .ref q9])), (q1, .inl (cI, 109, .inl (upd (upd (upd (upd (upd (upd (upd (upd (upd (upd (upd zI 2 3) 3 50) 5 1) 7 3) 8 3) 9 3) 10 3) 11 3) 12 3) 13 3) 14 3))), (q2, .inl (cI, 109, .inl zI)), (q3, .inl (cI, 109, .inl zI)), (q4, .inl (cI, 109, .inl zI)), (q5, .inl (cI, 7, .inl zI)), (q6, .inl (cI, 120, .inl zI)), (q7, .inl (cI, 4, .inl zI)), (q8, .inl (cI, 4, .inl zI)), (q9, .inl (cI, 160, .inl zI))]) C 1 14 rfl (vp_in_nI (n := 14) (by decide) (by decide)) (by decide) rfl dX4_init_114 ?_
  refine gy_iinc (v := 8) (lv2 := [(1, .int 8), (0, .ref h0)]) C dX4_init_115 (by rfl) (by decide) (by decide) rfl ?_
  refine gy_goto (tgt := 99) C dX4_init_118 (by decide) ?_
  refine gy_iload_n C dX4_init_99 (by rfl) (by rfl) ?_
  refine gy_bipush (v := 8) C dX4_init_100 (by decide) ?_
  refine gy_ge_t (tgt := 121) C dX4_init_102 (by decide) (by decide) ?_
  refine gy_iconst (v := 0) C dX4_init_121 (by decide) ?_
  refine gy_istore_n (lv2 := [(1, .int 0), (0, .ref h0)]) C dX4_init_122 (by rfl) (by decide) rfl ?_
  refine gy_iload_n C dX4_init_123 (by rfl) (by rfl) ?_
  refine gy_bipush (v := 10) C dX4_init_124 (by decide) ?_
  refine gy_ge_f (tgt := 145) C dX4_init_126 (by decide) (by decide) ?_
  refine gy_aload_n C dX4_init_129 (by rfl) (by rfl) ?_
  refine gy_get (v := .ref q1) C ck4 0 0 rfl (by decide) fl_X4_9 rfl dX4_init_130 ?_
  refine gy_bipush (v := 99) C dX4_init_133 (by decide) ?_
  refine gy_iload_n C dX4_init_135 (by rfl) (by rfl) ?_
  refine gy_iadd (v := 99) C dX4_init_136 (by decide) ?_
  refine gy_iconst (v := (-1)) C dX4_init_137 (by decide) ?_
  refine gy_iast (ws2 := [(h0, .inr (4, [.ref q1, .ref q2, .ref q3, .ref q4, .int 0, .ref q5, .ref q6, .int 0, .int 0, .int 0, .int 0, .int 0, .int 0, .ref q7, .ref q8, .ref q9])), (q1, .inl (cI, 109, .inl (upd (upd (upd (upd (upd (upd (upd (upd (upd (upd (upd (upd zI 2 3) 3 50) 5 1) 7 3) 8 3) 9 3) 10 3) 11 3) 12 3) 13 3) 14 3) 99 (-1)))), (q2, .inl (cI, 109, .inl zI)), (q3, .inl (cI, 109, .inl zI)), (q4, .inl (cI, 109, .inl zI)), (q5, .inl (cI, 7, .inl zI)), (q6, .inl (cI, 120, .inl zI)), (q7, .inl (cI, 4, .inl zI)), (q8, .inl (cI, 4, .inl zI)), (q9, .inl (cI, 160, .inl zI))]) C 1 99 rfl (vp_in_nI (n := 99) (by decide) (by decide)) (by decide) rfl dX4_init_138 ?_
  refine gy_iinc (v := 1) (lv2 := [(1, .int 1), (0, .ref h0)]) C dX4_init_139 (by rfl) (by decide) (by decide) rfl ?_
  refine gy_goto (tgt := 123) C dX4_init_142 (by decide) ?_
  refine gy_iload_n C dX4_init_123 (by rfl) (by rfl) ?_
  refine gy_bipush (v := 10) C dX4_init_124 (by decide) ?_
  refine gy_ge_f (tgt := 145) C dX4_init_126 (by decide) (by decide) ?_
  refine gy_aload_n C dX4_init_129 (by rfl) (by rfl) ?_
  refine gy_get (v := .ref q1) C ck4 0 0 rfl (by decide) fl_X4_9 rfl dX4_init_130 ?_
  refine gy_bipush (v := 99) C dX4_init_133 (by decide) ?_
  refine gy_iload_n C dX4_init_135 (by rfl) (by rfl) ?_
  refine gy_iadd (v := 100) C dX4_init_136 (by decide) ?_
  refine gy_iconst (v := (-1)) C dX4_init_137 (by decide) ?_
  refine gy_iast (ws2 := [(h0, .inr (4, [.ref q1, .ref q2, .ref q3, .ref q4, .int 0, .ref q5, .ref q6, .int 0, .int 0, .int 0, .int 0, .int 0, .int 0, .ref q7, .ref q8, .ref q9])), (q1, .inl (cI, 109, .inl (upd (upd (upd (upd (upd (upd (upd (upd (upd (upd (upd (upd (upd zI 2 3) 3 50) 5 1) 7 3) 8 3) 9 3) 10 3) 11 3) 12 3) 13 3) 14 3) 99 (-1)) 100 (-1)))), (q2, .inl (cI, 109, .inl zI)), (q3, .inl (cI, 109, .inl zI)), (q4, .inl (cI, 109, .inl zI)), (q5, .inl (cI, 7, .inl zI)), (q6, .inl (cI, 120, .inl zI)), (q7, .inl (cI, 4, .inl zI)), (q8, .inl (cI, 4, .inl zI)), (q9, .inl (cI, 160, .inl zI))]) C 1 100 rfl (vp_in_nI (n := 100) (by decide) (by decide)) (by decide) rfl dX4_init_138 ?_
  refine gy_iinc (v := 2) (lv2 := [(1, .int 2), (0, .ref h0)]) C dX4_init_139 (by rfl) (by decide) (by decide) rfl ?_
  refine gy_goto (tgt := 123) C dX4_init_142 (by decide) ?_
  refine gy_iload_n C dX4_init_123 (by rfl) (by rfl) ?_
  refine gy_bipush (v := 10) C dX4_init_124 (by decide) ?_
  refine gy_ge_f (tgt := 145) C dX4_init_126 (by decide) (by decide) ?_
  refine gy_aload_n C dX4_init_129 (by rfl) (by rfl) ?_
  refine gy_get (v := .ref q1) C ck4 0 0 rfl (by decide) fl_X4_9 rfl dX4_init_130 ?_
  refine gy_bipush (v := 99) C dX4_init_133 (by decide) ?_
  refine gy_iload_n C dX4_init_135 (by rfl) (by rfl) ?_
  refine gy_iadd (v := 101) C dX4_init_136 (by decide) ?_
  refine gy_iconst (v := (-1)) C dX4_init_137 (by decide) ?_
  refine gy_iast (ws2 := [(h0, .inr (4, [.ref q1, .ref q2, .ref q3, .ref q4, .int 0, .ref q5, .ref q6, .int 0, .int 0, .int 0, .int 0, .int 0, .int 0, .ref q7, .ref q8, .ref q9])), (q1, .inl (cI, 109, .inl (upd (upd (upd (upd (upd (upd (upd (upd (upd (upd (upd (upd (upd (upd zI 2 3) 3 50) 5 1) 7 3) 8 3) 9 3) 10 3) 11 3) 12 3) 13 3) 14 3) 99 (-1)) 100 (-1)) 101 (-1)))), (q2, .inl (cI, 109, .inl zI)), (q3, .inl (cI, 109, .inl zI)), (q4, .inl (cI, 109, .inl zI)), (q5, .inl (cI, 7, .inl zI)), (q6, .inl (cI, 120, .inl zI)), (q7, .inl (cI, 4, .inl zI)), (q8, .inl (cI, 4, .inl zI)), (q9, .inl (cI, 160, .inl zI))]) C 1 101 rfl (vp_in_nI (n := 101) (by decide) (by decide)) (by decide) rfl dX4_init_138 ?_
  refine gy_iinc (v := 3) (lv2 := [(1, .int 3), (0, .ref h0)]) C dX4_init_139 (by rfl) (by decide) (by decide) rfl ?_
  refine gy_goto (tgt := 123) C dX4_init_142 (by decide) ?_
  refine gy_iload_n C dX4_init_123 (by rfl) (by rfl) ?_
  refine gy_bipush (v := 10) C dX4_init_124 (by decide) ?_
  refine gy_ge_f (tgt := 145) C dX4_init_126 (by decide) (by decide) ?_
  refine gy_aload_n C dX4_init_129 (by rfl) (by rfl) ?_
  refine gy_get (v := .ref q1) C ck4 0 0 rfl (by decide) fl_X4_9 rfl dX4_init_130 ?_
  refine gy_bipush (v := 99) C dX4_init_133 (by decide) ?_
  refine gy_iload_n C dX4_init_135 (by rfl) (by rfl) ?_
  refine gy_iadd (v := 102) C dX4_init_136 (by decide) ?_
  refine gy_iconst (v := (-1)) C dX4_init_137 (by decide) ?_
  refine gy_iast (ws2 := [(h0, .inr (4, [.ref q1, .ref q2, .ref q3, .ref q4, .int 0, .ref q5, .ref q6, .int 0, .int 0, .int 0, .int 0, .int 0, .int 0, .ref q7, .ref q8, .ref q9])), (q1, .inl (cI, 109, .inl (upd (upd (upd (upd (upd (upd (upd (upd (upd (upd (upd (upd (upd (upd (upd zI 2 3) 3 50) 5 1) 7 3) 8 3) 9 3) 10 3) 11 3) 12 3) 13 3) 14 3) 99 (-1)) 100 (-1)) 101 (-1)) 102 (-1)))), (q2, .inl (cI, 109, .inl zI)), (q3, .inl (cI, 109, .inl zI)), (q4, .inl (cI, 109, .inl zI)), (q5, .inl (cI, 7, .inl zI)), (q6, .inl (cI, 120, .inl zI)), (q7, .inl (cI, 4, .inl zI)), (q8, .inl (cI, 4, .inl zI)), (q9, .inl (cI, 160, .inl zI))]) C 1 102 rfl (vp_in_nI (n := 102) (by decide) (by decide)) (by decide) rfl dX4_init_138 ?_
  refine gy_iinc (v := 4) (lv2 := [(1, .int 4), (0, .ref h0)]) C dX4_init_139 (by rfl) (by decide) (by decide) rfl ?_
  refine gy_goto (tgt := 123) C dX4_init_142 (by decide) ?_
  refine gy_iload_n C dX4_init_123 (by rfl) (by rfl) ?_
  refine gy_bipush (v := 10) C dX4_init_124 (by decide) ?_
  refine gy_ge_f (tgt := 145) C dX4_init_126 (by decide) (by decide) ?_
  refine gy_aload_n C dX4_init_129 (by rfl) (by rfl) ?_
  refine gy_get (v := .ref q1) C ck4 0 0 rfl (by decide) fl_X4_9 rfl dX4_init_130 ?_
  refine gy_bipush (v := 99) C dX4_init_133 (by decide) ?_
  refine gy_iload_n C dX4_init_135 (by rfl) (by rfl) ?_
  refine gy_iadd (v := 103) C dX4_init_136 (by decide) ?_
  refine gy_iconst (v := (-1)) C dX4_init_137 (by decide) ?_
  refine gy_iast (ws2 := [(h0, .inr (4, [.ref q1, .ref q2, .ref q3, .ref q4, .int 0, .ref q5, .ref q6, .int 0, .int 0, .int 0, .int 0, .int 0, .int 0, .ref q7, .ref q8, .ref q9])), (q1, .inl (cI, 109, .inl (upd (upd (upd (upd (upd (upd (upd (upd (upd (upd (upd (upd (upd (upd (upd (upd zI 2 3) 3 50) 5 1) 7 3) 8 3) 9 3) 10 3) 11 3) 12 3) 13 3) 14 3) 99 (-1)) 100 (-1)) 101 (-1)) 102 (-1)) 103 (-1)))), (q2, .inl (cI, 109, .inl zI)), (q3, .inl (cI, 109, .inl zI)), (q4, .inl (cI, 109, .inl zI)), (q5, .inl (cI, 7, .inl zI)), (q6, .inl (cI, 120, .inl zI)), (q7, .inl (cI, 4, .inl zI)), (q8, .inl (cI, 4, .inl zI)), (q9, .inl (cI, 160, .inl zI))]) C 1 103 rfl (vp_in_nI (n := 103) (by decide) (by decide)) (by decide) rfl dX4_init_138 ?_
  refine gy_iinc (v := 5) (lv2 := [(1, .int 5), (0, .ref h0)]) C dX4_init_139 (by rfl) (by decide) (by decide) rfl ?_
  refine gy_goto (tgt := 123) C dX4_init_142 (by decide) ?_
  refine gy_iload_n C dX4_init_123 (by rfl) (by rfl) ?_
  refine gy_bipush (v := 10) C dX4_init_124 (by decide) ?_
  refine gy_ge_f (tgt := 145) C dX4_init_126 (by decide) (by decide) ?_
  refine gy_aload_n C dX4_init_129 (by rfl) (by rfl) ?_
  refine gy_get (v := .ref q1) C ck4 0 0 rfl (by decide) fl_X4_9 rfl dX4_init_130 ?_
  refine gy_bipush (v := 99) C dX4_init_133 (by decide) ?_
  refine gy_iload_n C dX4_init_135 (by rfl) (by rfl) ?_
  refine gy_iadd (v := 104) C dX4_init_136 (by decide) ?_
  refine gy_iconst (v := (-1)) C dX4_init_137 (by decide) ?_
  refine gy_iast (ws2 := [(h0, .inr (4, [.ref q1, .ref q2, .ref q3, .ref q4, .int 0, .ref q5, .ref q6, .int 0, .int 0, .int 0, .int 0, .int 0, .int 0, .ref q7, .ref q8, .ref q9])), (q1, .inl (cI, 109, .inl (upd (upd (upd (upd (upd (upd (upd (upd (upd (upd (upd (upd (upd (upd (upd (upd (upd zI 2 3) 3 50) 5 1) 7 3) 8 3) 9 3) 10 3) 11 3) 12 3) 13 3) 14 3) 99 (-1)) 100 (-1)) 101 (-1)) 102 (-1)) 103 (-1)) 104 (-1)))), (q2, .inl (cI, 109, .inl zI)), (q3, .inl (cI, 109, .inl zI)), (q4, .inl (cI, 109, .inl zI)), (q5, .inl (cI, 7, .inl zI)), (q6, .inl (cI, 120, .inl zI)), (q7, .inl (cI, 4, .inl zI)), (q8, .inl (cI, 4, .inl zI)), (q9, .inl (cI, 160, .inl zI))]) C 1 104 rfl (vp_in_nI (n := 104) (by decide) (by decide)) (by decide) rfl dX4_init_138 ?_
  refine gy_iinc (v := 6) (lv2 := [(1, .int 6), (0, .ref h0)]) C dX4_init_139 (by rfl) (by decide) (by decide) rfl ?_
  refine gy_goto (tgt := 123) C dX4_init_142 (by decide) ?_
  refine gy_iload_n C dX4_init_123 (by rfl) (by rfl) ?_
  refine gy_bipush (v := 10) C dX4_init_124 (by decide) ?_
  refine gy_ge_f (tgt := 145) C dX4_init_126 (by decide) (by decide) ?_
  refine gy_aload_n C dX4_init_129 (by rfl) (by rfl) ?_
  refine gy_get (v := .ref q1) C ck4 0 0 rfl (by decide) fl_X4_9 rfl dX4_init_130 ?_
  refine gy_bipush (v := 99) C dX4_init_133 (by decide) ?_
  refine gy_iload_n C dX4_init_135 (by rfl) (by rfl) ?_
  refine gy_iadd (v := 105) C dX4_init_136 (by decide) ?_
  refine gy_iconst (v := (-1)) C dX4_init_137 (by decide) ?_
  refine gy_iast (ws2 := [(h0, .inr (4, [.ref q1, .ref q2, .ref q3, .ref q4, .int 0, .ref q5, .ref q6, .int 0, .int 0, .int 0, .int 0, .int 0, .int 0, .ref q7, .ref q8, .ref q9])), (q1, .inl (cI, 109, .inl (upd (upd (upd (upd (upd (upd (upd (upd (upd (upd (upd (upd (upd (upd (upd (upd (upd (upd zI 2 3) 3 50) 5 1) 7 3) 8 3) 9 3) 10 3) 11 3) 12 3) 13 3) 14 3) 99 (-1)) 100 (-1)) 101 (-1)) 102 (-1)) 103 (-1)) 104 (-1)) 105 (-1)))), (q2, .inl (cI, 109, .inl zI)), (q3, .inl (cI, 109, .inl zI)), (q4, .inl (cI, 109, .inl zI)), (q5, .inl (cI, 7, .inl zI)), (q6, .inl (cI, 120, .inl zI)), (q7, .inl (cI, 4, .inl zI)), (q8, .inl (cI, 4, .inl zI)), (q9, .inl (cI, 160, .inl zI))]) C 1 105 rfl (vp_in_nI (n := 105) (by decide) (by decide)) (by decide) rfl dX4_init_138 ?_
  refine gy_iinc (v := 7) (lv2 := [(1, .int 7), (0, .ref h0)]) C dX4_init_139 (by rfl) (by decide) (by decide) rfl ?_
  refine gy_goto (tgt := 123) C dX4_init_142 (by decide) ?_
  refine gy_iload_n C dX4_init_123 (by rfl) (by rfl) ?_
  refine gy_bipush (v := 10) C dX4_init_124 (by decide) ?_
  refine gy_ge_f (tgt := 145) C dX4_init_126 (by decide) (by decide) ?_
  refine gy_aload_n C dX4_init_129 (by rfl) (by rfl) ?_
  refine gy_get (v := .ref q1) C ck4 0 0 rfl (by decide) fl_X4_9 rfl dX4_init_130 ?_
  refine gy_bipush (v := 99) C dX4_init_133 (by decide) ?_
  refine gy_iload_n C dX4_init_135 (by rfl) (by rfl) ?_
  refine gy_iadd (v := 106) C dX4_init_136 (by decide) ?_
  refine gy_iconst (v := (-1)) C dX4_init_137 (by decide) ?_
  refine gy_iast (ws2 := [(h0, .inr (4, [.ref q1, .ref q2, .ref q3, .ref q4, .int 0, .ref q5, .ref q6, .int 0, .int 0, .int 0, .int 0, .int 0, .int 0, .ref q7, .ref q8, .ref q9])), (q1, .inl (cI, 109, .inl (upd (upd (upd (upd (upd (upd (upd (upd (upd (upd (upd (upd (upd (upd (upd (upd (upd (upd (upd zI 2 3) 3 50) 5 1) 7 3) 8 3) 9 3) 10 3) 11 3) 12 3) 13 3) 14 3) 99 (-1)) 100 (-1)) 101 (-1)) 102 (-1)) 103 (-1)) 104 (-1)) 105 (-1)) 106 (-1)))), (q2, .inl (cI, 109, .inl zI)), (q3, .inl (cI, 109, .inl zI)), (q4, .inl (cI, 109, .inl zI)), (q5, .inl (cI, 7, .inl zI)), (q6, .inl (cI, 120, .inl zI)), (q7, .inl (cI, 4, .inl zI)), (q8, .inl (cI, 4, .inl zI)), (q9, .inl (cI, 160, .inl zI))]) C 1 106 rfl (vp_in_nI (n := 106) (by decide) (by decide)) (by decide) rfl dX4_init_138 ?_
  refine gy_iinc (v := 8) (lv2 := [(1, .int 8), (0, .ref h0)]) C dX4_init_139 (by rfl) (by decide) (by decide) rfl ?_
  refine gy_goto (tgt := 123) C dX4_init_142 (by decide) ?_
  refine gy_iload_n C dX4_init_123 (by rfl) (by rfl) ?_
  refine gy_bipush (v := 10) C dX4_init_124 (by decide) ?_
  refine gy_ge_f (tgt := 145) C dX4_init_126 (by decide) (by decide) ?_
  refine gy_aload_n C dX4_init_129 (by rfl) (by rfl) ?_
  refine gy_get (v := .ref q1) C ck4 0 0 rfl (by decide) fl_X4_9 rfl dX4_init_130 ?_
  refine gy_bipush (v := 99) C dX4_init_133 (by decide) ?_
  refine gy_iload_n C dX4_init_135 (by rfl) (by rfl) ?_
  refine gy_iadd (v := 107) C dX4_init_136 (by decide) ?_
  refine gy_iconst (v := (-1)) C dX4_init_137 (by decide) ?_
  refine gy_iast (ws2 := [(h0, .inr (4, [.ref q1, .ref q2, .ref q3, .ref q4, .int 0, .ref q5, .ref q6, .int 0, .int 0, .int 0, .int 0, .int 0, .int 0, .ref q7, .ref q8, .ref q9])), (q1, .inl (cI, 109, .inl (upd (upd (upd (upd (upd (upd (upd (upd (upd (upd (upd (upd (upd (upd (upd (upd (upd (upd (upd (upd zI 2 3) 3 50) 5 1) 7 3) 8 3) 9 3) 10 3) 11 3) 12 3) 13 3) 14 3) 99 (-1)) 100 (-1)) 101 (-1)) 102 (-1)) 103 (-1)) 104 (-1)) 105 (-1)) 106 (-1)) 107 (-1)))), (q2, .inl (cI, 109, .inl zI)), (q3, .inl (cI, 109, .inl zI)), (q4, .inl (cI, 109, .inl zI)), (q5, .inl (cI, 7, .inl zI)), (q6, .inl (cI, 120, .inl zI)), (q7, .inl (cI, 4, .inl zI)), (q8, .inl (cI, 4, .inl zI)), (q9, .inl (cI, 160, .inl zI))]) C 1 107 rfl (vp_in_nI (n := 107) (by decide) (by decide)) (by decide) rfl dX4_init_138 ?_
  refine gy_iinc (v := 9) (lv2 := [(1, .int 9), (0, .ref h0)]) C dX4_init_139 (by rfl) (by decide) (by decide) rfl ?_
  refine gy_goto (tgt := 123) C dX4_init_142 (by decide) ?_
  refine gy_iload_n C dX4_init_123 (by rfl) (by rfl) ?_
  refine gy_bipush (v := 10) C dX4_init_124 (by decide) ?_
  refine gy_ge_f (tgt := 145) C dX4_init_126 (by decide) (by decide) ?_
  refine gy_aload_n C dX4_init_129 (by rfl) (by rfl) ?_
  refine gy_get (v := .ref q1) C ck4 0 0 rfl (by decide) fl_X4_9 rfl dX4_init_130 ?_
  refine gy_bipush (v := 99) C dX4_init_133 (by decide) ?_
  refine gy_iload_n C dX4_init_135 (by rfl) (by rfl) ?_
  refine gy_iadd (v := 108) C dX4_init_136 (by decide) ?_
  refine gy_iconst (v := (-1)) C dX4_init_137 (by decide) ?_
  refine gy_iast (ws2 := [(h0, .inr (4, [.ref q1, .ref q2, .ref q3, .ref q4, .int 0, .ref q5, .ref q6, .int 0, .int 0, .int 0, .int 0, .int 0, .int 0, .ref q7, .ref q8, .ref q9])), (q1, .inl (cI, 109, .inl (upd (upd (upd (upd (upd (upd (upd (upd (upd (upd (upd (upd (upd (upd (upd (upd (upd (upd (upd (upd (upd zI 2 3) 3 50) 5 1) 7 3) 8 3) 9 3) 10 3) 11 3) 12 3) 13 3) 14 3) 99 (-1)) 100 (-1)) 101 (-1)) 102 (-1)) 103 (-1)) 104 (-1)) 105 (-1)) 106 (-1)) 107 (-1)) 108 (-1)))), (q2, .inl (cI, 109, .inl zI)), (q3, .inl (cI, 109, .inl zI)), (q4, .inl (cI, 109, .inl zI)), (q5, .inl (cI, 7, .inl zI)), (q6, .inl (cI, 120, .inl zI)), (q7, .inl (cI, 4, .inl zI)), (q8, .inl (cI, 4, .inl zI)), (q9, .inl (cI, 160, .inl zI))]) C 1 108 rfl (vp_in_nI (n := 108) (by decide) (by decide)) (by decide) rfl dX4_init_138 ?_
  refine gy_iinc (v := 10) (lv2 := [(1, .int 10), (0, .ref h0)]) C dX4_init_139 (by rfl) (by decide) (by decide) rfl ?_
  refine gy_goto (tgt := 123) C dX4_init_142 (by decide) ?_
  refine gy_iload_n C dX4_init_123 (by rfl) (by rfl) ?_
  refine gy_bipush (v := 10) C dX4_init_124 (by decide) ?_
  refine gy_ge_t (tgt := 145) C dX4_init_126 (by decide) (by decide) ?_
  exact gy_vret C (fun i => ([h0, q1, q2, q3, q4, q5, q6, q7, q8, q9] : List Nat).getD i 0) rfl hr hlk (fun H hP hD => ⟨hP, hD⟩) dX4_init_145
