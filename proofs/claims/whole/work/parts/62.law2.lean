theorem lw_gt {i Ln : Nat} (hi : i ≤ 390) (hL : Ln ≤ 384) : nI Ln - 6 < nI i ↔ ¬ i + 6 ≤ Ln := by
  have e1 : (nI Ln - 6).toInt = (Ln : Int) - 6 := pk_sub_toInt (a := Ln) (b := 6) (by omega) (by omega)
  rw [Int32.lt_iff_toInt_lt, e1, nI_toInt (by omega)]
  omega
set_option maxHeartbeats 4000000 in
set_option maxRecDepth 100000 in
theorem lw_loop {E : En} {p : Program} {e : Env} {s : State} {m : MethodId} {below : List Frame} {meth : Method} {c : Code} {Q : State → Prop} {b Ln : Nat} {xs : Nat → Int32} (C : LwC E p s m c b Ln xs) (hend : ∀ (i : Nat) (σ : Mm), GlL E p e s m b below meth c Q 1492 i [] σ) : ∀ (f i : Nat) (σ : Mm) (A : As), 400 ≤ i + f → i ≤ 390 → CR σ A → MR σ A → GlL E p e s m b below meth c Q 18 i [] σ := by
  intro f
  induction f with
  | zero => intro i σ A h1 h2; omega
  | succ f ih =>
    intro i σ A h1 h2 hC hM
    have hL := C.2.2.2.2
    refine gl_iload_n C.1 dL_law_18 (by rfl) (by rfl) ?_
    refine gl_aload_n C.1 dL_law_19 (by rfl) (by rfl) ?_
    refine gl_slen C.1 C.2.1 C.2.2.1 C.2.2.2.1 dL_law_20 ?_
    refine gl_bipush (v := 6) C.1 dL_law_21 (by decide) ?_
    refine gl_isub C.1 dL_law_23 ?_
    refine gl_icmp_gt (tgt := 1492) C.1 dL_law_24 (by decide) (fun _ => hend i σ) (fun h => ?_)
    have hi : i + 6 ≤ Ln := Classical.byContradiction (fun q => h ((lw_gt h2 hL).mpr q))
    have kk : ∀ (σ' : Mm) (A' : As), CR σ' A' → MR σ' A' → GlL E p e s m b below meth c Q 1486 i [] σ' := fun σ' A' hC' hM' => by
      refine gl_iinc (v := nI (i + 6)) (lv2 := [(3, .int (nI (i + 6))), (0, .ref b), (1, .ref (eA E 0)), (2, .ref (eA E 49))]) C.1 dL_law_1486 (by rfl) (nI_add i 6) (by decide) rfl ?_
      refine gl_goto (tgt := 18) C.1 dL_law_1489 (by decide) ?_
      refine gl_sub [1, 2, 3, 0] (lv' := lvL E b (i + 6)) rfl ?_
      exact ih (i + 6) σ' A' (by omega) (by omega) hC' hM'
    refine gl_aload_n C.1 dL_law_27 (by rfl) (by rfl) ?_
    refine gl_iload_n C.1 dL_law_28 (by rfl) (by rfl) ?_
    refine gl_sld C.1 C.2.1 C.2.2.1 C.2.2.2.1 (show i < Ln by omega) (by omega) dL_law_29 ?_
    refine gl_bipush (v := 63) C.1 dL_law_30 (by decide) ?_
    refine gl_iand C.1 dL_law_32 ?_
    rcases sw_split (xs i &&& 63) 0 43 44 (by decide) with h9 | ⟨j, hj, ej⟩
    · exact gl_tabOut (tgt := 1486) C.1 dL_law_33 h9 (by decide) (kk σ A hC hM)
    · match j, hj, ej with
      | 0, _, ej => exact gl_tabIn (off := 191) (tgt := 224) C.1 dL_law_33 (by rw [ej]; decide) (by rw [ej]; decide) (by rw [ej]; decide) (by decide) (lc_0 C hi hC hM kk)
      | 1, _, ej => exact gl_tabIn (off := 224) (tgt := 257) C.1 dL_law_33 (by rw [ej]; decide) (by rw [ej]; decide) (by rw [ej]; decide) (by decide) (lc_1 C hi hC hM kk)
      | 2, _, ej => exact gl_tabIn (off := 257) (tgt := 290) C.1 dL_law_33 (by rw [ej]; decide) (by rw [ej]; decide) (by rw [ej]; decide) (by decide) (lc_2 C hi hC hM kk)
      | 3, _, ej => exact gl_tabIn (off := 290) (tgt := 323) C.1 dL_law_33 (by rw [ej]; decide) (by rw [ej]; decide) (by rw [ej]; decide) (by decide) (lc_3 C hi hC hM kk)
      | 4, _, ej => exact gl_tabIn (off := 323) (tgt := 356) C.1 dL_law_33 (by rw [ej]; decide) (by rw [ej]; decide) (by rw [ej]; decide) (by decide) (lc_4 C hi hC hM kk)
      | 5, _, ej => exact gl_tabIn (off := 356) (tgt := 389) C.1 dL_law_33 (by rw [ej]; decide) (by rw [ej]; decide) (by rw [ej]; decide) (by decide) (lc_5 C hi hC hM kk)
      | 6, _, ej => exact gl_tabIn (off := 399) (tgt := 432) C.1 dL_law_33 (by rw [ej]; decide) (by rw [ej]; decide) (by rw [ej]; decide) (by decide) (lc_6 C hi hC hM kk)
      | 7, _, ej => exact gl_tabIn (off := 432) (tgt := 465) C.1 dL_law_33 (by rw [ej]; decide) (by rw [ej]; decide) (by rw [ej]; decide) (by decide) (lc_7 C hi hC hM kk)
      | 8, _, ej => exact gl_tabIn (off := 465) (tgt := 498) C.1 dL_law_33 (by rw [ej]; decide) (by rw [ej]; decide) (by rw [ej]; decide) (by decide) (lc_8 C hi hC hM kk)
      | 9, _, ej => exact gl_tabIn (off := 498) (tgt := 531) C.1 dL_law_33 (by rw [ej]; decide) (by rw [ej]; decide) (by rw [ej]; decide) (by decide) (lc_9 C hi hC hM kk)
      | 10, _, ej => exact gl_tabIn (off := 531) (tgt := 564) C.1 dL_law_33 (by rw [ej]; decide) (by rw [ej]; decide) (by rw [ej]; decide) (by decide) (lc_10 C hi hC hM kk)
      | 11, _, ej => exact gl_tabIn (off := 564) (tgt := 597) C.1 dL_law_33 (by rw [ej]; decide) (by rw [ej]; decide) (by rw [ej]; decide) (by decide) (lc_11 C hi hC hM kk)
      | 12, _, ej => exact gl_tabIn (off := 587) (tgt := 620) C.1 dL_law_33 (by rw [ej]; decide) (by rw [ej]; decide) (by rw [ej]; decide) (by decide) (lc_12 C hi hC hM kk)
      | 13, _, ej => exact gl_tabIn (off := 610) (tgt := 643) C.1 dL_law_33 (by rw [ej]; decide) (by rw [ej]; decide) (by rw [ej]; decide) (by decide) (lc_13 C hi hC hM kk)
      | 14, _, ej => exact gl_tabIn (off := 623) (tgt := 656) C.1 dL_law_33 (by rw [ej]; decide) (by rw [ej]; decide) (by rw [ej]; decide) (by decide) (lc_14 C hi hC hM kk)
      | 15, _, ej => exact gl_tabIn (off := 646) (tgt := 679) C.1 dL_law_33 (by rw [ej]; decide) (by rw [ej]; decide) (by rw [ej]; decide) (by decide) (lc_15 C hi hC hM kk)
      | 16, _, ej => exact gl_tabIn (off := 669) (tgt := 702) C.1 dL_law_33 (by rw [ej]; decide) (by rw [ej]; decide) (by rw [ej]; decide) (by decide) (lc_16 C hi hC hM kk)
      | 17, _, ej => exact gl_tabIn (off := 702) (tgt := 735) C.1 dL_law_33 (by rw [ej]; decide) (by rw [ej]; decide) (by rw [ej]; decide) (by decide) (lc_17 C hi hC hM kk)
      | 18, _, ej => exact gl_tabIn (off := 725) (tgt := 758) C.1 dL_law_33 (by rw [ej]; decide) (by rw [ej]; decide) (by rw [ej]; decide) (by decide) (lc_18 C hi hC hM kk)
      | 19, _, ej => exact gl_tabIn (off := 758) (tgt := 791) C.1 dL_law_33 (by rw [ej]; decide) (by rw [ej]; decide) (by rw [ej]; decide) (by decide) (lc_19 C hi hC hM kk)
      | 20, _, ej => exact gl_tabIn (off := 801) (tgt := 834) C.1 dL_law_33 (by rw [ej]; decide) (by rw [ej]; decide) (by rw [ej]; decide) (by decide) (lc_20 C hi hC hM kk)
      | 21, _, ej => exact gl_tabIn (off := 834) (tgt := 867) C.1 dL_law_33 (by rw [ej]; decide) (by rw [ej]; decide) (by rw [ej]; decide) (by decide) (lc_21 C hi hC hM kk)
      | 22, _, ej => exact gl_tabIn (off := 867) (tgt := 900) C.1 dL_law_33 (by rw [ej]; decide) (by rw [ej]; decide) (by rw [ej]; decide) (by decide) (lc_22 C hi hC hM kk)
      | 23, _, ej => exact gl_tabIn (off := 890) (tgt := 923) C.1 dL_law_33 (by rw [ej]; decide) (by rw [ej]; decide) (by rw [ej]; decide) (by decide) (lc_23 C hi hC hM kk)
      | 24, _, ej => exact gl_tabIn (off := 923) (tgt := 956) C.1 dL_law_33 (by rw [ej]; decide) (by rw [ej]; decide) (by rw [ej]; decide) (by decide) (lc_24 C hi hC hM kk)
      | 25, _, ej => exact gl_tabIn (off := 956) (tgt := 989) C.1 dL_law_33 (by rw [ej]; decide) (by rw [ej]; decide) (by rw [ej]; decide) (by decide) (lc_25 C hi hC hM kk)
      | 26, _, ej => exact gl_tabIn (off := 989) (tgt := 1022) C.1 dL_law_33 (by rw [ej]; decide) (by rw [ej]; decide) (by rw [ej]; decide) (by decide) (lc_26 C hi hC hM kk)
      | 27, _, ej => exact gl_tabIn (off := 1002) (tgt := 1035) C.1 dL_law_33 (by rw [ej]; decide) (by rw [ej]; decide) (by rw [ej]; decide) (by decide) (lc_27 C hi hC hM kk)
      | 28, _, ej => exact gl_tabIn (off := 1025) (tgt := 1058) C.1 dL_law_33 (by rw [ej]; decide) (by rw [ej]; decide) (by rw [ej]; decide) (by decide) (lc_28 C hi hC hM kk)
      | 29, _, ej => exact gl_tabIn (off := 1048) (tgt := 1081) C.1 dL_law_33 (by rw [ej]; decide) (by rw [ej]; decide) (by rw [ej]; decide) (by decide) (lc_29 C hi hC hM kk)
      | 30, _, ej => exact gl_tabIn (off := 1081) (tgt := 1114) C.1 dL_law_33 (by rw [ej]; decide) (by rw [ej]; decide) (by rw [ej]; decide) (by decide) (lc_30 C hi hC hM kk)
      | 31, _, ej => exact gl_tabIn (off := 1094) (tgt := 1127) C.1 dL_law_33 (by rw [ej]; decide) (by rw [ej]; decide) (by rw [ej]; decide) (by decide) (lc_31 C hi hC hM kk)
      | 32, _, ej => exact gl_tabIn (off := 1107) (tgt := 1140) C.1 dL_law_33 (by rw [ej]; decide) (by rw [ej]; decide) (by rw [ej]; decide) (by decide) (lc_32 C hi hC hM kk)
      | 33, _, ej => exact gl_tabIn (off := 1140) (tgt := 1173) C.1 dL_law_33 (by rw [ej]; decide) (by rw [ej]; decide) (by rw [ej]; decide) (by decide) (lc_33 C hi hC hM kk)
      | 34, _, ej => exact gl_tabIn (off := 1173) (tgt := 1206) C.1 dL_law_33 (by rw [ej]; decide) (by rw [ej]; decide) (by rw [ej]; decide) (by decide) (lc_34 C hi hC hM kk)
      | 35, _, ej => exact gl_tabIn (off := 1216) (tgt := 1249) C.1 dL_law_33 (by rw [ej]; decide) (by rw [ej]; decide) (by rw [ej]; decide) (by decide) (lc_35 C hi hC hM kk)
      | 36, _, ej => exact gl_tabIn (off := 1259) (tgt := 1292) C.1 dL_law_33 (by rw [ej]; decide) (by rw [ej]; decide) (by rw [ej]; decide) (by decide) (lc_36 C hi hC hM kk)
      | 37, _, ej => exact gl_tabIn (off := 1322) (tgt := 1355) C.1 dL_law_33 (by rw [ej]; decide) (by rw [ej]; decide) (by rw [ej]; decide) (by decide) (lc_37 C hi hC hM kk)
      | 38, _, ej => exact gl_tabIn (off := 1345) (tgt := 1378) C.1 dL_law_33 (by rw [ej]; decide) (by rw [ej]; decide) (by rw [ej]; decide) (by decide) (lc_38 C hi hC hM kk)
      | 39, _, ej => exact gl_tabIn (off := 1368) (tgt := 1401) C.1 dL_law_33 (by rw [ej]; decide) (by rw [ej]; decide) (by rw [ej]; decide) (by decide) (lc_39 C hi hC hM kk)
      | 40, _, ej => exact gl_tabIn (off := 1381) (tgt := 1414) C.1 dL_law_33 (by rw [ej]; decide) (by rw [ej]; decide) (by rw [ej]; decide) (by decide) (lc_40 C hi hC hM kk)
      | 41, _, ej => exact gl_tabIn (off := 1394) (tgt := 1427) C.1 dL_law_33 (by rw [ej]; decide) (by rw [ej]; decide) (by rw [ej]; decide) (by decide) (lc_41 C hi hC hM kk)
      | 42, _, ej => exact gl_tabIn (off := 1407) (tgt := 1440) C.1 dL_law_33 (by rw [ej]; decide) (by rw [ej]; decide) (by rw [ej]; decide) (by decide) (lc_42 C hi hC hM kk)
      | 43, _, ej => exact gl_tabIn (off := 1430) (tgt := 1463) C.1 dL_law_33 (by rw [ej]; decide) (by rw [ej]; decide) (by rw [ej]; decide) (by decide) (lc_43 C hi hC hM kk)
      | j + 44, h, _ => exact absurd h (by omega)
