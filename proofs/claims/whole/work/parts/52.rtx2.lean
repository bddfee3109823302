section GX5
variable {E : En} {p : Program} {e : Env} {R : Room} {s : State} {m : MethodId} {args : Array Value} {below : List Frame} {meth : Method} {c : Code} {Q : State → Prop} {nL pc : Nat} {lv : List (Nat × Value)} {st : List Value} {σ : Mm} {cc : ByteArray} {own : String} {w0 : Cond}
theorem xs_ldcw {l : Launch} {T : State} {locs : List Loc} {cells slots : Nat} (X : Stand p l e R s m args below meth c T locs cells slots) (hexec : p.tables.exec = Jvm.exec) {text : String} {index : Nat} {a : Addr} (hown : s.vm.findClass own = some m.cls) (hconst : (Cond.stringRef own index text).before args s = true) (hev : (Term.string own index).eval args s none [] s = some (.ref a)) {g : JFrame} (hg : g.method = m) (hdg : decode c.code g.pc = .ok (.ldc_w index, 3)) :
    ∀ target, Steps p.tables e below (T.setTop { g with pc := g.pc + 3, stack := .ref a :: g.stack }) target → Steps p.tables e below (T.setTop g) target := by
  obtain ⟨k, cf, i, a', hk, hcf, hcp, -, hr, hev'⟩ := Cond.stringRef_spec hown hconst
  cases hev.symm.trans hev'
  obtain ⟨k', hk', he⟩ := X.warmed.alike.2.2 _ _ hk
  have hr' : k'.resolved[index]? = some (some (.string a)) := by
    rcases X.warmed.entry hk hk' index with h | ⟨h, -⟩
    · rw [h]; exact hr
    · rw [hr] at h; cases h
  intro target hrest
  subst hg
  jvm_step X.here [hexec, hdg, ldc_w.wp_string (e := e) (s := T) (f := g) X.here.top hk' (by rw [he]; exact hcf) hcp hr']
  exact hrest
theorem gx_ldcwS (q : Nat) (C : Cx E p s m args c cc own nL w0) {index : Nat} {tx : String} (hq : jOwn[q]? = some (own, index, tx)) (d : decode cc pc = .ok (.ldc_w index, 3)) (k : Gx E p e R s m args below meth c Q nL (pc + 3) lv (.ref (eZ E (100 + q)) :: st) σ) : Gx E p e R s m args below meth c Q nL pc lv (st) σ := fun H locs ls hP hS hl => by
  intro T hT X
  obtain ⟨t, a1, b1⟩ := (k H locs ls hP hS hl) T hT X
  have hZ := C.2.2.2.2.2.2.2.2.2.2.2.2.2.1 q _ hq
  exact ⟨t, xs_ldcw X C.1 C.2.2.2.1 (text := tx) (a := eZ E (100 + q)) hZ.1 hZ.2 (g := F0 m pc ls st) rfl (by rw [C.2.1]; exact d) t a1, b1⟩
end GX5
set_option maxHeartbeats 4000000 in
set_option maxRecDepth 100000 in
theorem c_X4_takes (E : En) (σ : Mm) (B : Nat → Int32) (t : Nat) (hP : Mp σ B t) (i : Nat) (hi : i ≤ t) (q q' : Nat) (hq : q' < 34) (hqq : jByt.getD q' [] = jByt.getD q []) : CtI E yX4_takes cX4_takes 2 (some .boolean) 5 108 [.ref (eA E 49), .ref (eZ E (100 + q'))] (mq σ B t i 0) (fun rr σ2 => (qW B t i q = true → rr = 1 ∧ σ2 = mq σ B t (qE B t i) 0) ∧ (¬ qW B t i q = true → rr = 0 ∧ σ2 = mq σ B t i 0)) := by
  have ht := hP.2.1
  refine CtI.of (by decide +kernel) (Nat.le_of_ble_eq_true rfl) (fun p e0 s m below meth c C hr hlk => ?_)
  refine gx_lv (lv' := [(0, .ref (eA E 49)), (1, .ref (eZ E (100 + q')))]) rfl ?_
  refine gx_aload_n C dX4_takes_0 (by rfl) (by rfl) ?_
  refine gx_aload_n C dX4_takes_1 (by rfl) (by rfl) ?_
  refine gx_callVI (As := [.ref (eZ E (100 + q'))]) (rest := []) C (c_X4_isWord E σ B t hP i hi q' hq) z_X4_isWord ck4 (by rfl) (by rfl) ml_X4_231 (by rfl) (Nat.le_of_ble_eq_true rfl) ⟨Nat.le_of_ble_eq_true rfl, Nat.le_of_ble_eq_true rfl⟩ dX4_takes_2 (fun r1 σ1 w1 => ?_)
  obtain ⟨u1, u2⟩ := w1; rw [u1, u2]; clear u1 u2
  refine gx_st (st' := [.int (b2 (qW B t i q = true))]) (by rw [show b2 (qW B t i q' = true) = b2 (qW B t i q = true) from by rw [qW_eq hqq]]) ?_
  refine gx_if_ne (tgt := 10) C dX4_takes_5 (by decide) (fun h2 => ?_) (fun h2 => ?_)
  ·
    have h2 := b2_nz.mp h2
    refine gx_aload_n C dX4_takes_10 (by rfl) (by rfl) ?_
    refine gx_callVV (As := []) (rest := []) C (c_X4_token2 E σ B t hP i hi 0) z_X4_token ck4 (by rfl) (by rfl) ml_X4_235 (by rfl) (Nat.le_of_ble_eq_true rfl) ⟨Nat.le_of_ble_eq_true rfl, Nat.le_of_ble_eq_true rfl⟩ dX4_takes_11 (fun σ3 w3 => ?_)
    rw [w3]; clear w3
    refine gx_iconst (v := 1) C dX4_takes_14 (by decide) ?_
    exact gx_iret C hr hlk (by first | rfl | exact nb_b2 _) ⟨fun q9 => by first | exact ⟨rfl, rfl⟩ | exact absurd q9 (by assumption), fun q9 => by first | exact ⟨rfl, rfl⟩ | exact absurd (by assumption) q9⟩ dX4_takes_15
  ·
    have h2 := b2_z.mp h2
    refine gx_iconst (v := 0) C dX4_takes_8 (by decide) ?_
    exact gx_iret C hr hlk (by first | rfl | exact nb_b2 _) ⟨fun q9 => by first | exact ⟨rfl, rfl⟩ | exact absurd q9 (by assumption), fun q9 => by first | exact ⟨rfl, rfl⟩ | exact absurd (by assumption) q9⟩ dX4_takes_9
set_option maxHeartbeats 4000000 in
set_option maxRecDepth 100000 in
theorem c_X4_takes_b (E : En) (σ : Mm) (B : Nat → Int32) (t : Nat) (hP : Mp σ B t) (i : Nat) (hi : i ≤ t) (q q' : Nat) (hq : q' < 34) (hqq : jByt.getD q' [] = jByt.getD q []) : CtI E yX4_takes cX4_takes 2 (some .boolean) 5 108 [.ref (eA E 49), .ref (eZ E (100 + q'))] (mq σ B t i 1) (fun rr σ2 => σ2 = mq σ B t i 1 ∧ rr = 0) := by
  have ht := hP.2.1
  refine CtI.of (by decide +kernel) (Nat.le_of_ble_eq_true rfl) (fun p e0 s m below meth c C hr hlk => ?_)
  refine gx_lv (lv' := [(0, .ref (eA E 49)), (1, .ref (eZ E (100 + q')))]) rfl ?_
  refine gx_aload_n C dX4_takes_0 (by rfl) (by rfl) ?_
  refine gx_aload_n C dX4_takes_1 (by rfl) (by rfl) ?_
  refine gx_callVI (As := [.ref (eZ E (100 + q'))]) (rest := []) C (c_X4_isWord_b E σ B t hP i hi q' hq) z_X4_isWord ck4 (by rfl) (by rfl) ml_X4_231 (by rfl) (Nat.le_of_ble_eq_true rfl) ⟨Nat.le_of_ble_eq_true rfl, Nat.le_of_ble_eq_true rfl⟩ dX4_takes_2 (fun r1 σ1 w1 => ?_)
  obtain ⟨u1, u2⟩ := w1; rw [u1, u2]; clear u1 u2
  refine gx_if_ne (tgt := 10) C dX4_takes_5 (by decide) (fun h2 => ?_) (fun h2 => ?_)
  ·
    exact absurd h2 (by decide)
  ·
    clear h2
    refine gx_iconst (v := 0) C dX4_takes_8 (by decide) ?_
    exact gx_iret C hr hlk (by first | rfl | exact nb_b2 _) ⟨rfl, rfl⟩ dX4_takes_9
set_option maxHeartbeats 4000000 in
set_option maxRecDepth 100000 in
theorem c_X4_word (E : En) (σ : Mm) (B : Nat → Int32) (t : Nat) (hP : Mp σ B t) (i : Nat) (hi : i ≤ t) (q q' : Nat) (hq : q' < 34) (hqq : jByt.getD q' [] = jByt.getD q []) : CtV E yX4_word cX4_word 2 none 6 129 [.ref (eA E 49), .ref (eZ E (100 + q'))] (mq σ B t i 0) (fun σ2 => (qW B t i q = true → σ2 = mq σ B t (qE B t i) 0) ∧ (¬ qW B t i q = true → σ2 = mq σ B t i 1)) := by
  have ht := hP.2.1
  refine CtV.of (by decide +kernel) (Nat.le_of_ble_eq_true rfl) (fun p e0 s m below meth c C hr hlk => ?_)
  refine gx_lv (lv' := [(0, .ref (eA E 49)), (1, .ref (eZ E (100 + q')))]) rfl ?_
  refine gx_aload_n C dX4_word_0 (by rfl) (by rfl) ?_
  refine gx_aload_n C dX4_word_1 (by rfl) (by rfl) ?_
  refine gx_geti (k := 12) C ck4 (by rfl) (by rfl) (by decide) fl_X4_218 dX4_word_2 ?_
  refine gx_st (st' := [.int 0, .ref (eA E 49)]) (by rw [mq_12]) ?_
  refine gx_if_ne (tgt := 16) C dX4_word_5 (by decide) (fun h1 => ?_) (fun h1 => ?_)
  ·
    exact absurd h1 (by decide)
  ·
    clear h1
    refine gx_aload_n C dX4_word_8 (by rfl) (by rfl) ?_
    refine gx_aload_n C dX4_word_9 (by rfl) (by rfl) ?_
    refine gx_callVI (As := [.ref (eZ E (100 + q'))]) (rest := [.ref (eA E 49)]) C (c_X4_takes E σ B t hP i hi q q' hq hqq) z_X4_takes ck4 (by rfl) (by rfl) ml_X4_238 (by rfl) (Nat.le_of_ble_eq_true rfl) ⟨Nat.le_of_ble_eq_true rfl, Nat.le_of_ble_eq_true rfl⟩ dX4_word_10 (fun r2 σ2 w2 => ?_)
    by_cases hc2 : qW B t i q = true
    ·
      obtain ⟨rfl, rfl⟩ := w2.1 hc2
      refine gx_if_ne (tgt := 20) C dX4_word_13 (by decide) (fun h3 => ?_) (fun h3 => ?_)
      ·
        clear h3
        refine gx_iconst (v := 0) C dX4_word_20 (by decide) ?_
        refine gx_puti (k := 12) C ck4 (by rfl) (by rfl) (by decide) (by rfl) (by first | rfl | exact nb_b2 _) (by first | rfl | exact fb_b2 _) fl_X4_218 dX4_word_21 ?_
        refine gx_mm (σ' := mq σ B t (qE B t i) 0) mq_w12 ?_
        exact gx_vret C hr hlk ⟨fun q9 => by first | rfl | exact absurd q9 (by assumption), fun q9 => by first | rfl | exact absurd (by assumption) q9⟩ dX4_word_24
      ·
        exact absurd h3 (by decide)
    ·
      obtain ⟨rfl, rfl⟩ := w2.2 hc2
      refine gx_if_ne (tgt := 20) C dX4_word_13 (by decide) (fun h4 => ?_) (fun h4 => ?_)
      ·
        exact absurd h4 (by decide)
      ·
        clear h4
        refine gx_iconst (v := 1) C dX4_word_16 (by decide) ?_
        refine gx_goto (tgt := 21) C dX4_word_17 (by decide) ?_
        refine gx_puti (k := 12) C ck4 (by rfl) (by rfl) (by decide) (by rfl) (by first | rfl | exact nb_b2 _) (by first | rfl | exact fb_b2 _) fl_X4_218 dX4_word_21 ?_
        refine gx_mm (σ' := mq σ B t i 1) mq_w12 ?_
        exact gx_vret C hr hlk ⟨fun q9 => by first | rfl | exact absurd q9 (by assumption), fun q9 => by first | rfl | exact absurd (by assumption) q9⟩ dX4_word_24
set_option maxHeartbeats 4000000 in
set_option maxRecDepth 100000 in
theorem c_X4_word_b (E : En) (σ : Mm) (B : Nat → Int32) (t : Nat) (hP : Mp σ B t) (i : Nat) (hi : i ≤ t) (q q' : Nat) (hq : q' < 34) (hqq : jByt.getD q' [] = jByt.getD q []) : CtV E yX4_word cX4_word 2 none 0 0 [.ref (eA E 49), .ref (eZ E (100 + q'))] (mq σ B t i 1) (fun σ2 => σ2 = mq σ B t i 1) := by
  have ht := hP.2.1
  refine CtV.of (by decide +kernel) (Nat.le_of_ble_eq_true rfl) (fun p e0 s m below meth c C hr hlk => ?_)
  refine gx_lv (lv' := [(0, .ref (eA E 49)), (1, .ref (eZ E (100 + q')))]) rfl ?_
  refine gx_aload_n C dX4_word_0 (by rfl) (by rfl) ?_
  refine gx_aload_n C dX4_word_1 (by rfl) (by rfl) ?_
  refine gx_geti (k := 12) C ck4 (by rfl) (by rfl) (by decide) fl_X4_218 dX4_word_2 ?_
  refine gx_st (st' := [.int 1, .ref (eA E 49)]) (by rw [mq_12]) ?_
  refine gx_if_ne (tgt := 16) C dX4_word_5 (by decide) (fun h1 => ?_) (fun h1 => ?_)
  ·
    clear h1
    refine gx_iconst (v := 1) C dX4_word_16 (by decide) ?_
    refine gx_goto (tgt := 21) C dX4_word_17 (by decide) ?_
    refine gx_puti (k := 12) C ck4 (by rfl) (by rfl) (by decide) (by rfl) (by first | rfl | exact nb_b2 _) (by first | rfl | exact fb_b2 _) fl_X4_218 dX4_word_21 ?_
    refine gx_mm (σ' := mq σ B t i 1) mq_w12 ?_
    exact gx_vret C hr hlk rfl dX4_word_24
  ·
    exact absurd h1 (by decide)
set_option maxHeartbeats 4000000 in
set_option maxRecDepth 100000 in
theorem c_X4_isSign (E : En) (σ : Mm) (B : Nat → Int32) (t : Nat) (hP : Mp σ B t) (i : Nat) (hi : i ≤ t) : CtI E yX4_isSign cX4_isSign 2 (some .boolean) 0 0 [.ref (eA E 49), .int 59] (mq σ B t i 0) (fun rr σ2 => σ2 = mq σ B t i 0 ∧ rr = b2 (qK B t i = 3)) := by
  have ht := hP.2.1
  have h3 := q3_c B t i
  have hsl := qS_le (B := B) hi
  have hk0 : qK B t i = 3 ∨ qK B t i = 4 → qS B t i < t := fun q9 => qk_lt (B := B) (show ¬ qK B t i = 0 by omega)
  refine CtI.of (by decide +kernel) (Nat.le_of_ble_eq_true rfl) (fun p e0 s m below meth c C hr hlk => ?_)
  refine gx_lv (lv' := [(0, .ref (eA E 49)), (1, .int 59)]) rfl ?_
  refine gx_aload_n C dX4_isSign_0 (by rfl) (by rfl) ?_
  refine gx_geti (k := 12) C ck4 (by rfl) (by rfl) (by decide) fl_X4_218 dX4_isSign_1 ?_
  refine gx_st (st' := [.int 0]) (by rw [mq_12]) ?_
  refine gx_if_ne (tgt := 32) C dX4_isSign_4 (by decide) (fun h1 => ?_) (fun h1 => ?_)
  ·
    exact absurd h1 (by decide)
  ·
    clear h1
    refine gx_aload_n C dX4_isSign_7 (by rfl) (by rfl) ?_
    refine gx_geti (k := 8) C ck4 (by rfl) (by rfl) (by decide) fl_X4_215 dX4_isSign_8 ?_
    refine gx_st (st' := [.int (nI (q3 B t i))]) (by rw [mq_8]) ?_
    refine gx_iconst (v := 3) C dX4_isSign_11 (by decide) ?_
    refine gx_icmp_ne (tgt := 32) C dX4_isSign_12 (by decide) (fun h2 => ?_) (fun h2 => ?_)
    ·
      have h2 := (not_congr (nI_eq (a := (q3 B t i)) (b := 3) (by omega) (by omega))).mp h2
      refine gx_iconst (v := 0) C dX4_isSign_32 (by decide) ?_
      exact gx_iret C hr hlk (by first | rfl | exact nb_b2 _) ⟨rfl, b2_f (fun q9 => by first | omega | exact absurd ((qk_59 (B := B) (t := t) (j := qS B t i) (show qK B t i = 3 ∨ qK B t i = 4 by omega)).mp q9) (by assumption))⟩ dX4_isSign_33
    ·
      have h2 := (nI_eq (a := (q3 B t i)) (b := 3) (by omega) (by omega)).mp h2
      refine gx_aload_n C dX4_isSign_15 (by rfl) (by rfl) ?_
      refine gx_getr (j := 55) (k := 6) C ck4 (by rfl) (by rfl) (by decide) fl_X4_25 dX4_isSign_16 ?_
      refine gx_aload_n C dX4_isSign_19 (by rfl) (by rfl) ?_
      refine gx_geti (k := 9) C ck4 (by rfl) (by rfl) (by decide) fl_X4_205 dX4_isSign_20 ?_
      refine gx_st (st' := [.int (nI (qS B t i)), .ref (eA E 55)]) (by rw [mq_9]) ?_
      refine gx_ialdN (k := (qS B t i)) C (by rfl) rfl (by omega) (by decide) dX4_isSign_23 ?_
      refine gx_st (st' := [.int (B (qS B t i))]) (by rw [(Mp.mq hP).2.2 (qS B t i) (by omega)]) ?_
      refine gx_iload_n C dX4_isSign_24 (by rfl) (by rfl) ?_
      refine gx_icmp_ne (tgt := 32) C dX4_isSign_25 (by decide) (fun h3 => ?_) (fun h3 => ?_)
      ·
        refine gx_iconst (v := 0) C dX4_isSign_32 (by decide) ?_
        exact gx_iret C hr hlk (by first | rfl | exact nb_b2 _) ⟨rfl, b2_f (fun q9 => by first | omega | exact absurd ((qk_59 (B := B) (t := t) (j := qS B t i) (show qK B t i = 3 ∨ qK B t i = 4 by omega)).mp q9) (by assumption))⟩ dX4_isSign_33
      ·
        refine gx_iconst (v := 1) C dX4_isSign_28 (by decide) ?_
        refine gx_goto (tgt := 33) C dX4_isSign_29 (by decide) ?_
        exact gx_iret C hr hlk (by first | rfl | exact nb_b2 _) ⟨rfl, b2_t ((qk_59 (B := B) (t := t) (j := qS B t i) (show qK B t i = 3 ∨ qK B t i = 4 by omega)).mpr (by assumption))⟩ dX4_isSign_33
set_option maxHeartbeats 4000000 in
set_option maxRecDepth 100000 in
theorem c_X4_isSign_b (E : En) (σ : Mm) (B : Nat → Int32) (t : Nat) (hP : Mp σ B t) (i : Nat) (hi : i ≤ t) : CtI E yX4_isSign cX4_isSign 2 (some .boolean) 0 0 [.ref (eA E 49), .int 59] (mq σ B t i 1) (fun rr σ2 => σ2 = mq σ B t i 1 ∧ rr = 0) := by
  have ht := hP.2.1
  refine CtI.of (by decide +kernel) (Nat.le_of_ble_eq_true rfl) (fun p e0 s m below meth c C hr hlk => ?_)
  refine gx_lv (lv' := [(0, .ref (eA E 49)), (1, .int 59)]) rfl ?_
  refine gx_aload_n C dX4_isSign_0 (by rfl) (by rfl) ?_
  refine gx_geti (k := 12) C ck4 (by rfl) (by rfl) (by decide) fl_X4_218 dX4_isSign_1 ?_
  refine gx_st (st' := [.int 1]) (by rw [mq_12]) ?_
  refine gx_if_ne (tgt := 32) C dX4_isSign_4 (by decide) (fun h1 => ?_) (fun h1 => ?_)
  ·
    clear h1
    refine gx_iconst (v := 0) C dX4_isSign_32 (by decide) ?_
    exact gx_iret C hr hlk (by first | rfl | exact nb_b2 _) ⟨rfl, rfl⟩ dX4_isSign_33
  ·
    exact absurd h1 (by decide)
set_option maxHeartbeats 4000000 in
set_option maxRecDepth 100000 in
theorem c_X4_number (E : En) (σ : Mm) (B : Nat → Int32) (t : Nat) (hP : Mp σ B t) (i : Nat) (hi : i ≤ t) (a b : Int32) : CtI E yX4_number cX4_number 5 (some .int) 3 68 [.ref (eA E 49), .int a, .int b, .int 1] (mq σ B t i 0) (fun rr σ2 => rr = qV B t i ∧ (qN B t i a b = true → σ2 = mq σ B t (qE B t i) 0) ∧ (¬ qN B t i a b = true → σ2 = mq σ B t i 1)) := by
  have ht := hP.2.1
  have h3 := q3_c B t i
  refine CtI.of (by decide +kernel) (Nat.le_of_ble_eq_true rfl) (fun p e0 s m below meth c C hr hlk => ?_)
  refine gx_lv (lv' := [(0, .ref (eA E 49)), (1, .int a), (2, .int b), (3, .int 1)]) rfl ?_
  refine gx_aload_n C dX4_number_0 (by rfl) (by rfl) ?_
  refine gx_aload_n C dX4_number_1 (by rfl) (by rfl) ?_
  refine gx_geti (k := 12) C ck4 (by rfl) (by rfl) (by decide) fl_X4_218 dX4_number_2 ?_
  refine gx_st (st' := [.int 0, .ref (eA E 49)]) (by rw [mq_12]) ?_
  refine gx_if_ne (tgt := 35) C dX4_number_5 (by decide) (fun h1 => ?_) (fun h1 => ?_)
  ·
    exact absurd h1 (by decide)
  ·
    clear h1
    refine gx_iload_n C dX4_number_8 (by rfl) (by rfl) ?_
    refine gx_if_eq (tgt := 35) C dX4_number_9 (by decide) (fun h2 => ?_) (fun h2 => ?_)
    ·
      exact absurd h2 (by decide)
    ·
      clear h2
      refine gx_aload_n C dX4_number_12 (by rfl) (by rfl) ?_
      refine gx_geti (k := 8) C ck4 (by rfl) (by rfl) (by decide) fl_X4_215 dX4_number_13 ?_
      refine gx_st (st' := [.int (nI (q3 B t i)), .ref (eA E 49)]) (by rw [mq_8]) ?_
      refine gx_iconst (v := 2) C dX4_number_16 (by decide) ?_
      refine gx_icmp_ne (tgt := 35) C dX4_number_17 (by decide) (fun h3 => ?_) (fun h3 => ?_)
      ·
        have h3 := (not_congr (nI_eq (a := (q3 B t i)) (b := 2) (by omega) (by omega))).mp h3
        refine gx_iconst (v := 1) C dX4_number_35 (by decide) ?_
        refine gx_goto (tgt := 40) C dX4_number_36 (by decide) ?_
        refine gx_puti (k := 12) C ck4 (by rfl) (by rfl) (by decide) (by rfl) (by first | rfl | exact nb_b2 _) (by first | rfl | exact fb_b2 _) fl_X4_218 dX4_number_40 ?_
        refine gx_mm (σ' := mq σ B t i 1) mq_w12 ?_
        refine gx_aload_n C dX4_number_43 (by rfl) (by rfl) ?_
        refine gx_geti (k := 11) C ck4 (by rfl) (by rfl) (by decide) fl_X4_212 dX4_number_44 ?_
        refine gx_st (st' := [.int (qV B t i)]) (by rw [mq_11]) ?_
        refine gx_istore (lv2 := [(4, .int (qV B t i)), (0, .ref (eA E 49)), (1, .int a), (2, .int b), (3, .int 1)]) C dX4_number_47 (by decide) rfl ?_
        refine gx_aload_n C dX4_number_49 (by rfl) (by rfl) ?_
        refine gx_geti (k := 12) C ck4 (by rfl) (by rfl) (by decide) fl_X4_218 dX4_number_50 ?_
        refine gx_st (st' := [.int 1]) (by rw [mq_12]) ?_
        refine gx_if_ne (tgt := 60) C dX4_number_53 (by decide) (fun h4 => ?_) (fun h4 => ?_)
        ·
          clear h4
          refine gx_iload C dX4_number_60 (by rfl) ?_
          exact gx_iret C hr hlk rfl ⟨rfl, fun q9 => by first | rfl | exact absurd (of_decide_eq_true q9).1 (by omega) | exact absurd (of_decide_eq_true q9).2 (by assumption), fun q9 => by first | rfl | exact absurd (decide_eq_true ⟨by omega, by assumption⟩) q9⟩ dX4_number_62
        ·
          exact absurd h4 (by decide)
      ·
        have h3 := (nI_eq (a := (q3 B t i)) (b := 2) (by omega) (by omega)).mp h3
        refine gx_aload_n C dX4_number_20 (by rfl) (by rfl) ?_
        refine gx_geti (k := 11) C ck4 (by rfl) (by rfl) (by decide) fl_X4_212 dX4_number_21 ?_
        refine gx_st (st' := [.int (qV B t i), .ref (eA E 49)]) (by rw [mq_11]) ?_
        refine gx_i2l C dX4_number_24 ?_
        refine gx_iload_n C dX4_number_25 (by rfl) (by rfl) ?_
        refine gx_i2l C dX4_number_26 ?_
        refine gx_iload_n C dX4_number_27 (by rfl) (by rfl) ?_
        refine gx_i2l C dX4_number_28 ?_
        refine gx_callSI (As := [.long ((qV B t i).toInt64), .long a.toInt64, .long b.toInt64]) (rest := [.ref (eA E 49)]) C (c_X4_in E (mq σ B t i 0) (qV B t i) a b ((qV B t i).toInt64) a.toInt64 b.toInt64 (by first | rfl | decide) (by first | rfl | decide) (by first | rfl | decide)) z_X4_in (by rfl) ml_X4_45 (by rfl) (Nat.le_of_ble_eq_true rfl) ⟨Nat.le_of_ble_eq_true rfl, Nat.le_of_ble_eq_true rfl⟩ dX4_number_29 (fun r5 σ5 w5 => ?_)
        obtain ⟨u1, u2⟩ := w5; rw [u1, u2]; clear u1 u2
        refine gx_if_ne (tgt := 39) C dX4_number_32 (by decide) (fun h6 => ?_) (fun h6 => ?_)
        ·
          have h6 := b2_nz.mp h6
          refine gx_iconst (v := 0) C dX4_number_39 (by decide) ?_
          refine gx_puti (k := 12) C ck4 (by rfl) (by rfl) (by decide) (by rfl) (by first | rfl | exact nb_b2 _) (by first | rfl | exact fb_b2 _) fl_X4_218 dX4_number_40 ?_
          refine gx_mm (σ' := mq σ B t i 0) mq_w12 ?_
          refine gx_aload_n C dX4_number_43 (by rfl) (by rfl) ?_
          refine gx_geti (k := 11) C ck4 (by rfl) (by rfl) (by decide) fl_X4_212 dX4_number_44 ?_
          refine gx_st (st' := [.int (qV B t i)]) (by rw [mq_11]) ?_
          refine gx_istore (lv2 := [(4, .int (qV B t i)), (0, .ref (eA E 49)), (1, .int a), (2, .int b), (3, .int 1)]) C dX4_number_47 (by decide) rfl ?_
          refine gx_aload_n C dX4_number_49 (by rfl) (by rfl) ?_
          refine gx_geti (k := 12) C ck4 (by rfl) (by rfl) (by decide) fl_X4_218 dX4_number_50 ?_
          refine gx_st (st' := [.int 0]) (by rw [mq_12]) ?_
          refine gx_if_ne (tgt := 60) C dX4_number_53 (by decide) (fun h7 => ?_) (fun h7 => ?_)
          ·
            exact absurd h7 (by decide)
          ·
            clear h7
            refine gx_aload_n C dX4_number_56 (by rfl) (by rfl) ?_
            refine gx_callVV (As := []) (rest := []) C (c_X4_token2 E σ B t hP i hi 0) z_X4_token ck4 (by rfl) (by rfl) ml_X4_235 (by rfl) (Nat.le_of_ble_eq_true rfl) ⟨Nat.le_of_ble_eq_true rfl, Nat.le_of_ble_eq_true rfl⟩ dX4_number_57 (fun σ8 w8 => ?_)
            rw [w8]; clear w8
            refine gx_iload C dX4_number_60 (by rfl) ?_
            exact gx_iret C hr hlk rfl ⟨rfl, fun q9 => by first | rfl | exact absurd (of_decide_eq_true q9).1 (by omega) | exact absurd (of_decide_eq_true q9).2 (by assumption), fun q9 => by first | rfl | exact absurd (decide_eq_true ⟨by omega, by assumption⟩) q9⟩ dX4_number_62
        ·
          have h6 := b2_z.mp h6
          refine gx_iconst (v := 1) C dX4_number_35 (by decide) ?_
          refine gx_goto (tgt := 40) C dX4_number_36 (by decide) ?_
          refine gx_puti (k := 12) C ck4 (by rfl) (by rfl) (by decide) (by rfl) (by first | rfl | exact nb_b2 _) (by first | rfl | exact fb_b2 _) fl_X4_218 dX4_number_40 ?_
          refine gx_mm (σ' := mq σ B t i 1) mq_w12 ?_
          refine gx_aload_n C dX4_number_43 (by rfl) (by rfl) ?_
          refine gx_geti (k := 11) C ck4 (by rfl) (by rfl) (by decide) fl_X4_212 dX4_number_44 ?_
          refine gx_st (st' := [.int (qV B t i)]) (by rw [mq_11]) ?_
          refine gx_istore (lv2 := [(4, .int (qV B t i)), (0, .ref (eA E 49)), (1, .int a), (2, .int b), (3, .int 1)]) C dX4_number_47 (by decide) rfl ?_
          refine gx_aload_n C dX4_number_49 (by rfl) (by rfl) ?_
          refine gx_geti (k := 12) C ck4 (by rfl) (by rfl) (by decide) fl_X4_218 dX4_number_50 ?_
          refine gx_st (st' := [.int 1]) (by rw [mq_12]) ?_
          refine gx_if_ne (tgt := 60) C dX4_number_53 (by decide) (fun h9 => ?_) (fun h9 => ?_)
          ·
            clear h9
            refine gx_iload C dX4_number_60 (by rfl) ?_
            exact gx_iret C hr hlk rfl ⟨rfl, fun q9 => by first | rfl | exact absurd (of_decide_eq_true q9).1 (by omega) | exact absurd (of_decide_eq_true q9).2 (by assumption), fun q9 => by first | rfl | exact absurd (decide_eq_true ⟨by omega, by assumption⟩) q9⟩ dX4_number_62
          ·
            exact absurd h9 (by decide)
set_option maxHeartbeats 4000000 in
set_option maxRecDepth 100000 in
theorem c_X4_number_0 (E : En) (σ : Mm) (B : Nat → Int32) (t : Nat) (hP : Mp σ B t) (i : Nat) (hi : i ≤ t) (a b : Int32) : CtI E yX4_number cX4_number 5 (some .int) 0 0 [.ref (eA E 49), .int a, .int b, .int 0] (mq σ B t i 0) (fun rr σ2 => σ2 = mq σ B t i 1 ∧ rr = qV B t i) := by
  have ht := hP.2.1
  refine CtI.of (by decide +kernel) (Nat.le_of_ble_eq_true rfl) (fun p e0 s m below meth c C hr hlk => ?_)
  refine gx_lv (lv' := [(0, .ref (eA E 49)), (1, .int a), (2, .int b), (3, .int 0)]) rfl ?_
  refine gx_aload_n C dX4_number_0 (by rfl) (by rfl) ?_
  refine gx_aload_n C dX4_number_1 (by rfl) (by rfl) ?_
  refine gx_geti (k := 12) C ck4 (by rfl) (by rfl) (by decide) fl_X4_218 dX4_number_2 ?_
  refine gx_st (st' := [.int 0, .ref (eA E 49)]) (by rw [mq_12]) ?_
  refine gx_if_ne (tgt := 35) C dX4_number_5 (by decide) (fun h1 => ?_) (fun h1 => ?_)
  ·
    exact absurd h1 (by decide)
  ·
    clear h1
    refine gx_iload_n C dX4_number_8 (by rfl) (by rfl) ?_
    refine gx_if_eq (tgt := 35) C dX4_number_9 (by decide) (fun h2 => ?_) (fun h2 => ?_)
    ·
      clear h2
      refine gx_iconst (v := 1) C dX4_number_35 (by decide) ?_
      refine gx_goto (tgt := 40) C dX4_number_36 (by decide) ?_
      refine gx_puti (k := 12) C ck4 (by rfl) (by rfl) (by decide) (by rfl) (by first | rfl | exact nb_b2 _) (by first | rfl | exact fb_b2 _) fl_X4_218 dX4_number_40 ?_
      refine gx_mm (σ' := mq σ B t i 1) mq_w12 ?_
      refine gx_aload_n C dX4_number_43 (by rfl) (by rfl) ?_
      refine gx_geti (k := 11) C ck4 (by rfl) (by rfl) (by decide) fl_X4_212 dX4_number_44 ?_
      refine gx_st (st' := [.int (qV B t i)]) (by rw [mq_11]) ?_
      refine gx_istore (lv2 := [(4, .int (qV B t i)), (0, .ref (eA E 49)), (1, .int a), (2, .int b), (3, .int 0)]) C dX4_number_47 (by decide) rfl ?_
      refine gx_aload_n C dX4_number_49 (by rfl) (by rfl) ?_
      refine gx_geti (k := 12) C ck4 (by rfl) (by rfl) (by decide) fl_X4_218 dX4_number_50 ?_
      refine gx_st (st' := [.int 1]) (by rw [mq_12]) ?_
      refine gx_if_ne (tgt := 60) C dX4_number_53 (by decide) (fun h3 => ?_) (fun h3 => ?_)
      ·
        clear h3
        refine gx_iload C dX4_number_60 (by rfl) ?_
        exact gx_iret C hr hlk rfl ⟨rfl, rfl⟩ dX4_number_62
      ·
        exact absurd h3 (by decide)
    ·
      exact absurd h2 (by decide)
set_option maxHeartbeats 4000000 in
set_option maxRecDepth 100000 in
theorem c_X4_number_b (E : En) (σ : Mm) (B : Nat → Int32) (t : Nat) (hP : Mp σ B t) (i : Nat) (hi : i ≤ t) (a b : Int32) (g0 : Int32) : CtI E yX4_number cX4_number 5 (some .int) 0 0 [.ref (eA E 49), .int a, .int b, .int g0] (mq σ B t i 1) (fun rr σ2 => σ2 = mq σ B t i 1 ∧ rr = qV B t i) := by
  have ht := hP.2.1
  refine CtI.of (by decide +kernel) (Nat.le_of_ble_eq_true rfl) (fun p e0 s m below meth c C hr hlk => ?_)
  refine gx_lv (lv' := [(0, .ref (eA E 49)), (1, .int a), (2, .int b), (3, .int g0)]) rfl ?_
  refine gx_aload_n C dX4_number_0 (by rfl) (by rfl) ?_
  refine gx_aload_n C dX4_number_1 (by rfl) (by rfl) ?_
  refine gx_geti (k := 12) C ck4 (by rfl) (by rfl) (by decide) fl_X4_218 dX4_number_2 ?_
  refine gx_st (st' := [.int 1, .ref (eA E 49)]) (by rw [mq_12]) ?_
  refine gx_if_ne (tgt := 35) C dX4_number_5 (by decide) (fun h1 => ?_) (fun h1 => ?_)
  ·
    clear h1
    refine gx_iconst (v := 1) C dX4_number_35 (by decide) ?_
    refine gx_goto (tgt := 40) C dX4_number_36 (by decide) ?_
    refine gx_puti (k := 12) C ck4 (by rfl) (by rfl) (by decide) (by rfl) (by first | rfl | exact nb_b2 _) (by first | rfl | exact fb_b2 _) fl_X4_218 dX4_number_40 ?_
    refine gx_mm (σ' := mq σ B t i 1) mq_w12 ?_
    refine gx_aload_n C dX4_number_43 (by rfl) (by rfl) ?_
    refine gx_geti (k := 11) C ck4 (by rfl) (by rfl) (by decide) fl_X4_212 dX4_number_44 ?_
    refine gx_st (st' := [.int (qV B t i)]) (by rw [mq_11]) ?_
    refine gx_istore (lv2 := [(4, .int (qV B t i)), (0, .ref (eA E 49)), (1, .int a), (2, .int b), (3, .int g0)]) C dX4_number_47 (by decide) rfl ?_
    refine gx_aload_n C dX4_number_49 (by rfl) (by rfl) ?_
    refine gx_geti (k := 12) C ck4 (by rfl) (by rfl) (by decide) fl_X4_218 dX4_number_50 ?_
    refine gx_st (st' := [.int 1]) (by rw [mq_12]) ?_
    refine gx_if_ne (tgt := 60) C dX4_number_53 (by decide) (fun h2 => ?_) (fun h2 => ?_)
    ·
      clear h2
      refine gx_iload C dX4_number_60 (by rfl) ?_
      exact gx_iret C hr hlk rfl ⟨rfl, rfl⟩ dX4_number_62
    ·
      exact absurd h2 (by decide)
  ·
    exact absurd h1 (by decide)
set_option maxHeartbeats 4000000 in
set_option maxRecDepth 100000 in
theorem c_X4_kindHere (E : En) (σ : Mm) (B : Nat → Int32) (t : Nat) (hP : Mp σ B t) (i : Nat) (hi : i ≤ t) : CtI E yX4_kindHere cX4_kindHere 1 (some .int) 5 108 [.ref (eA E 49)] (mq σ B t i 0) (fun rr σ2 => σ2 = mq σ B t i 0 ∧ rr = kdH B t i) := by
  have ht := hP.2.1
  refine CtI.of (by decide +kernel) (Nat.le_of_ble_eq_true rfl) (fun p e0 s m below meth c C hr hlk => ?_)
  refine gx_lv (lv' := [(0, .ref (eA E 49))]) rfl ?_
  refine gx_aload_n C dX4_kindHere_0 (by rfl) (by rfl) ?_
  refine gx_ldcS 22 C rfl dX4_kindHere_1 ?_
  refine gx_callVI (As := [.ref (eZ E (100 + 22))]) (rest := []) C (c_X4_isWord E σ B t hP i hi 22 (by omega)) z_X4_isWord ck4 (by rfl) (by rfl) ml_X4_231 (by rfl) (Nat.le_of_ble_eq_true rfl) ⟨Nat.le_of_ble_eq_true rfl, Nat.le_of_ble_eq_true rfl⟩ dX4_kindHere_3 (fun r1 σ1 w1 => ?_)
  obtain ⟨u1, u2⟩ := w1; rw [u1, u2]; clear u1 u2
  refine gx_st (st' := [.int (b2 (qW B t i 5 = true))]) (by rw [show b2 (qW B t i 22 = true) = b2 (qW B t i 5 = true) from by rw [qW_eq (q := 5) (q' := 22) rfl]]) ?_
  refine gx_if_eq (tgt := 11) C dX4_kindHere_6 (by decide) (fun h2 => ?_) (fun h2 => ?_)
  ·
    have h2 := b2_z.mp h2
    refine gx_aload_n C dX4_kindHere_11 (by rfl) (by rfl) ?_
    refine gx_ldcS 23 C rfl dX4_kindHere_12 ?_
    refine gx_callVI (As := [.ref (eZ E (100 + 23))]) (rest := []) C (c_X4_isWord E σ B t hP i hi 23 (by omega)) z_X4_isWord ck4 (by rfl) (by rfl) ml_X4_231 (by rfl) (Nat.le_of_ble_eq_true rfl) ⟨Nat.le_of_ble_eq_true rfl, Nat.le_of_ble_eq_true rfl⟩ dX4_kindHere_14 (fun r3 σ3 w3 => ?_)
    obtain ⟨u1, u2⟩ := w3; rw [u1, u2]; clear u1 u2
    refine gx_st (st' := [.int (b2 (qW B t i 6 = true))]) (by rw [show b2 (qW B t i 23 = true) = b2 (qW B t i 6 = true) from by rw [qW_eq (q := 6) (q' := 23) rfl]]) ?_
    refine gx_if_eq (tgt := 22) C dX4_kindHere_17 (by decide) (fun h4 => ?_) (fun h4 => ?_)
    ·
      have h4 := b2_z.mp h4
      refine gx_aload_n C dX4_kindHere_22 (by rfl) (by rfl) ?_
      refine gx_ldcS 24 C rfl dX4_kindHere_23 ?_
      refine gx_callVI (As := [.ref (eZ E (100 + 24))]) (rest := []) C (c_X4_isWord E σ B t hP i hi 24 (by omega)) z_X4_isWord ck4 (by rfl) (by rfl) ml_X4_231 (by rfl) (Nat.le_of_ble_eq_true rfl) ⟨Nat.le_of_ble_eq_true rfl, Nat.le_of_ble_eq_true rfl⟩ dX4_kindHere_25 (fun r5 σ5 w5 => ?_)
      obtain ⟨u1, u2⟩ := w5; rw [u1, u2]; clear u1 u2
      refine gx_st (st' := [.int (b2 (qW B t i 7 = true))]) (by rw [show b2 (qW B t i 24 = true) = b2 (qW B t i 7 = true) from by rw [qW_eq (q := 7) (q' := 24) rfl]]) ?_
      refine gx_if_eq (tgt := 33) C dX4_kindHere_28 (by decide) (fun h6 => ?_) (fun h6 => ?_)
      ·
        have h6 := b2_z.mp h6
        refine gx_aload_n C dX4_kindHere_33 (by rfl) (by rfl) ?_
        refine gx_ldcS 25 C rfl dX4_kindHere_34 ?_
        refine gx_callVI (As := [.ref (eZ E (100 + 25))]) (rest := []) C (c_X4_isWord E σ B t hP i hi 25 (by omega)) z_X4_isWord ck4 (by rfl) (by rfl) ml_X4_231 (by rfl) (Nat.le_of_ble_eq_true rfl) ⟨Nat.le_of_ble_eq_true rfl, Nat.le_of_ble_eq_true rfl⟩ dX4_kindHere_36 (fun r7 σ7 w7 => ?_)
        obtain ⟨u1, u2⟩ := w7; rw [u1, u2]; clear u1 u2
        refine gx_st (st' := [.int (b2 (qW B t i 8 = true))]) (by rw [show b2 (qW B t i 25 = true) = b2 (qW B t i 8 = true) from by rw [qW_eq (q := 8) (q' := 25) rfl]]) ?_
        refine gx_if_eq (tgt := 44) C dX4_kindHere_39 (by decide) (fun h8 => ?_) (fun h8 => ?_)
        ·
          have h8 := b2_z.mp h8
          refine gx_aload_n C dX4_kindHere_44 (by rfl) (by rfl) ?_
          refine gx_ldcS 26 C rfl dX4_kindHere_45 ?_
          refine gx_callVI (As := [.ref (eZ E (100 + 26))]) (rest := []) C (c_X4_isWord E σ B t hP i hi 26 (by omega)) z_X4_isWord ck4 (by rfl) (by rfl) ml_X4_231 (by rfl) (Nat.le_of_ble_eq_true rfl) ⟨Nat.le_of_ble_eq_true rfl, Nat.le_of_ble_eq_true rfl⟩ dX4_kindHere_47 (fun r9 σ9 w9 => ?_)
          obtain ⟨u1, u2⟩ := w9; rw [u1, u2]; clear u1 u2
          refine gx_st (st' := [.int (b2 (qW B t i 9 = true))]) (by rw [show b2 (qW B t i 26 = true) = b2 (qW B t i 9 = true) from by rw [qW_eq (q := 9) (q' := 26) rfl]]) ?_
          refine gx_if_eq (tgt := 55) C dX4_kindHere_50 (by decide) (fun h10 => ?_) (fun h10 => ?_)
          ·
            have h10 := b2_z.mp h10
            refine gx_aload_n C dX4_kindHere_55 (by rfl) (by rfl) ?_
            refine gx_ldcS 27 C rfl dX4_kindHere_56 ?_
            refine gx_callVI (As := [.ref (eZ E (100 + 27))]) (rest := []) C (c_X4_isWord E σ B t hP i hi 27 (by omega)) z_X4_isWord ck4 (by rfl) (by rfl) ml_X4_231 (by rfl) (Nat.le_of_ble_eq_true rfl) ⟨Nat.le_of_ble_eq_true rfl, Nat.le_of_ble_eq_true rfl⟩ dX4_kindHere_58 (fun r11 σ11 w11 => ?_)
            obtain ⟨u1, u2⟩ := w11; rw [u1, u2]; clear u1 u2
            refine gx_st (st' := [.int (b2 (qW B t i 10 = true))]) (by rw [show b2 (qW B t i 27 = true) = b2 (qW B t i 10 = true) from by rw [qW_eq (q := 10) (q' := 27) rfl]]) ?_
            refine gx_if_eq (tgt := 68) C dX4_kindHere_61 (by decide) (fun h14 => ?_) (fun h14 => ?_)
            ·
              have h14 := b2_z.mp h14
              refine gx_aload_n C dX4_kindHere_68 (by rfl) (by rfl) ?_
              refine gx_ldcS 28 C rfl dX4_kindHere_69 ?_
              refine gx_callVI (As := [.ref (eZ E (100 + 28))]) (rest := []) C (c_X4_isWord E σ B t hP i hi 28 (by omega)) z_X4_isWord ck4 (by rfl) (by rfl) ml_X4_231 (by rfl) (Nat.le_of_ble_eq_true rfl) ⟨Nat.le_of_ble_eq_true rfl, Nat.le_of_ble_eq_true rfl⟩ dX4_kindHere_71 (fun r15 σ15 w15 => ?_)
              obtain ⟨u1, u2⟩ := w15; rw [u1, u2]; clear u1 u2
              refine gx_st (st' := [.int (b2 (qW B t i 11 = true))]) (by rw [show b2 (qW B t i 28 = true) = b2 (qW B t i 11 = true) from by rw [qW_eq (q := 11) (q' := 28) rfl]]) ?_
              refine gx_if_eq (tgt := 82) C dX4_kindHere_74 (by decide) (fun h16 => ?_) (fun h16 => ?_)
              ·
                have h16 := b2_z.mp h16
                refine gx_iconst (v := (-1)) C dX4_kindHere_82 (by decide) ?_
                exact gx_iret C hr hlk rfl ⟨rfl, by unfold kdH; simp [*]⟩ dX4_kindHere_83
              ·
                have h16 := b2_nz.mp h16
                refine gx_bipush (v := 6) C dX4_kindHere_77 (by decide) ?_
                refine gx_goto (tgt := 83) C dX4_kindHere_79 (by decide) ?_
                exact gx_iret C hr hlk rfl ⟨rfl, by unfold kdH; simp [*]⟩ dX4_kindHere_83
            ·
              have h14 := b2_nz.mp h14
              refine gx_iconst (v := 5) C dX4_kindHere_64 (by decide) ?_
              refine gx_goto (tgt := 83) C dX4_kindHere_65 (by decide) ?_
              exact gx_iret C hr hlk rfl ⟨rfl, by unfold kdH; simp [*]⟩ dX4_kindHere_83
          ·
            have h10 := b2_nz.mp h10
            refine gx_iconst (v := 4) C dX4_kindHere_53 (by decide) ?_
            exact gx_iret C hr hlk rfl ⟨rfl, by unfold kdH; simp [*]⟩ dX4_kindHere_54
        ·
          have h8 := b2_nz.mp h8
          refine gx_iconst (v := 3) C dX4_kindHere_42 (by decide) ?_
          exact gx_iret C hr hlk rfl ⟨rfl, by unfold kdH; simp [*]⟩ dX4_kindHere_43
      ·
        have h6 := b2_nz.mp h6
        refine gx_iconst (v := 2) C dX4_kindHere_31 (by decide) ?_
        exact gx_iret C hr hlk rfl ⟨rfl, by unfold kdH; simp [*]⟩ dX4_kindHere_32
    ·
      have h4 := b2_nz.mp h4
      refine gx_iconst (v := 1) C dX4_kindHere_20 (by decide) ?_
      exact gx_iret C hr hlk rfl ⟨rfl, by unfold kdH; simp [*]⟩ dX4_kindHere_21
  ·
    have h2 := b2_nz.mp h2
    refine gx_iconst (v := 0) C dX4_kindHere_9 (by decide) ?_
    exact gx_iret C hr hlk rfl ⟨rfl, by unfold kdH; simp [*]⟩ dX4_kindHere_10

set_option maxHeartbeats 4000000 in
set_option maxRecDepth 100000 in
theorem c_X4_tells (E : En) (σ : Mm) (B : Nat → Int32) (t : Nat) (hP : Mp σ B t) (i : Nat) (hi : i ≤ t) (w : Nat) (hw : w < 3) (v : Int32) : CtV E yX4_tells cX4_tells 3 none 0 0 [.ref (eA E 49), .int (nI (1 + w)), .int v] (mq σ B t i 0) (fun σ2 => σ2 = mq (up2 σ 50 (1 + w) v) B t i 0) := by
  have ht := hP.2.1
  refine CtV.of (by decide +kernel) (Nat.le_of_ble_eq_true rfl) (fun p e0 s m below meth c C hr hlk => ?_)
  refine gx_lv (lv' := [(0, .ref (eA E 49)), (1, .int (nI (1 + w))), (2, .int v)]) rfl ?_
  refine gx_aload_n C dX4_tells_0 (by rfl) (by rfl) ?_
  refine gx_geti (k := 12) C ck4 (by rfl) (by rfl) (by decide) fl_X4_218 dX4_tells_1 ?_
  refine gx_st (st' := [.int 0]) (by rw [mq_12]) ?_
  refine gx_if_ne (tgt := 14) C dX4_tells_4 (by decide) (fun h1 => ?_) (fun h1 => ?_)
  ·
    exact absurd h1 (by decide)
  ·
    clear h1
    refine gx_aload_n C dX4_tells_7 (by rfl) (by rfl) ?_
    refine gx_getr (j := 50) (k := 0) C ck4 (by rfl) (by rfl) (by decide) fl_X4_9 dX4_tells_8 ?_
    refine gx_iload_n C dX4_tells_11 (by rfl) (by rfl) ?_
    refine gx_iload_n C dX4_tells_12 (by rfl) (by rfl) ?_
    refine gx_iastN (k := (1 + w)) C (by rfl) rfl (by omega) (by decide) dX4_tells_13 ?_
    exact gx_vret C hr hlk (mq_com (by omega)) dX4_tells_14
set_option maxHeartbeats 4000000 in
set_option maxRecDepth 100000 in
theorem c_X4_tells_b (E : En) (σ : Mm) (B : Nat → Int32) (t : Nat) (hP : Mp σ B t) (i : Nat) (hi : i ≤ t) (w : Nat) (hw : w < 3) (v : Int32) : CtV E yX4_tells cX4_tells 3 none 0 0 [.ref (eA E 49), .int (nI (1 + w)), .int v] (mq σ B t i 1) (fun σ2 => σ2 = mq σ B t i 1) := by
  have ht := hP.2.1
  refine CtV.of (by decide +kernel) (Nat.le_of_ble_eq_true rfl) (fun p e0 s m below meth c C hr hlk => ?_)
  refine gx_lv (lv' := [(0, .ref (eA E 49)), (1, .int (nI (1 + w))), (2, .int v)]) rfl ?_
  refine gx_aload_n C dX4_tells_0 (by rfl) (by rfl) ?_
  refine gx_geti (k := 12) C ck4 (by rfl) (by rfl) (by decide) fl_X4_218 dX4_tells_1 ?_
  refine gx_st (st' := [.int 1]) (by rw [mq_12]) ?_
  refine gx_if_ne (tgt := 14) C dX4_tells_4 (by decide) (fun h1 => ?_) (fun h1 => ?_)
  ·
    clear h1
    exact gx_vret C hr hlk rfl dX4_tells_14
  ·
    exact absurd h1 (by decide)
set_option maxHeartbeats 4000000 in
set_option maxRecDepth 100000 in
theorem c_X4_rankItem (E : En) (σ : Mm) (B : Nat → Int32) (t : Nat) (hP : Mp σ B t) (i : Nat) (hi : i ≤ t) (K : Mm) (hM : vM σ 50 = K) (hO : Ok K) : CtV E yX4_rankItem cX4_rankItem 4 none 7 150 [.ref (eA E 49)] (mq σ B t i 0) (fun σ2 => MTR B t σ (rk1 B t K i) σ2) := by
  have ht := hP.2.1
  have h12 := hO.1.2
  have hn := hO.1.1
  refine CtV.of (by decide +kernel) (Nat.le_of_ble_eq_true rfl) (fun p e0 s m below meth c C hr hlk => ?_)
  refine gx_lv (lv' := [(0, .ref (eA E 49))]) rfl ?_
  refine gx_aload_n C dX4_rankItem_0 (by rfl) (by rfl) ?_
  refine gx_iconst (v := 0) C dX4_rankItem_1 (by decide) ?_
  refine gx_bipush (v := 7) C dX4_rankItem_2 (by decide) ?_
  refine gx_iconst (v := 1) C dX4_rankItem_4 (by decide) ?_
  refine gx_callVI (As := [.int 0, .int 7, .int 1]) (rest := []) C (c_X4_number E σ B t hP i hi 0 7) z_X4_number ck4 (by rfl) (by rfl) ml_X4_260 (by rfl) (Nat.le_of_ble_eq_true rfl) ⟨Nat.le_of_ble_eq_true rfl, Nat.le_of_ble_eq_true rfl⟩ dX4_rankItem_5 (fun r1 σ1 w1 => ?_)
  by_cases hc1 : qN B t i 0 7 = true
  ·
    obtain ⟨er1, wa1, wb1⟩ := w1
    obtain rfl := wa1 hc1
    obtain ⟨r, hr8, er⟩ := qN_7 hc1
    have cr : cl (nI r) = r := nI_clamp (by omega)
    refine gx_st (st' := [.int (nI r)]) (by rw [er1, er]) ?_
    refine gx_istore_n (lv2 := [(1, .int (nI r)), (0, .ref (eA E 49))]) C dX4_rankItem_8 (by rfl) (by decide) rfl ?_
    refine gx_aload_n C dX4_rankItem_9 (by rfl) (by rfl) ?_
    refine gx_ldcwS 18 C rfl dX4_rankItem_10 ?_
    refine gx_callVV (As := [.ref (eZ E (100 + 18))]) (rest := []) C (c_X4_word E σ B t hP (qE B t i) (qE_le (B := B) hi) 1 18 (by decide) rfl) z_X4_word ck4 (by rfl) (by rfl) ml_X4_256 (by rfl) (Nat.le_of_ble_eq_true rfl) ⟨Nat.le_of_ble_eq_true rfl, Nat.le_of_ble_eq_true rfl⟩ dX4_rankItem_13 (fun σ2 w2 => ?_)
    by_cases hc2 : qW B t (qE B t i) 1 = true
    ·
      obtain rfl := w2.1 hc2
      refine gx_aload_n C dX4_rankItem_16 (by rfl) (by rfl) ?_
      refine gx_geti (k := 12) C ck4 (by rfl) (by rfl) (by decide) fl_X4_218 dX4_rankItem_17 ?_
      refine gx_st (st' := [.int 0]) (by rw [mq_12]) ?_
      refine gx_if_eq (tgt := 27) C dX4_rankItem_20 (by decide) (fun h3 => ?_) (fun h3 => ?_)
      ·
        clear h3
        refine gx_aload_n C dX4_rankItem_27 (by rfl) (by rfl) ?_
        refine gx_iload_n C dX4_rankItem_28 (by rfl) (by rfl) ?_
        refine gx_callVI (As := [.int (nI r)]) (rest := []) C (c_X4_inRank E (mq σ B t (qE B t (qE B t i)) 0) K (vM_mq.trans hM : vM (mq σ B t (qE B t (qE B t i)) 0) 50 = K) hO (nI r)) z_X4_inRank ck4 (by rfl) (by rfl) ml_X4_55 (by rfl) (Nat.le_of_ble_eq_true rfl) ⟨Nat.le_of_ble_eq_true rfl, Nat.le_of_ble_eq_true rfl⟩ dX4_rankItem_29 (fun r4 σ4 w4 => ?_)
        obtain ⟨u1, u2⟩ := w4; rw [u1, u2]; clear u1 u2
        refine gx_callSI (As := [.int (bset (nn K) (inP K (nI r)))]) (rest := []) C (c_X4_many E (mq σ B t (qE B t (qE B t i)) 0) (nn K) (by omega) (inP K (nI r))) z_X4_many (by rfl) ml_X4_58 (by rfl) (Nat.le_of_ble_eq_true rfl) ⟨Nat.le_of_ble_eq_true rfl, Nat.le_of_ble_eq_true rfl⟩ dX4_rankItem_32 (fun r5 σ5 w5 => ?_)
        obtain ⟨u1, u2⟩ := w5; rw [u1, u2]; clear u1 u2
        refine gx_istore_n (lv2 := [(2, .int (nI (cnt (inP K (nI r)) (nn K)))), (1, .int (nI r)), (0, .ref (eA E 49))]) C dX4_rankItem_35 (by rfl) (by decide) rfl ?_
        refine gx_aload_n C dX4_rankItem_36 (by rfl) (by rfl) ?_
        refine gx_iload_n C dX4_rankItem_37 (by rfl) (by rfl) ?_
        refine gx_iconst (v := 4) C dX4_rankItem_38 (by decide) ?_
        refine gx_iconst (v := 1) C dX4_rankItem_39 (by decide) ?_
        refine gx_callVI (As := [.int (nI (cnt (inP K (nI r)) (nn K))), .int 4, .int 1]) (rest := []) C (c_X4_number E σ B t hP (qE B t (qE B t i)) (qE_le (B := B) (qE_le (B := B) hi)) (nI (cnt (inP K (nI r)) (nn K))) 4) z_X4_number ck4 (by rfl) (by rfl) ml_X4_260 (by rfl) (Nat.le_of_ble_eq_true rfl) ⟨Nat.le_of_ble_eq_true rfl, Nat.le_of_ble_eq_true rfl⟩ dX4_rankItem_40 (fun r6 σ6 w6 => ?_)
        by_cases hc6 : qN B t (qE B t (qE B t i)) (nI (cnt (inP K (nI r)) (nn K))) 4 = true
        ·
          obtain ⟨er6, wa6, wb6⟩ := w6
          obtain rfl := wa6 hc6
          refine gx_st (st' := [.int (qV B t (qE B t (qE B t i)))]) (by rw [er6]) ?_
          refine gx_istore_n (lv2 := [(3, .int (qV B t (qE B t (qE B t i)))), (2, .int (nI (cnt (inP K (nI r)) (nn K)))), (1, .int (nI r)), (0, .ref (eA E 49))]) C dX4_rankItem_43 (by rfl) (by decide) rfl ?_
          refine gx_aload_n C dX4_rankItem_44 (by rfl) (by rfl) ?_
          refine gx_geti (k := 12) C ck4 (by rfl) (by rfl) (by decide) fl_X4_218 dX4_rankItem_45 ?_
          refine gx_st (st' := [.int 0]) (by rw [mq_12]) ?_
          refine gx_if_ne (tgt := 61) C dX4_rankItem_48 (by decide) (fun h7 => ?_) (fun h7 => ?_)
          ·
            exact absurd h7 (by decide)
          ·
            clear h7
            refine gx_aload_n C dX4_rankItem_51 (by rfl) (by rfl) ?_
            refine gx_getr (j := 50) (k := 0) C ck4 (by rfl) (by rfl) (by decide) fl_X4_9 dX4_rankItem_52 ?_
            refine gx_bipush (v := 7) C dX4_rankItem_55 (by decide) ?_
            refine gx_iload_n C dX4_rankItem_57 (by rfl) (by rfl) ?_
            refine gx_iadd C dX4_rankItem_58 ?_
            refine gx_st (st' := [.int (nI (7 + r)), .ref (eA E 50)]) (by rw [show 7 + (nI r) = nI (7 + r) from nI_add 7 r]) ?_
            refine gx_iload_n C dX4_rankItem_59 (by rfl) (by rfl) ?_
            refine gx_iastN (k := (7 + r)) C (by rfl) rfl (by omega) (by decide) dX4_rankItem_60 ?_
            have hM8 : vM (up2 (mq σ B t (qE B t (qE B t (qE B t i))) 0) 50 (7 + r) (qV B t (qE B t (qE B t i)))) 50 = up2 K 8 r (qV B t (qE B t (qE B t i))) := by rw [vM_up (j := 8) (p := r) (by omega) (show _ < 8 by omega) (by rfl), (vM_mq.trans hM : vM (mq σ B t (qE B t (qE B t (qE B t i))) 0) 50 = K)]
            exact gx_vret C hr hlk (MTR.yes1 Fm.rf hP F1.rf.up hM8 (by simp only [rk1, rk2, rk3]; simp [*])) dX4_rankItem_61
        ·
          obtain ⟨er6, wa6, wb6⟩ := w6
          obtain rfl := wb6 hc6
          refine gx_st (st' := [.int (qV B t (qE B t (qE B t i)))]) (by rw [er6]) ?_
          refine gx_istore_n (lv2 := [(3, .int (qV B t (qE B t (qE B t i)))), (2, .int (nI (cnt (inP K (nI r)) (nn K)))), (1, .int (nI r)), (0, .ref (eA E 49))]) C dX4_rankItem_43 (by rfl) (by decide) rfl ?_
          refine gx_aload_n C dX4_rankItem_44 (by rfl) (by rfl) ?_
          refine gx_geti (k := 12) C ck4 (by rfl) (by rfl) (by decide) fl_X4_218 dX4_rankItem_45 ?_
          refine gx_st (st' := [.int 1]) (by rw [mq_12]) ?_
          refine gx_if_ne (tgt := 61) C dX4_rankItem_48 (by decide) (fun h9 => ?_) (fun h9 => ?_)
          ·
            clear h9
            exact gx_vret C hr hlk (MTR.no Fm.rf hP (by simp only [rk1, rk2, rk3]; simp [*])) dX4_rankItem_61
          ·
            exact absurd h9 (by decide)
      ·
        exact absurd h3 (by decide)
    ·
      obtain rfl := w2.2 hc2
      refine gx_aload_n C dX4_rankItem_16 (by rfl) (by rfl) ?_
      refine gx_geti (k := 12) C ck4 (by rfl) (by rfl) (by decide) fl_X4_218 dX4_rankItem_17 ?_
      refine gx_st (st' := [.int 1]) (by rw [mq_12]) ?_
      refine gx_if_eq (tgt := 27) C dX4_rankItem_20 (by decide) (fun h10 => ?_) (fun h10 => ?_)
      ·
        exact absurd h10 (by decide)
      ·
        clear h10
        refine gx_iconst (v := 0) C dX4_rankItem_23 (by decide) ?_
        refine gx_goto (tgt := 35) C dX4_rankItem_24 (by decide) ?_
        refine gx_istore_n (lv2 := [(2, .int 0), (1, .int (nI r)), (0, .ref (eA E 49))]) C dX4_rankItem_35 (by rfl) (by decide) rfl ?_
        refine gx_aload_n C dX4_rankItem_36 (by rfl) (by rfl) ?_
        refine gx_iload_n C dX4_rankItem_37 (by rfl) (by rfl) ?_
        refine gx_iconst (v := 4) C dX4_rankItem_38 (by decide) ?_
        refine gx_iconst (v := 1) C dX4_rankItem_39 (by decide) ?_
        refine gx_callVI (As := [.int 0, .int 4, .int 1]) (rest := []) C (c_X4_number_b E σ B t hP (qE B t i) (qE_le (B := B) hi) 0 4 1) z_X4_number ck4 (by rfl) (by rfl) ml_X4_260 (by rfl) (Nat.le_of_ble_eq_true rfl) ⟨Nat.le_of_ble_eq_true rfl, Nat.le_of_ble_eq_true rfl⟩ dX4_rankItem_40 (fun r11 σ11 w11 => ?_)
        obtain ⟨u1, u2⟩ := w11; rw [u1, u2]; clear u1 u2
        refine gx_istore_n (lv2 := [(3, .int (qV B t (qE B t i))), (2, .int 0), (1, .int (nI r)), (0, .ref (eA E 49))]) C dX4_rankItem_43 (by rfl) (by decide) rfl ?_
        refine gx_aload_n C dX4_rankItem_44 (by rfl) (by rfl) ?_
        refine gx_geti (k := 12) C ck4 (by rfl) (by rfl) (by decide) fl_X4_218 dX4_rankItem_45 ?_
        refine gx_st (st' := [.int 1]) (by rw [mq_12]) ?_
        refine gx_if_ne (tgt := 61) C dX4_rankItem_48 (by decide) (fun h14 => ?_) (fun h14 => ?_)
        ·
          clear h14
          exact gx_vret C hr hlk (MTR.no Fm.rf hP (by simp only [rk1, rk2, rk3]; simp [*])) dX4_rankItem_61
        ·
          exact absurd h14 (by decide)
  ·
    obtain ⟨er1, wa1, wb1⟩ := w1
    obtain rfl := wb1 hc1
    refine gx_st (st' := [.int (qV B t i)]) (by rw [er1]) ?_
    refine gx_istore_n (lv2 := [(1, .int (qV B t i)), (0, .ref (eA E 49))]) C dX4_rankItem_8 (by rfl) (by decide) rfl ?_
    refine gx_aload_n C dX4_rankItem_9 (by rfl) (by rfl) ?_
    refine gx_ldcwS 18 C rfl dX4_rankItem_10 ?_
    refine gx_callVV (As := [.ref (eZ E (100 + 18))]) (rest := []) C (c_X4_word_b E σ B t hP i hi 1 18 (by decide) rfl) z_X4_word ck4 (by rfl) (by rfl) ml_X4_256 (by rfl) (Nat.le_of_ble_eq_true rfl) ⟨Nat.le_of_ble_eq_true rfl, Nat.le_of_ble_eq_true rfl⟩ dX4_rankItem_13 (fun σ15 w15 => ?_)
    rw [w15]; clear w15
    refine gx_aload_n C dX4_rankItem_16 (by rfl) (by rfl) ?_
    refine gx_geti (k := 12) C ck4 (by rfl) (by rfl) (by decide) fl_X4_218 dX4_rankItem_17 ?_
    refine gx_st (st' := [.int 1]) (by rw [mq_12]) ?_
    refine gx_if_eq (tgt := 27) C dX4_rankItem_20 (by decide) (fun h16 => ?_) (fun h16 => ?_)
    ·
      exact absurd h16 (by decide)
    ·
      clear h16
      refine gx_iconst (v := 0) C dX4_rankItem_23 (by decide) ?_
      refine gx_goto (tgt := 35) C dX4_rankItem_24 (by decide) ?_
      refine gx_istore_n (lv2 := [(2, .int 0), (1, .int (qV B t i)), (0, .ref (eA E 49))]) C dX4_rankItem_35 (by rfl) (by decide) rfl ?_
      refine gx_aload_n C dX4_rankItem_36 (by rfl) (by rfl) ?_
      refine gx_iload_n C dX4_rankItem_37 (by rfl) (by rfl) ?_
      refine gx_iconst (v := 4) C dX4_rankItem_38 (by decide) ?_
      refine gx_iconst (v := 1) C dX4_rankItem_39 (by decide) ?_
      refine gx_callVI (As := [.int 0, .int 4, .int 1]) (rest := []) C (c_X4_number_b E σ B t hP i hi 0 4 1) z_X4_number ck4 (by rfl) (by rfl) ml_X4_260 (by rfl) (Nat.le_of_ble_eq_true rfl) ⟨Nat.le_of_ble_eq_true rfl, Nat.le_of_ble_eq_true rfl⟩ dX4_rankItem_40 (fun r17 σ17 w17 => ?_)
      obtain ⟨u1, u2⟩ := w17; rw [u1, u2]; clear u1 u2
      refine gx_istore_n (lv2 := [(3, .int (qV B t i)), (2, .int 0), (1, .int (qV B t i)), (0, .ref (eA E 49))]) C dX4_rankItem_43 (by rfl) (by decide) rfl ?_
      refine gx_aload_n C dX4_rankItem_44 (by rfl) (by rfl) ?_
      refine gx_geti (k := 12) C ck4 (by rfl) (by rfl) (by decide) fl_X4_218 dX4_rankItem_45 ?_
      refine gx_st (st' := [.int 1]) (by rw [mq_12]) ?_
      refine gx_if_ne (tgt := 61) C dX4_rankItem_48 (by decide) (fun h18 => ?_) (fun h18 => ?_)
      ·
        clear h18
        exact gx_vret C hr hlk (MTR.no Fm.rf hP (by simp only [rk1, rk2, rk3]; simp [*])) dX4_rankItem_61
      ·
        exact absurd h18 (by decide)
