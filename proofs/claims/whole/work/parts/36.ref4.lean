def pgK (K : Mm) (o : Bool) (i : Nat) : Mm := if o = true then agK (pyK K i) i else pyK K i
theorem pyV_m {x : Int32} : (if 9999 < x then 9999 else x) = (if x < 9999 then x else 9999) := by
  by_cases h1 : x < 9999
  · have h2 : ¬ 9999 < x := fun q => by rw [Int32.lt_iff_toInt_lt] at *; omega
    rw [if_neg h2, if_pos h1]
  · by_cases h2 : 9999 < x
    · rw [if_pos h2, if_neg h1]
    · rw [if_neg h2, if_neg h1]
      apply Int32.toInt_inj.mp
      rw [Int32.lt_iff_toInt_lt] at *
      omega
theorem age_m {a : Int32} (h : 0 ≤ a ∧ a ≤ 99) : (a < 99 → (if a + 1 < 99 then a + 1 else 99) = a + 1) ∧ (¬ a < 99 → (if a + 1 < 99 then a + 1 else 99) = a) := by
  obtain ⟨k, hk, rfl⟩ := i_nat (M := 99) (n := 99) (by decide) h
  rw [show nI k + 1 = nI (k + 1) from nI_add k 1]
  constructor
  · intro h2
    have h3 : k < 99 := (nI_ltI (b := 99) (by omega) (by omega)).mp h2
    split
    · rfl
    · next h4 =>
      have h5 : ¬ k + 1 < 99 := fun q => h4 ((nI_ltI (b := 99) (by omega) (by omega)).mpr q)
      rw [show k + 1 = 99 by omega]; rfl
  · intro h2
    have h3 : ¬ k < 99 := fun q => h2 ((nI_ltI (b := 99) (by omega) (by omega)).mpr q)
    rw [show k = 99 by omega]
    rfl
theorem up2_same {K : Mm} {j p : Nat} : up2 K j p (K j p) = K := by
  funext a b
  rw [up2_up]
  split
  · next h => rw [h.1, h.2]
  · rfl
theorem agK_c {K : Mm} {i : Nat} {v : Int32} : up2 (agK K i) 5 i v = agK (up2 K 5 i v) i := by
  funext a b
  simp only [up2_up, agK]
  by_cases h : a = 3
  · subst h; simp
  · simp [h]
theorem pg_5 {K : Mm} {o : Bool} {i : Nat} : pgK K o i 5 i = K 5 i := by cases o <;> simp [pgK, agK, pyK]
theorem pg_2 {K : Mm} {o : Bool} {i p : Nat} : pgK K o i 2 p = K 2 p := by cases o <;> simp [pgK, agK, pyK]
theorem pg_3 {K : Mm} {o : Bool} {i : Nat} : pgK K o i 3 i = K 3 i := by cases o <;> simp [pgK, agK, pyK]
theorem pg_0 (K : Mm) (o : Bool) : pgK K o 0 = K := by cases o <;> simp [pgK, agK_0, pyK_0]
theorem pg_nn (K : Mm) (o : Bool) (i : Nat) : pgK K o i 0 0 = K 0 0 := by cases o <;> simp [pgK, agK, pyK]
theorem py_5 {K : Mm} {i : Nat} {v : Int32} (hv : v = if K 2 i = -1 then K 5 i else pyV (K 5 i) (K 2 i)) : up2 (pyK K i) 5 i v = pyK K (i + 1) := by
  subst hv
  split
  · next h => rw [← pyK_f h]; exact (by have := up2_same (K := pyK K i) (j := 5) (p := i); rwa [pyK_5] at this)
  · next h => exact pyK_t h
theorem pg_f {K : Mm} {i : Nat} {v : Int32} (hv : v = if K 2 i = -1 then K 5 i else pyV (K 5 i) (K 2 i)) : up2 (pgK K false i) 5 i v = pgK K false (i + 1) := py_5 hv
theorem pg_f2 {K : Mm} {i : Nat} (h : K 2 i = -1) : pgK K false i = pgK K false (i + 1) := pyK_f h
theorem pg_t {K : Mm} {i : Nat} {v w : Int32} (hv : v = if K 2 i = -1 then K 5 i else pyV (K 5 i) (K 2 i)) (hw : w = if K 3 i + 1 < 99 then K 3 i + 1 else 99) : up2 (up2 (pgK K true i) 5 i v) 3 i w = pgK K true (i + 1) := by
  show up2 (up2 (agK (pyK K i) i) 5 i v) 3 i w = agK (pyK K (i + 1)) (i + 1)
  rw [agK_c, py_5 hv, hw]
  have e : K 3 i = pyK K (i + 1) 3 i := by simp [pyK]
  rw [e]
  exact agK_t
theorem pg_s5 {K : Mm} {o : Bool} {i : Nat} : up2 (pgK K o i) 5 i (K 5 i) = pgK K o i := by have := up2_same (K := pgK K o i) (j := 5) (p := i); rwa [pg_5] at this
theorem pg_s3 {K : Mm} {o : Bool} {i : Nat} : up2 (pgK K o i) 3 i (K 3 i) = pgK K o i := by have := up2_same (K := pgK K o i) (j := 3) (p := i); rwa [pg_3] at this
theorem pg_s53 {K : Mm} {o : Bool} {i : Nat} {v : Int32} : up2 (up2 (pgK K o i) 5 i v) 3 i (K 3 i) = up2 (pgK K o i) 5 i v := by
  have := up2_same (K := up2 (pgK K o i) 5 i v) (j := 3) (p := i)
  rwa [up2_up, if_neg (by omega), pg_3] at this
theorem pv_t {g r : Int32} (h : ¬ g + 8 - r ≤ 9999) : 9999 = pyV g r := by
  unfold pyV
  rw [← pyV_m, if_pos (Int32.not_le.mp h)]
theorem pv_f {g r : Int32} (h : g + 8 - r ≤ 9999) : g + 8 - r = pyV g r := by
  unfold pyV
  rw [← pyV_m, if_neg (Int32.not_lt.mpr h)]
set_option maxHeartbeats 4000000 in
set_option maxRecDepth 100000 in
theorem c_X4_isOut2 (E : En) (σ : Mm) (K : Mm) (hM : vM σ 50 = K) (q : Nat) (hq : q < 12) : CtI E yX4_isOut cX4_isOut 2 (some .boolean) 1 22 [.ref (eA E 49), .int (nI q)] σ (fun rr σ2 => σ2 = σ ∧ rr = b2 (K 2 q = -1)) := by
  refine CtI.of (by decide +kernel) (Nat.le_of_ble_eq_true rfl) (fun p e0 s m below meth c C hr hlk => ?_)
  refine gx_lv (lv' := [(0, .ref (eA E 49)), (1, .int (nI q))]) rfl ?_
  refine gx_aload_n C dX4_isOut_0 (by rfl) (by rfl) ?_
  refine gx_iload_n C dX4_isOut_1 (by rfl) (by rfl) ?_
  refine gx_iconst (v := 1) C dX4_isOut_2 (by decide) ?_
  refine gx_callVI (As := [.int (nI q), .int 1]) (rest := []) C (c_X4_is E σ q (by omega) 1 (by omega)) z_X4_is ck4 (by rfl) (by rfl) ml_X4_51 (by rfl) (Nat.le_of_ble_eq_true rfl) ⟨Nat.le_of_ble_eq_true rfl, Nat.le_of_ble_eq_true rfl⟩ dX4_isOut_3 (fun r1 σ1 w1 => ?_)
  obtain ⟨u1, u2⟩ := w1; rw [u1, u2]; clear u1 u2
  refine gx_st (st' := [.int (K 2 q)]) (by rw [mp_2 hM (p := q) (by omega)]) ?_
  refine gx_iconst (v := (-1)) C dX4_isOut_6 (by decide) ?_
  refine gx_icmp_ne (tgt := 14) C dX4_isOut_7 (by decide) (fun h2 => ?_) (fun h2 => ?_)
  ·
    refine gx_iconst (v := 0) C dX4_isOut_14 (by decide) ?_
    exact gx_iret C hr hlk (by first | rfl | exact nb_b2 _) ⟨rfl, by first | exact b2_t (by grind) | exact b2_f (by grind)⟩ dX4_isOut_15
  ·
    refine gx_iconst (v := 1) C dX4_isOut_10 (by decide) ?_
    refine gx_goto (tgt := 15) C dX4_isOut_11 (by decide) ?_
    exact gx_iret C hr hlk (by first | rfl | exact nb_b2 _) ⟨rfl, by first | exact b2_t (by grind) | exact b2_f (by grind)⟩ dX4_isOut_15
set_option maxHeartbeats 4000000 in
set_option maxRecDepth 100000 in
theorem c_X4_month (E : En) (σ : Mm) (K : Mm) (hM : vM σ 50 = K) (hO : Ok K) : CtV E yX4_month cX4_month 5 none 5 116 [.ref (eA E 49)] σ (fun σ2 => vM σ2 50 = mo K ∧ F1 50 σ σ2) := by
  obtain ⟨⟨hn, h12⟩, hpp, hlw, hsp, hz0⟩ := id hO
  refine CtV.of (by decide +kernel) (Nat.le_of_ble_eq_true rfl) (fun p e0 s m below meth c C hr hlk => ?_)
  refine gx_lv (lv' := [(0, .ref (eA E 49))]) rfl ?_
  refine gx_aload_n C dX4_month_0 (by rfl) (by rfl) ?_
  refine gx_callVI (As := []) (rest := []) C (c_X4_trembling E σ K hM hO) z_X4_trembling ck4 (by rfl) (by rfl) ml_X4_144 (by rfl) (Nat.le_of_ble_eq_true rfl) ⟨Nat.le_of_ble_eq_true rfl, Nat.le_of_ble_eq_true rfl⟩ dX4_month_1 (fun r1 σ1 w1 => ?_)
  obtain ⟨u1, u2⟩ := w1; rw [u1, u2]; clear u1 u2
  refine gx_istore_n (lv2 := [(1, .int (bset (nn K) (trP K))), (0, .ref (eA E 49))]) C dX4_month_4 (by rfl) (by decide) rfl ?_
  refine gx_iconst (v := 0) C dX4_month_5 (by decide) ?_
  refine gx_istore_n (lv2 := [(2, .int 0), (1, .int (bset (nn K) (trP K))), (0, .ref (eA E 49))]) C dX4_month_6 (by rfl) (by decide) rfl ?_
  have loop7 : ∀ (kf i : Nat), i ≤ nn K → nn K < i + kf → ∀ τ : Mm, (vM τ 50 = outK K (trP K) i) → (F1 50 σ τ) → Gx E p e0 (rmF 5 116) s m ([.ref (eA E 49)] : List Value).toArray below meth c (MQ below (va_Qv (fun σ2 => vM σ2 50 = mo K ∧ F1 50 σ σ2) (WQ E) (AA E s.heap.size)) ([.ref (eA E 49)] : List Value).toArray s 0 0 (AA E s.heap.size)) 5 7 [(0, .ref (eA E 49)), (1, .int (bset (nn K) (trP K))), (2, .int (nI i))] [] τ := by
    intro kf
    induction kf with
    | zero => intro i q1 q2; exact absurd q2 (by omega)
    | succ kf ih7 =>
      intro i a7 b7 τ hMt hFt
      refine gx_iload_n C dX4_month_7 (by rfl) (by rfl) ?_
      refine gx_aload_n C dX4_month_8 (by rfl) (by rfl) ?_
      refine gx_getr (j := 50) (k := 0) C ck4 (by rfl) (by rfl) (by decide) fl_X4_9 dX4_month_9 ?_
      refine gx_bipush (v := 6) C dX4_month_12 (by decide) ?_
      refine gx_ialdN (k := 6) C (by rfl) (by rfl) (by decide) (by decide) dX4_month_14 ?_
      refine gx_st (st' := [.int (nI (nn K)), .int (nI i)]) (by rw [show τ 50 6 = nI (nn K) from (mp_n hMt).trans hn]) ?_
      refine gx_icmp_ge (tgt := 39) C dX4_month_15 (by decide) (fun h2 => ?_) (fun h2 => ?_)
      ·
        have h2 := (nI_leI (a := (nn K)) (b := i) (by omega) (by omega)).mp h2
        refine gx_aload_n C dX4_month_39 (by rfl) (by rfl) ?_
        refine gx_getr (j := 50) (k := 0) C ck4 (by rfl) (by rfl) (by decide) fl_X4_9 dX4_month_40 ?_
        refine gx_iconst (v := 4) C dX4_month_43 (by decide) ?_
        refine gx_dup2 C (by rfl) (by rfl) dX4_month_44 ?_
        refine gx_ialdN (k := 4) C (by rfl) (by rfl) (by decide) (by decide) dX4_month_45 ?_
        refine gx_st (st' := [.int ((outK K (trP K) i) 0 2), .int 4, .ref (eA E 50)]) (by rw [mp_t hMt]) ?_
        refine gx_iload_n C dX4_month_46 (by rfl) (by rfl) ?_
        refine gx_callSI (As := [.int (bset (nn K) (trP K))]) (rest := [.int ((outK K (trP K) i) 0 2), .int 4, .ref (eA E 50)]) C (c_X4_many E τ (nn K) (by omega) (trP K)) z_X4_many (by rfl) ml_X4_58 (by rfl) (Nat.le_of_ble_eq_true rfl) ⟨Nat.le_of_ble_eq_true rfl, Nat.le_of_ble_eq_true rfl⟩ dX4_month_47 (fun r3 σ3 w3 => ?_)
        obtain ⟨u1, u2⟩ := w3; rw [u1, u2]; clear u1 u2
        refine gx_iadd C dX4_month_50 ?_
        refine gx_iastN (k := 4) C (by rfl) (by rfl) (by decide) (by decide) dX4_month_51 ?_
        have hM4 : vM (up2 τ 50 4 (((outK K (trP K) i) 0 2) + (nI (cnt (trP K) (nn K))))) 50 = up2 (outK K (trP K) i) 0 2 (((outK K (trP K) i) 0 2) + (nI (cnt (trP K) (nn K)))) := by rw [vM_up (j := 0) (p := 2) (by omega) (by decide) (by rfl), hMt]
        refine gx_iconst (v := 0) C dX4_month_52 (by decide) ?_
        refine gx_istore_n (lv2 := [(2, .int 0), (0, .ref (eA E 49)), (1, .int (bset (nn K) (trP K)))]) C dX4_month_53 (by rfl) (by decide) rfl ?_
        have q1 : i = nn K := by omega
        obtain ⟨X1, eX1⟩ : ∃ X, X = mo1 K := ⟨_, rfl⟩
        have hMX : vM (up2 τ 50 4 (((outK K (trP K) i) 0 2) + (nI (cnt (trP K) (nn K))))) 50 = X1 := by subst q1; rw [eX1]; exact hM4
        have hOX : Ok X1 := by rw [eX1]; exact (mo1_keep hO).1
        have hnX : nn X1 = nn K := by rw [eX1]; exact (mo1_keep hO).2
        have loop54 : ∀ (kf r : Nat), r ≤ 7 → 7 < r + kf → ∀ (τ1 K1 : Mm), vM τ1 50 = K1 → Ok K1 → K1 = flA r X1 → nn K1 = nn K → F1 50 σ τ1 → Gx E p e0 (rmF 5 116) s m ([.ref (eA E 49)] : List Value).toArray below meth c (MQ below (va_Qv (fun σ2 => vM σ2 50 = mo K ∧ F1 50 σ σ2) (WQ E) (AA E s.heap.size)) ([.ref (eA E 49)] : List Value).toArray s 0 0 (AA E s.heap.size)) 5 54 [(0, .ref (eA E 49)), (1, .int (bset (nn K) (trP K))), (2, .int (nI r))] [] τ1 := by
          intro kf
          induction kf with
          | zero => intro r q1 q2; exact absurd q2 (by omega)
          | succ kf ih54 =>
            intro r a54 b54 τ1 K1 hM1 hO1 eK1 hn1 hF1
            have h121 := hO1.1.2
            refine gx_iload_n C dX4_month_54 (by rfl) (by rfl) ?_
            refine gx_bipush (v := 7) C dX4_month_55 (by decide) ?_
            refine gx_icmp_ge (tgt := 100) C dX4_month_57 (by decide) (fun h5 => ?_) (fun h5 => ?_)
            ·
              have h5 := (nI_leI (a := 7) (b := r) (by omega) (by omega)).mp h5
              refine gx_aload_n C dX4_month_100 (by rfl) (by rfl) ?_
              refine gx_getr (j := 50) (k := 0) C ck4 (by rfl) (by rfl) (by decide) fl_X4_9 dX4_month_101 ?_
              refine gx_iconst (v := 0) C dX4_month_104 (by decide) ?_
              refine gx_ialdN (k := 0) C (by rfl) (by rfl) (by decide) (by decide) dX4_month_105 ?_
              refine gx_st (st' := [.int (K1 0 1)]) (by rw [mp_m hM1]) ?_
              refine gx_bipush (v := 12) C dX4_month_106 (by decide) ?_
              refine gx_irem C (by decide) dX4_month_108 ?_
              refine gx_bipush (v := 11) C dX4_month_109 (by decide) ?_
              refine gx_icmp_ne (tgt := 118) C dX4_month_111 (by decide) (fun h6 => ?_) (fun h6 => ?_)
              ·
                have ho := h6
                have eKf : K1 = flA 7 X1 := by rw [eK1, show r = 7 by omega]
                refine gx_iconst (v := 0) C dX4_month_118 (by decide) ?_
                refine gx_istore_n (lv2 := [(2, .int 0), (0, .ref (eA E 49)), (1, .int (bset (nn K) (trP K)))]) C dX4_month_119 (by rfl) (by decide) rfl ?_
                refine gx_iconst (v := 0) C dX4_month_120 (by decide) ?_
                refine gx_istore_n (lv2 := [(3, .int 0), (2, .int 0), (0, .ref (eA E 49)), (1, .int (bset (nn K) (trP K)))]) C dX4_month_121 (by rfl) (by decide) rfl ?_
                have loop122 : ∀ (kf i : Nat), i ≤ nn K1 → nn K1 < i + kf → ∀ τ : Mm, (vM τ 50 = pgK K1 false i) → (F1 50 σ τ) → Gx E p e0 (rmF 5 116) s m ([.ref (eA E 49)] : List Value).toArray below meth c (MQ below (va_Qv (fun σ2 => vM σ2 50 = mo K ∧ F1 50 σ σ2) (WQ E) (AA E s.heap.size)) ([.ref (eA E 49)] : List Value).toArray s 0 0 (AA E s.heap.size)) 5 122 [(0, .ref (eA E 49)), (1, .int (bset (nn K) (trP K))), (2, .int 0), (3, .int (nI i))] [] τ := by
                  intro kf
                  induction kf with
                  | zero => intro i q1 q2; exact absurd q2 (by omega)
                  | succ kf ih122 =>
                    intro i a122 b122 τ hMt hFt
                    refine gx_iload_n C dX4_month_122 (by rfl) (by rfl) ?_
                    refine gx_aload_n C dX4_month_123 (by rfl) (by rfl) ?_
                    refine gx_getr (j := 50) (k := 0) C ck4 (by rfl) (by rfl) (by decide) fl_X4_9 dX4_month_124 ?_
                    refine gx_bipush (v := 6) C dX4_month_127 (by decide) ?_
                    refine gx_ialdN (k := 6) C (by rfl) (by rfl) (by decide) (by decide) dX4_month_129 ?_
                    refine gx_st (st' := [.int (nI (nn K1)), .int (nI i)]) (by rw [show τ 50 6 = nI (nn K1) from (mp_n hMt).trans ((pg_nn K1 false i).trans hO1.1.1)]) ?_
                    refine gx_icmp_ge (tgt := 216) C dX4_month_130 (by decide) (fun h7 => ?_) (fun h7 => ?_)
                    ·
                      have h7 := (nI_leI (a := (nn K1)) (b := i) (by omega) (by omega)).mp h7
                      refine gx_aload_n C dX4_month_216 (by rfl) (by rfl) ?_
                      refine gx_getr (j := 50) (k := 0) C ck4 (by rfl) (by rfl) (by decide) fl_X4_9 dX4_month_217 ?_
                      refine gx_iconst (v := 0) C dX4_month_220 (by decide) ?_
                      refine gx_dup2 C (by rfl) (by rfl) dX4_month_221 ?_
                      refine gx_ialdN (k := 0) C (by rfl) (by rfl) (by decide) (by decide) dX4_month_222 ?_
                      refine gx_st (st' := [.int ((pgK K1 false i) 0 1), .int 0, .ref (eA E 50)]) (by rw [mp_m hMt]) ?_
                      refine gx_iconst (v := 1) C dX4_month_223 (by decide) ?_
                      refine gx_iadd C dX4_month_224 ?_
                      refine gx_iastN (k := 0) C (by rfl) (by rfl) (by decide) (by decide) dX4_month_225 ?_
                      have hM8 : vM (up2 τ 50 0 (((pgK K1 false i) 0 1) + 1)) 50 = up2 (pgK K1 false i) 0 1 (((pgK K1 false i) 0 1) + 1) := by rw [vM_up (j := 0) (p := 1) (by omega) (by decide) (by rfl), hMt]
                      exact gx_vret C hr hlk ⟨by have q1 : i = nn K1 := (by omega); subst q1; have m2 : mo2 K = pyK K1 (nn K1) := (by rw [mo2, ← eX1, ← eKf, hn1]); have m3 : mo3 (mo2 K) = pgK K1 false (nn K1) := (by rw [m2]; have ho := ho; rw [show K1 0 1 = pyK K1 (nn K1) 0 1 by simp [pyK]] at ho; rw [mo3]; rw [if_neg ho]; rfl); rw [mo, m3]; exact hM8, hFt.up⟩ dX4_month_226
                    ·
                      have h7 := (not_congr (nI_leI (a := (nn K1)) (b := i) (by omega) (by omega))).mp h7
                      refine gx_aload_n C dX4_month_133 (by rfl) (by rfl) ?_
                      refine gx_iload_n C dX4_month_134 (by rfl) (by rfl) ?_
                      refine gx_iconst (v := 4) C dX4_month_135 (by decide) ?_
                      refine gx_callVI (As := [.int (nI i), .int 4]) (rest := []) C (c_X4_is E τ i (by omega) 4 (by omega)) z_X4_is ck4 (by rfl) (by rfl) ml_X4_51 (by rfl) (Nat.le_of_ble_eq_true rfl) ⟨Nat.le_of_ble_eq_true rfl, Nat.le_of_ble_eq_true rfl⟩ dX4_month_136 (fun r9 σ9 w9 => ?_)
                      obtain ⟨u1, u2⟩ := w9; rw [u1, u2]; clear u1 u2
                      refine gx_st (st' := [.int (K1 5 i)]) (by rw [mp_5 hMt (p := i) (by omega), pg_5]) ?_
                      refine gx_bipush (v := 8) C dX4_month_139 (by decide) ?_
                      refine gx_iadd C dX4_month_141 ?_
                      refine gx_aload_n C dX4_month_142 (by rfl) (by rfl) ?_
                      refine gx_iload_n C dX4_month_143 (by rfl) (by rfl) ?_
                      refine gx_iconst (v := 1) C dX4_month_144 (by decide) ?_
                      refine gx_callVI (As := [.int (nI i), .int 1]) (rest := [.int ((K1 5 i) + 8)]) C (c_X4_is E τ i (by omega) 1 (by omega)) z_X4_is ck4 (by rfl) (by rfl) ml_X4_51 (by rfl) (Nat.le_of_ble_eq_true rfl) ⟨Nat.le_of_ble_eq_true rfl, Nat.le_of_ble_eq_true rfl⟩ dX4_month_145 (fun r10 σ10 w10 => ?_)
                      obtain ⟨u1, u2⟩ := w10; rw [u1, u2]; clear u1 u2
                      refine gx_st (st' := [.int (K1 2 i), .int ((K1 5 i) + 8)]) (by rw [mp_2 hMt (p := i) (by omega), pg_2]) ?_
                      refine gx_isub C dX4_month_148 ?_
                      refine gx_istore (lv2 := [(4, .int (((K1 5 i) + 8) - (K1 2 i))), (0, .ref (eA E 49)), (1, .int (bset (nn K) (trP K))), (2, .int 0), (3, .int (nI i))]) C dX4_month_149 (by decide) rfl ?_
                      refine gx_aload_n C dX4_month_151 (by rfl) (by rfl) ?_
                      refine gx_iload_n C dX4_month_152 (by rfl) (by rfl) ?_
                      refine gx_callVI (As := [.int (nI i)]) (rest := []) C (c_X4_isOut2 E τ (pgK K1 false i) hMt i (by omega)) z_X4_isOut ck4 (by rfl) (by rfl) ml_X4_119 (by rfl) (Nat.le_of_ble_eq_true rfl) ⟨Nat.le_of_ble_eq_true rfl, Nat.le_of_ble_eq_true rfl⟩ dX4_month_153 (fun r11 σ11 w11 => ?_)
                      obtain ⟨u1, u2⟩ := w11; rw [u1, u2]; clear u1 u2
                      refine gx_st (st' := [.int (b2 (K1 2 i = -1))]) (by rw [pg_2]) ?_
                      refine gx_if_ne (tgt := 181) C dX4_month_156 (by decide) (fun h14 => ?_) (fun h14 => ?_)
                      ·
                        have h14 := b2_nz.mp h14
                        refine gx_iload_n C dX4_month_181 (by rfl) (by rfl) ?_
                        refine gx_if_eq (tgt := 210) C dX4_month_182 (by decide) (fun h15 => ?_) (fun h15 => ?_)
                        ·
                          clear h15
                          refine gx_iinc (v := nI (i + 1)) (lv2 := [(3, .int (nI (i + 1))), (4, .int (((K1 5 i) + 8) - (K1 2 i))), (0, .ref (eA E 49)), (1, .int (bset (nn K) (trP K))), (2, .int 0)]) C dX4_month_210 (by rfl) (by exact nI_p1 _) (by decide) rfl ?_
                          refine gx_goto (tgt := 122) C dX4_month_213 (by decide) ?_
                          refine gx_sub [2, 3, 4, 0] (lv' := [(0, .ref (eA E 49)), (1, .int (bset (nn K) (trP K))), (2, .int 0), (3, .int (nI (i + 1)))]) rfl ?_
                          exact ih122 (i + 1) (by omega) (by omega) τ (by rw [← pg_f2 (K := K1) (i := i) (by assumption)]; exact hMt) hFt
                        ·
                          exact absurd h15 (by decide)
                      ·
                        have h14 := b2_z.mp h14
                        refine gx_aload_n C dX4_month_159 (by rfl) (by rfl) ?_
                        refine gx_iload_n C dX4_month_160 (by rfl) (by rfl) ?_
                        refine gx_iconst (v := 4) C dX4_month_161 (by decide) ?_
                        refine gx_iload C dX4_month_162 (by rfl) ?_
                        refine gx_sipush (v := 9999) C dX4_month_164 (by decide) ?_
                        refine gx_icmp_le (tgt := 176) C dX4_month_167 (by decide) (fun h16 => ?_) (fun h16 => ?_)
                        ·
                          refine gx_iload C dX4_month_176 (by rfl) ?_
                          refine gx_callVV (As := [.int (nI i), .int 4, .int (((K1 5 i) + 8) - (K1 2 i))]) (rest := []) C (c_X4_makes E τ i (by omega) 4 (by omega) (((K1 5 i) + 8) - (K1 2 i))) z_X4_makes ck4 (by rfl) (by rfl) ml_X4_87 (by rfl) (Nat.le_of_ble_eq_true rfl) ⟨Nat.le_of_ble_eq_true rfl, Nat.le_of_ble_eq_true rfl⟩ dX4_month_178 (fun σ18 w18 => ?_)
                          rw [w18]; clear w18
                          have hM17 : vM (up2 τ 50 (15 + 7 * i + 4) (((K1 5 i) + 8) - (K1 2 i))) 50 = up2 (pgK K1 false i) 5 i (((K1 5 i) + 8) - (K1 2 i)) := by rw [vM_mk (by omega) (by omega), hMt]
                          refine gx_iload_n C dX4_month_181 (by rfl) (by rfl) ?_
                          refine gx_if_eq (tgt := 210) C dX4_month_182 (by decide) (fun h19 => ?_) (fun h19 => ?_)
                          ·
                            clear h19
                            refine gx_iinc (v := nI (i + 1)) (lv2 := [(3, .int (nI (i + 1))), (4, .int (((K1 5 i) + 8) - (K1 2 i))), (0, .ref (eA E 49)), (1, .int (bset (nn K) (trP K))), (2, .int 0)]) C dX4_month_210 (by rfl) (by exact nI_p1 _) (by decide) rfl ?_
                            refine gx_goto (tgt := 122) C dX4_month_213 (by decide) ?_
                            refine gx_sub [2, 3, 4, 0] (lv' := [(0, .ref (eA E 49)), (1, .int (bset (nn K) (trP K))), (2, .int 0), (3, .int (nI (i + 1)))]) rfl ?_
                            exact ih122 (i + 1) (by omega) (by omega) (up2 τ 50 (15 + 7 * i + 4) (((K1 5 i) + 8) - (K1 2 i))) (by rw [← pg_f (K := K1) (i := i) (v := ((K1 5 i) + 8) - (K1 2 i)) (by rw [if_neg (by assumption)]; exact pv_f (by assumption))]; exact hM17) hFt.up
                          ·
                            exact absurd h19 (by decide)
                        ·
                          refine gx_sipush (v := 9999) C dX4_month_170 (by decide) ?_
                          refine gx_goto (tgt := 178) C dX4_month_173 (by decide) ?_
                          refine gx_callVV (As := [.int (nI i), .int 4, .int 9999]) (rest := []) C (c_X4_makes E τ i (by omega) 4 (by omega) 9999) z_X4_makes ck4 (by rfl) (by rfl) ml_X4_87 (by rfl) (Nat.le_of_ble_eq_true rfl) ⟨Nat.le_of_ble_eq_true rfl, Nat.le_of_ble_eq_true rfl⟩ dX4_month_178 (fun σ21 w21 => ?_)
                          rw [w21]; clear w21
                          have hM20 : vM (up2 τ 50 (15 + 7 * i + 4) 9999) 50 = up2 (pgK K1 false i) 5 i 9999 := by rw [vM_mk (by omega) (by omega), hMt]
                          refine gx_iload_n C dX4_month_181 (by rfl) (by rfl) ?_
                          refine gx_if_eq (tgt := 210) C dX4_month_182 (by decide) (fun h22 => ?_) (fun h22 => ?_)
                          ·
                            clear h22
                            refine gx_iinc (v := nI (i + 1)) (lv2 := [(3, .int (nI (i + 1))), (4, .int (((K1 5 i) + 8) - (K1 2 i))), (0, .ref (eA E 49)), (1, .int (bset (nn K) (trP K))), (2, .int 0)]) C dX4_month_210 (by rfl) (by exact nI_p1 _) (by decide) rfl ?_
                            refine gx_goto (tgt := 122) C dX4_month_213 (by decide) ?_
                            refine gx_sub [2, 3, 4, 0] (lv' := [(0, .ref (eA E 49)), (1, .int (bset (nn K) (trP K))), (2, .int 0), (3, .int (nI (i + 1)))]) rfl ?_
                            exact ih122 (i + 1) (by omega) (by omega) (up2 τ 50 (15 + 7 * i + 4) 9999) (by rw [← pg_f (K := K1) (i := i) (v := 9999) (by rw [if_neg (by assumption)]; exact pv_t (by assumption))]; exact hM20) hFt.up
                          ·
                            exact absurd h22 (by decide)
                refine gx_sub [2, 3, 1, 0] (lv' := [(0, .ref (eA E 49)), (1, .int (bset (nn K) (trP K))), (2, .int 0), (3, .int 0)]) rfl ?_
                refine gx_lv (lv' := [(0, .ref (eA E 49)), (1, .int (bset (nn K) (trP K))), (2, .int 0), (3, .int (nI 0))]) (by rfl) ?_
                exact loop122 (nn K1 + 1) 0 (by omega) (by omega) τ1 (by rw [pg_0]; exact hM1) hF1
              ·
                have ho := h6
                have eKf : K1 = flA 7 X1 := by rw [eK1, show r = 7 by omega]
                refine gx_iconst (v := 1) C dX4_month_114 (by decide) ?_
                refine gx_goto (tgt := 119) C dX4_month_115 (by decide) ?_
                refine gx_istore_n (lv2 := [(2, .int 1), (0, .ref (eA E 49)), (1, .int (bset (nn K) (trP K)))]) C dX4_month_119 (by rfl) (by decide) rfl ?_
                refine gx_iconst (v := 0) C dX4_month_120 (by decide) ?_
                refine gx_istore_n (lv2 := [(3, .int 0), (2, .int 1), (0, .ref (eA E 49)), (1, .int (bset (nn K) (trP K)))]) C dX4_month_121 (by rfl) (by decide) rfl ?_
                have loop122 : ∀ (kf i : Nat), i ≤ nn K1 → nn K1 < i + kf → ∀ τ : Mm, (vM τ 50 = pgK K1 true i) → (F1 50 σ τ) → Gx E p e0 (rmF 5 116) s m ([.ref (eA E 49)] : List Value).toArray below meth c (MQ below (va_Qv (fun σ2 => vM σ2 50 = mo K ∧ F1 50 σ σ2) (WQ E) (AA E s.heap.size)) ([.ref (eA E 49)] : List Value).toArray s 0 0 (AA E s.heap.size)) 5 122 [(0, .ref (eA E 49)), (1, .int (bset (nn K) (trP K))), (2, .int 1), (3, .int (nI i))] [] τ := by
                  intro kf
                  induction kf with
                  | zero => intro i q1 q2; exact absurd q2 (by omega)
                  | succ kf ih122 =>
                    intro i a122 b122 τ hMt hFt
                    refine gx_iload_n C dX4_month_122 (by rfl) (by rfl) ?_
                    refine gx_aload_n C dX4_month_123 (by rfl) (by rfl) ?_
                    refine gx_getr (j := 50) (k := 0) C ck4 (by rfl) (by rfl) (by decide) fl_X4_9 dX4_month_124 ?_
                    refine gx_bipush (v := 6) C dX4_month_127 (by decide) ?_
                    refine gx_ialdN (k := 6) C (by rfl) (by rfl) (by decide) (by decide) dX4_month_129 ?_
                    refine gx_st (st' := [.int (nI (nn K1)), .int (nI i)]) (by rw [show τ 50 6 = nI (nn K1) from (mp_n hMt).trans ((pg_nn K1 true i).trans hO1.1.1)]) ?_
                    refine gx_icmp_ge (tgt := 216) C dX4_month_130 (by decide) (fun h23 => ?_) (fun h23 => ?_)
                    ·
                      have h23 := (nI_leI (a := (nn K1)) (b := i) (by omega) (by omega)).mp h23
                      refine gx_aload_n C dX4_month_216 (by rfl) (by rfl) ?_
                      refine gx_getr (j := 50) (k := 0) C ck4 (by rfl) (by rfl) (by decide) fl_X4_9 dX4_month_217 ?_
                      refine gx_iconst (v := 0) C dX4_month_220 (by decide) ?_
                      refine gx_dup2 C (by rfl) (by rfl) dX4_month_221 ?_
                      refine gx_ialdN (k := 0) C (by rfl) (by rfl) (by decide) (by decide) dX4_month_222 ?_
                      refine gx_st (st' := [.int ((pgK K1 true i) 0 1), .int 0, .ref (eA E 50)]) (by rw [mp_m hMt]) ?_
                      refine gx_iconst (v := 1) C dX4_month_223 (by decide) ?_
                      refine gx_iadd C dX4_month_224 ?_
                      refine gx_iastN (k := 0) C (by rfl) (by rfl) (by decide) (by decide) dX4_month_225 ?_
                      have hM24 : vM (up2 τ 50 0 (((pgK K1 true i) 0 1) + 1)) 50 = up2 (pgK K1 true i) 0 1 (((pgK K1 true i) 0 1) + 1) := by rw [vM_up (j := 0) (p := 1) (by omega) (by decide) (by rfl), hMt]
                      exact gx_vret C hr hlk ⟨by have q1 : i = nn K1 := (by omega); subst q1; have m2 : mo2 K = pyK K1 (nn K1) := (by rw [mo2, ← eX1, ← eKf, hn1]); have m3 : mo3 (mo2 K) = pgK K1 true (nn K1) := (by rw [m2]; have ho := ho; rw [show K1 0 1 = pyK K1 (nn K1) 0 1 by simp [pyK]] at ho; rw [mo3]; rw [if_pos ho]; rfl); rw [mo, m3]; exact hM24, hFt.up⟩ dX4_month_226
                    ·
                      have h23 := (not_congr (nI_leI (a := (nn K1)) (b := i) (by omega) (by omega))).mp h23
                      refine gx_aload_n C dX4_month_133 (by rfl) (by rfl) ?_
                      refine gx_iload_n C dX4_month_134 (by rfl) (by rfl) ?_
                      refine gx_iconst (v := 4) C dX4_month_135 (by decide) ?_
                      refine gx_callVI (As := [.int (nI i), .int 4]) (rest := []) C (c_X4_is E τ i (by omega) 4 (by omega)) z_X4_is ck4 (by rfl) (by rfl) ml_X4_51 (by rfl) (Nat.le_of_ble_eq_true rfl) ⟨Nat.le_of_ble_eq_true rfl, Nat.le_of_ble_eq_true rfl⟩ dX4_month_136 (fun r26 σ26 w26 => ?_)
                      obtain ⟨u1, u2⟩ := w26; rw [u1, u2]; clear u1 u2
                      refine gx_st (st' := [.int (K1 5 i)]) (by rw [mp_5 hMt (p := i) (by omega), pg_5]) ?_
                      refine gx_bipush (v := 8) C dX4_month_139 (by decide) ?_
                      refine gx_iadd C dX4_month_141 ?_
                      refine gx_aload_n C dX4_month_142 (by rfl) (by rfl) ?_
                      refine gx_iload_n C dX4_month_143 (by rfl) (by rfl) ?_
                      refine gx_iconst (v := 1) C dX4_month_144 (by decide) ?_
                      refine gx_callVI (As := [.int (nI i), .int 1]) (rest := [.int ((K1 5 i) + 8)]) C (c_X4_is E τ i (by omega) 1 (by omega)) z_X4_is ck4 (by rfl) (by rfl) ml_X4_51 (by rfl) (Nat.le_of_ble_eq_true rfl) ⟨Nat.le_of_ble_eq_true rfl, Nat.le_of_ble_eq_true rfl⟩ dX4_month_145 (fun r27 σ27 w27 => ?_)
                      obtain ⟨u1, u2⟩ := w27; rw [u1, u2]; clear u1 u2
                      refine gx_st (st' := [.int (K1 2 i), .int ((K1 5 i) + 8)]) (by rw [mp_2 hMt (p := i) (by omega), pg_2]) ?_
                      refine gx_isub C dX4_month_148 ?_
                      refine gx_istore (lv2 := [(4, .int (((K1 5 i) + 8) - (K1 2 i))), (0, .ref (eA E 49)), (1, .int (bset (nn K) (trP K))), (2, .int 1), (3, .int (nI i))]) C dX4_month_149 (by decide) rfl ?_
                      refine gx_aload_n C dX4_month_151 (by rfl) (by rfl) ?_
                      refine gx_iload_n C dX4_month_152 (by rfl) (by rfl) ?_
                      refine gx_callVI (As := [.int (nI i)]) (rest := []) C (c_X4_isOut2 E τ (pgK K1 true i) hMt i (by omega)) z_X4_isOut ck4 (by rfl) (by rfl) ml_X4_119 (by rfl) (Nat.le_of_ble_eq_true rfl) ⟨Nat.le_of_ble_eq_true rfl, Nat.le_of_ble_eq_true rfl⟩ dX4_month_153 (fun r28 σ28 w28 => ?_)
                      obtain ⟨u1, u2⟩ := w28; rw [u1, u2]; clear u1 u2
                      refine gx_st (st' := [.int (b2 (K1 2 i = -1))]) (by rw [pg_2]) ?_
                      refine gx_if_ne (tgt := 181) C dX4_month_156 (by decide) (fun h29 => ?_) (fun h29 => ?_)
                      ·
                        have h29 := b2_nz.mp h29
                        refine gx_iload_n C dX4_month_181 (by rfl) (by rfl) ?_
                        refine gx_if_eq (tgt := 210) C dX4_month_182 (by decide) (fun h30 => ?_) (fun h30 => ?_)
                        ·
                          exact absurd h30 (by decide)
                        ·
                          clear h30
                          refine gx_aload_n C dX4_month_185 (by rfl) (by rfl) ?_
                          refine gx_iload_n C dX4_month_186 (by rfl) (by rfl) ?_
                          refine gx_iconst (v := 2) C dX4_month_187 (by decide) ?_
                          refine gx_callVI (As := [.int (nI i), .int 2]) (rest := []) C (c_X4_is E τ i (by omega) 2 (by omega)) z_X4_is ck4 (by rfl) (by rfl) ml_X4_51 (by rfl) (Nat.le_of_ble_eq_true rfl) ⟨Nat.le_of_ble_eq_true rfl, Nat.le_of_ble_eq_true rfl⟩ dX4_month_188 (fun r31 σ31 w31 => ?_)
                          obtain ⟨u1, u2⟩ := w31; rw [u1, u2]; clear u1 u2
                          refine gx_st (st' := [.int (K1 3 i)]) (by rw [mp_3 hMt (p := i) (by omega), pg_3]) ?_
                          refine gx_bipush (v := 99) C dX4_month_191 (by decide) ?_
                          refine gx_icmp_ge (tgt := 210) C dX4_month_193 (by decide) (fun h32 => ?_) (fun h32 => ?_)
                          ·
                            refine gx_iinc (v := nI (i + 1)) (lv2 := [(3, .int (nI (i + 1))), (4, .int (((K1 5 i) + 8) - (K1 2 i))), (0, .ref (eA E 49)), (1, .int (bset (nn K) (trP K))), (2, .int 1)]) C dX4_month_210 (by rfl) (by exact nI_p1 _) (by decide) rfl ?_
                            refine gx_goto (tgt := 122) C dX4_month_213 (by decide) ?_
                            refine gx_sub [2, 3, 4, 0] (lv' := [(0, .ref (eA E 49)), (1, .int (bset (nn K) (trP K))), (2, .int 1), (3, .int (nI (i + 1)))]) rfl ?_
                            exact ih122 (i + 1) (by omega) (by omega) τ (by rw [← pg_t (K := K1) (i := i) (v := K1 5 i) (w := K1 3 i) (by rw [if_pos (by assumption)]) ((age_m (hO1.2.1 i (by omega)).2.2.1).2 (Int32.not_lt.mpr (by assumption))).symm, show up2 (pgK K1 true i) 5 i (K1 5 i) = pgK K1 true i from pg_s5, show up2 (pgK K1 true i) 3 i (K1 3 i) = pgK K1 true i from pg_s3]; exact hMt) hFt
                          ·
                            refine gx_aload_n C dX4_month_196 (by rfl) (by rfl) ?_
                            refine gx_iload_n C dX4_month_197 (by rfl) (by rfl) ?_
                            refine gx_iconst (v := 2) C dX4_month_198 (by decide) ?_
                            refine gx_aload_n C dX4_month_199 (by rfl) (by rfl) ?_
                            refine gx_iload_n C dX4_month_200 (by rfl) (by rfl) ?_
                            refine gx_iconst (v := 2) C dX4_month_201 (by decide) ?_
                            refine gx_callVI (As := [.int (nI i), .int 2]) (rest := [.int 2, .int (nI i), .ref (eA E 49)]) C (c_X4_is E τ i (by omega) 2 (by omega)) z_X4_is ck4 (by rfl) (by rfl) ml_X4_51 (by rfl) (Nat.le_of_ble_eq_true rfl) ⟨Nat.le_of_ble_eq_true rfl, Nat.le_of_ble_eq_true rfl⟩ dX4_month_202 (fun r33 σ33 w33 => ?_)
                            obtain ⟨u1, u2⟩ := w33; rw [u1, u2]; clear u1 u2
                            refine gx_st (st' := [.int (K1 3 i), .int 2, .int (nI i), .ref (eA E 49)]) (by rw [mp_3 hMt (p := i) (by omega), pg_3]) ?_
                            refine gx_iconst (v := 1) C dX4_month_205 (by decide) ?_
                            refine gx_iadd C dX4_month_206 ?_
                            refine gx_callVV (As := [.int (nI i), .int 2, .int ((K1 3 i) + 1)]) (rest := []) C (c_X4_makes E τ i (by omega) 2 (by omega) ((K1 3 i) + 1)) z_X4_makes ck4 (by rfl) (by rfl) ml_X4_87 (by rfl) (Nat.le_of_ble_eq_true rfl) ⟨Nat.le_of_ble_eq_true rfl, Nat.le_of_ble_eq_true rfl⟩ dX4_month_207 (fun σ35 w35 => ?_)
                            rw [w35]; clear w35
                            have hM34 : vM (up2 τ 50 (15 + 7 * i + 2) ((K1 3 i) + 1)) 50 = up2 (pgK K1 true i) 3 i ((K1 3 i) + 1) := by rw [vM_mk (by omega) (by omega), hMt]
                            refine gx_iinc (v := nI (i + 1)) (lv2 := [(3, .int (nI (i + 1))), (4, .int (((K1 5 i) + 8) - (K1 2 i))), (0, .ref (eA E 49)), (1, .int (bset (nn K) (trP K))), (2, .int 1)]) C dX4_month_210 (by rfl) (by exact nI_p1 _) (by decide) rfl ?_
                            refine gx_goto (tgt := 122) C dX4_month_213 (by decide) ?_
                            refine gx_sub [2, 3, 4, 0] (lv' := [(0, .ref (eA E 49)), (1, .int (bset (nn K) (trP K))), (2, .int 1), (3, .int (nI (i + 1)))]) rfl ?_
                            exact ih122 (i + 1) (by omega) (by omega) (up2 τ 50 (15 + 7 * i + 2) ((K1 3 i) + 1)) (by rw [← pg_t (K := K1) (i := i) (v := K1 5 i) (w := (K1 3 i) + 1) (by rw [if_pos (by assumption)]) ((age_m (hO1.2.1 i (by omega)).2.2.1).1 (Int32.not_le.mp (by assumption))).symm, show up2 (pgK K1 true i) 5 i (K1 5 i) = pgK K1 true i from pg_s5]; exact hM34) hFt.up
                      ·
                        have h29 := b2_z.mp h29
                        refine gx_aload_n C dX4_month_159 (by rfl) (by rfl) ?_
                        refine gx_iload_n C dX4_month_160 (by rfl) (by rfl) ?_
                        refine gx_iconst (v := 4) C dX4_month_161 (by decide) ?_
                        refine gx_iload C dX4_month_162 (by rfl) ?_
                        refine gx_sipush (v := 9999) C dX4_month_164 (by decide) ?_
                        refine gx_icmp_le (tgt := 176) C dX4_month_167 (by decide) (fun h36 => ?_) (fun h36 => ?_)
                        ·
                          refine gx_iload C dX4_month_176 (by rfl) ?_
                          refine gx_callVV (As := [.int (nI i), .int 4, .int (((K1 5 i) + 8) - (K1 2 i))]) (rest := []) C (c_X4_makes E τ i (by omega) 4 (by omega) (((K1 5 i) + 8) - (K1 2 i))) z_X4_makes ck4 (by rfl) (by rfl) ml_X4_87 (by rfl) (Nat.le_of_ble_eq_true rfl) ⟨Nat.le_of_ble_eq_true rfl, Nat.le_of_ble_eq_true rfl⟩ dX4_month_178 (fun σ39 w39 => ?_)
                          rw [w39]; clear w39
                          have hM38 : vM (up2 τ 50 (15 + 7 * i + 4) (((K1 5 i) + 8) - (K1 2 i))) 50 = up2 (pgK K1 true i) 5 i (((K1 5 i) + 8) - (K1 2 i)) := by rw [vM_mk (by omega) (by omega), hMt]
                          refine gx_iload_n C dX4_month_181 (by rfl) (by rfl) ?_
                          refine gx_if_eq (tgt := 210) C dX4_month_182 (by decide) (fun h40 => ?_) (fun h40 => ?_)
                          ·
                            exact absurd h40 (by decide)
                          ·
                            clear h40
                            refine gx_aload_n C dX4_month_185 (by rfl) (by rfl) ?_
                            refine gx_iload_n C dX4_month_186 (by rfl) (by rfl) ?_
                            refine gx_iconst (v := 2) C dX4_month_187 (by decide) ?_
                            refine gx_callVI (As := [.int (nI i), .int 2]) (rest := []) C (c_X4_is E (up2 τ 50 (15 + 7 * i + 4) (((K1 5 i) + 8) - (K1 2 i))) i (by omega) 2 (by omega)) z_X4_is ck4 (by rfl) (by rfl) ml_X4_51 (by rfl) (Nat.le_of_ble_eq_true rfl) ⟨Nat.le_of_ble_eq_true rfl, Nat.le_of_ble_eq_true rfl⟩ dX4_month_188 (fun r41 σ41 w41 => ?_)
                            obtain ⟨u1, u2⟩ := w41; rw [u1, u2]; clear u1 u2
                            refine gx_st (st' := [.int (K1 3 i)]) (by rw [mp_3 hM38 (p := i) (by omega), up2_up, if_neg (by omega), pg_3]) ?_
                            refine gx_bipush (v := 99) C dX4_month_191 (by decide) ?_
                            refine gx_icmp_ge (tgt := 210) C dX4_month_193 (by decide) (fun h42 => ?_) (fun h42 => ?_)
                            ·
                              refine gx_iinc (v := nI (i + 1)) (lv2 := [(3, .int (nI (i + 1))), (4, .int (((K1 5 i) + 8) - (K1 2 i))), (0, .ref (eA E 49)), (1, .int (bset (nn K) (trP K))), (2, .int 1)]) C dX4_month_210 (by rfl) (by exact nI_p1 _) (by decide) rfl ?_
                              refine gx_goto (tgt := 122) C dX4_month_213 (by decide) ?_
                              refine gx_sub [2, 3, 4, 0] (lv' := [(0, .ref (eA E 49)), (1, .int (bset (nn K) (trP K))), (2, .int 1), (3, .int (nI (i + 1)))]) rfl ?_
                              exact ih122 (i + 1) (by omega) (by omega) (up2 τ 50 (15 + 7 * i + 4) (((K1 5 i) + 8) - (K1 2 i))) (by rw [← pg_t (K := K1) (i := i) (v := ((K1 5 i) + 8) - (K1 2 i)) (w := K1 3 i) (by rw [if_neg (by assumption)]; exact pv_f (by assumption)) ((age_m (hO1.2.1 i (by omega)).2.2.1).2 (Int32.not_lt.mpr (by assumption))).symm, show up2 (up2 (pgK K1 true i) 5 i (((K1 5 i) + 8) - (K1 2 i))) 3 i (K1 3 i) = up2 (pgK K1 true i) 5 i (((K1 5 i) + 8) - (K1 2 i)) from pg_s53]; exact hM38) hFt.up
                            ·
                              refine gx_aload_n C dX4_month_196 (by rfl) (by rfl) ?_
                              refine gx_iload_n C dX4_month_197 (by rfl) (by rfl) ?_
                              refine gx_iconst (v := 2) C dX4_month_198 (by decide) ?_
                              refine gx_aload_n C dX4_month_199 (by rfl) (by rfl) ?_
                              refine gx_iload_n C dX4_month_200 (by rfl) (by rfl) ?_
                              refine gx_iconst (v := 2) C dX4_month_201 (by decide) ?_
                              refine gx_callVI (As := [.int (nI i), .int 2]) (rest := [.int 2, .int (nI i), .ref (eA E 49)]) C (c_X4_is E (up2 τ 50 (15 + 7 * i + 4) (((K1 5 i) + 8) - (K1 2 i))) i (by omega) 2 (by omega)) z_X4_is ck4 (by rfl) (by rfl) ml_X4_51 (by rfl) (Nat.le_of_ble_eq_true rfl) ⟨Nat.le_of_ble_eq_true rfl, Nat.le_of_ble_eq_true rfl⟩ dX4_month_202 (fun r43 σ43 w43 => ?_)
                              obtain ⟨u1, u2⟩ := w43; rw [u1, u2]; clear u1 u2
                              refine gx_st (st' := [.int (K1 3 i), .int 2, .int (nI i), .ref (eA E 49)]) (by rw [mp_3 hM38 (p := i) (by omega), up2_up, if_neg (by omega), pg_3]) ?_
                              refine gx_iconst (v := 1) C dX4_month_205 (by decide) ?_
                              refine gx_iadd C dX4_month_206 ?_
                              refine gx_callVV (As := [.int (nI i), .int 2, .int ((K1 3 i) + 1)]) (rest := []) C (c_X4_makes E (up2 τ 50 (15 + 7 * i + 4) (((K1 5 i) + 8) - (K1 2 i))) i (by omega) 2 (by omega) ((K1 3 i) + 1)) z_X4_makes ck4 (by rfl) (by rfl) ml_X4_87 (by rfl) (Nat.le_of_ble_eq_true rfl) ⟨Nat.le_of_ble_eq_true rfl, Nat.le_of_ble_eq_true rfl⟩ dX4_month_207 (fun σ45 w45 => ?_)
                              rw [w45]; clear w45
                              have hM44 : vM (up2 (up2 τ 50 (15 + 7 * i + 4) (((K1 5 i) + 8) - (K1 2 i))) 50 (15 + 7 * i + 2) ((K1 3 i) + 1)) 50 = up2 (up2 (pgK K1 true i) 5 i (((K1 5 i) + 8) - (K1 2 i))) 3 i ((K1 3 i) + 1) := by rw [vM_mk (by omega) (by omega), hM38]
                              refine gx_iinc (v := nI (i + 1)) (lv2 := [(3, .int (nI (i + 1))), (4, .int (((K1 5 i) + 8) - (K1 2 i))), (0, .ref (eA E 49)), (1, .int (bset (nn K) (trP K))), (2, .int 1)]) C dX4_month_210 (by rfl) (by exact nI_p1 _) (by decide) rfl ?_
                              refine gx_goto (tgt := 122) C dX4_month_213 (by decide) ?_
                              refine gx_sub [2, 3, 4, 0] (lv' := [(0, .ref (eA E 49)), (1, .int (bset (nn K) (trP K))), (2, .int 1), (3, .int (nI (i + 1)))]) rfl ?_
                              exact ih122 (i + 1) (by omega) (by omega) (up2 (up2 τ 50 (15 + 7 * i + 4) (((K1 5 i) + 8) - (K1 2 i))) 50 (15 + 7 * i + 2) ((K1 3 i) + 1)) (by rw [← pg_t (K := K1) (i := i) (v := ((K1 5 i) + 8) - (K1 2 i)) (w := (K1 3 i) + 1) (by rw [if_neg (by assumption)]; exact pv_f (by assumption)) ((age_m (hO1.2.1 i (by omega)).2.2.1).1 (Int32.not_le.mp (by assumption))).symm]; exact hM44) hFt.up.up
                        ·
                          refine gx_sipush (v := 9999) C dX4_month_170 (by decide) ?_
                          refine gx_goto (tgt := 178) C dX4_month_173 (by decide) ?_
                          refine gx_callVV (As := [.int (nI i), .int 4, .int 9999]) (rest := []) C (c_X4_makes E τ i (by omega) 4 (by omega) 9999) z_X4_makes ck4 (by rfl) (by rfl) ml_X4_87 (by rfl) (Nat.le_of_ble_eq_true rfl) ⟨Nat.le_of_ble_eq_true rfl, Nat.le_of_ble_eq_true rfl⟩ dX4_month_178 (fun σ47 w47 => ?_)
                          rw [w47]; clear w47
                          have hM46 : vM (up2 τ 50 (15 + 7 * i + 4) 9999) 50 = up2 (pgK K1 true i) 5 i 9999 := by rw [vM_mk (by omega) (by omega), hMt]
                          refine gx_iload_n C dX4_month_181 (by rfl) (by rfl) ?_
                          refine gx_if_eq (tgt := 210) C dX4_month_182 (by decide) (fun h48 => ?_) (fun h48 => ?_)
                          ·
                            exact absurd h48 (by decide)
                          ·
                            clear h48
                            refine gx_aload_n C dX4_month_185 (by rfl) (by rfl) ?_
                            refine gx_iload_n C dX4_month_186 (by rfl) (by rfl) ?_
                            refine gx_iconst (v := 2) C dX4_month_187 (by decide) ?_
                            refine gx_callVI (As := [.int (nI i), .int 2]) (rest := []) C (c_X4_is E (up2 τ 50 (15 + 7 * i + 4) 9999) i (by omega) 2 (by omega)) z_X4_is ck4 (by rfl) (by rfl) ml_X4_51 (by rfl) (Nat.le_of_ble_eq_true rfl) ⟨Nat.le_of_ble_eq_true rfl, Nat.le_of_ble_eq_true rfl⟩ dX4_month_188 (fun r49 σ49 w49 => ?_)
                            obtain ⟨u1, u2⟩ := w49; rw [u1, u2]; clear u1 u2
                            refine gx_st (st' := [.int (K1 3 i)]) (by rw [mp_3 hM46 (p := i) (by omega), up2_up, if_neg (by omega), pg_3]) ?_
                            refine gx_bipush (v := 99) C dX4_month_191 (by decide) ?_
                            refine gx_icmp_ge (tgt := 210) C dX4_month_193 (by decide) (fun h50 => ?_) (fun h50 => ?_)
                            ·
                              refine gx_iinc (v := nI (i + 1)) (lv2 := [(3, .int (nI (i + 1))), (4, .int (((K1 5 i) + 8) - (K1 2 i))), (0, .ref (eA E 49)), (1, .int (bset (nn K) (trP K))), (2, .int 1)]) C dX4_month_210 (by rfl) (by exact nI_p1 _) (by decide) rfl ?_
                              refine gx_goto (tgt := 122) C dX4_month_213 (by decide) ?_
                              refine gx_sub [2, 3, 4, 0] (lv' := [(0, .ref (eA E 49)), (1, .int (bset (nn K) (trP K))), (2, .int 1), (3, .int (nI (i + 1)))]) rfl ?_
                              exact ih122 (i + 1) (by omega) (by omega) (up2 τ 50 (15 + 7 * i + 4) 9999) (by rw [← pg_t (K := K1) (i := i) (v := 9999) (w := K1 3 i) (by rw [if_neg (by assumption)]; exact pv_t (by assumption)) ((age_m (hO1.2.1 i (by omega)).2.2.1).2 (Int32.not_lt.mpr (by assumption))).symm, show up2 (up2 (pgK K1 true i) 5 i (9999)) 3 i (K1 3 i) = up2 (pgK K1 true i) 5 i (9999) from pg_s53]; exact hM46) hFt.up
                            ·
                              refine gx_aload_n C dX4_month_196 (by rfl) (by rfl) ?_
                              refine gx_iload_n C dX4_month_197 (by rfl) (by rfl) ?_
                              refine gx_iconst (v := 2) C dX4_month_198 (by decide) ?_
                              refine gx_aload_n C dX4_month_199 (by rfl) (by rfl) ?_
                              refine gx_iload_n C dX4_month_200 (by rfl) (by rfl) ?_
                              refine gx_iconst (v := 2) C dX4_month_201 (by decide) ?_
                              refine gx_callVI (As := [.int (nI i), .int 2]) (rest := [.int 2, .int (nI i), .ref (eA E 49)]) C (c_X4_is E (up2 τ 50 (15 + 7 * i + 4) 9999) i (by omega) 2 (by omega)) z_X4_is ck4 (by rfl) (by rfl) ml_X4_51 (by rfl) (Nat.le_of_ble_eq_true rfl) ⟨Nat.le_of_ble_eq_true rfl, Nat.le_of_ble_eq_true rfl⟩ dX4_month_202 (fun r51 σ51 w51 => ?_)
                              obtain ⟨u1, u2⟩ := w51; rw [u1, u2]; clear u1 u2
                              refine gx_st (st' := [.int (K1 3 i), .int 2, .int (nI i), .ref (eA E 49)]) (by rw [mp_3 hM46 (p := i) (by omega), up2_up, if_neg (by omega), pg_3]) ?_
                              refine gx_iconst (v := 1) C dX4_month_205 (by decide) ?_
                              refine gx_iadd C dX4_month_206 ?_
                              refine gx_callVV (As := [.int (nI i), .int 2, .int ((K1 3 i) + 1)]) (rest := []) C (c_X4_makes E (up2 τ 50 (15 + 7 * i + 4) 9999) i (by omega) 2 (by omega) ((K1 3 i) + 1)) z_X4_makes ck4 (by rfl) (by rfl) ml_X4_87 (by rfl) (Nat.le_of_ble_eq_true rfl) ⟨Nat.le_of_ble_eq_true rfl, Nat.le_of_ble_eq_true rfl⟩ dX4_month_207 (fun σ53 w53 => ?_)
                              rw [w53]; clear w53
                              have hM52 : vM (up2 (up2 τ 50 (15 + 7 * i + 4) 9999) 50 (15 + 7 * i + 2) ((K1 3 i) + 1)) 50 = up2 (up2 (pgK K1 true i) 5 i 9999) 3 i ((K1 3 i) + 1) := by rw [vM_mk (by omega) (by omega), hM46]
                              refine gx_iinc (v := nI (i + 1)) (lv2 := [(3, .int (nI (i + 1))), (4, .int (((K1 5 i) + 8) - (K1 2 i))), (0, .ref (eA E 49)), (1, .int (bset (nn K) (trP K))), (2, .int 1)]) C dX4_month_210 (by rfl) (by exact nI_p1 _) (by decide) rfl ?_
                              refine gx_goto (tgt := 122) C dX4_month_213 (by decide) ?_
                              refine gx_sub [2, 3, 4, 0] (lv' := [(0, .ref (eA E 49)), (1, .int (bset (nn K) (trP K))), (2, .int 1), (3, .int (nI (i + 1)))]) rfl ?_
                              exact ih122 (i + 1) (by omega) (by omega) (up2 (up2 τ 50 (15 + 7 * i + 4) 9999) 50 (15 + 7 * i + 2) ((K1 3 i) + 1)) (by rw [← pg_t (K := K1) (i := i) (v := 9999) (w := (K1 3 i) + 1) (by rw [if_neg (by assumption)]; exact pv_t (by assumption)) ((age_m (hO1.2.1 i (by omega)).2.2.1).1 (Int32.not_le.mp (by assumption))).symm]; exact hM52) hFt.up.up
                refine gx_sub [2, 3, 1, 0] (lv' := [(0, .ref (eA E 49)), (1, .int (bset (nn K) (trP K))), (2, .int 1), (3, .int 0)]) rfl ?_
                refine gx_lv (lv' := [(0, .ref (eA E 49)), (1, .int (bset (nn K) (trP K))), (2, .int 1), (3, .int (nI 0))]) (by rfl) ?_
                exact loop122 (nn K1 + 1) 0 (by omega) (by omega) τ1 (by rw [pg_0]; exact hM1) hF1
            ·
              have h5 := (not_congr (nI_leI (a := 7) (b := r) (by omega) (by omega))).mp h5
              refine gx_aload_n C dX4_month_60 (by rfl) (by rfl) ?_
              refine gx_iload_n C dX4_month_61 (by rfl) (by rfl) ?_
              refine gx_callVI (As := [.int (nI r)]) (rest := []) C (c_X4_heirOf E τ1 K1 hM1 hO1 r (by omega)) z_X4_heirOf ck4 (by rfl) (by rfl) ml_X4_148 (by rfl) (Nat.le_of_ble_eq_true rfl) ⟨Nat.le_of_ble_eq_true rfl, Nat.le_of_ble_eq_true rfl⟩ dX4_month_62 (fun r54 σ54 w54 => ?_)
              obtain ⟨u1, u2⟩ := w54; rw [u1, u2]; clear u1 u2
              refine gx_istore_n (lv2 := [(3, .int (hrS K1 (inP K1 (nI (r + 1))))), (0, .ref (eA E 49)), (1, .int (bset (nn K) (trP K))), (2, .int (nI r))]) C dX4_month_65 (by rfl) (by decide) rfl ?_
              have loop66 : ∀ (f : Nat) (τ2 K2 : Mm), vM τ2 50 = K2 → Ok K2 → cnt (inP K2 (nI (r + 1))) (nn K2) < f → flR r f K2 = flR r 13 K1 → nn K2 = nn K1 → F1 50 σ τ2 → Gx E p e0 (rmF 5 116) s m ([.ref (eA E 49)] : List Value).toArray below meth c (MQ below (va_Qv (fun σ2 => vM σ2 50 = mo K ∧ F1 50 σ σ2) (WQ E) (AA E s.heap.size)) ([.ref (eA E 49)] : List Value).toArray s 0 0 (AA E s.heap.size)) 5 66 [(0, .ref (eA E 49)), (1, .int (bset (nn K) (trP K))), (2, .int (nI r)), (3, .int (hrS K2 (inP K2 (nI (r + 1)))))] [] τ2 := by
                intro f
                induction f with
                | zero => intro τ2 K2 _ _ q; exact absurd q (by omega)
                | succ f ih66 =>
                  intro τ2 K2 hM2 hO2 hf2 eT2 hn2 hF2
                  have h122 := hO2.1.2
                  refine gx_iload_n C dX4_month_66 (by rfl) (by rfl) ?_
                  refine gx_if_lt (tgt := 94) C dX4_month_67 (by decide) (fun h55 => ?_) (fun h55 => ?_)
                  ·
                    have q8 : hrS K2 (inP K2 (nI (r + 1))) = -1 := (hrS_or K2 _).resolve_right (fun ⟨b, y1, y2, y3⟩ => absurd (y2 ▸ h55 : nI b < 0) (nI_pos (by omega)))
                    have eT2 : K2 = flR r 13 K1 := by rw [← eT2, flR, if_neg (fun q => q.2 q8)]
                    refine gx_iinc (v := nI (r + 1)) (lv2 := [(2, .int (nI (r + 1))), (0, .ref (eA E 49)), (1, .int (bset (nn K) (trP K))), (3, .int (hrS K2 (inP K2 (nI (r + 1)))))]) C dX4_month_94 (by rfl) (by exact nI_p1 _) (by decide) rfl ?_
                    refine gx_goto (tgt := 54) C dX4_month_97 (by decide) ?_
                    refine gx_sub [1, 2, 0] (lv' := [(0, .ref (eA E 49)), (1, .int (bset (nn K) (trP K))), (2, .int (nI (r + 1)))]) rfl ?_
                    exact ih54 (r + 1) (by omega) (by omega) τ2 K2 hM2 hO2 (by rw [flA, ← eK1]; exact eT2) (hn2.trans hn1) hF2
                  ·
                    have q1 : ¬ hrS K2 (inP K2 (nI (r + 1))) = -1 := fun q => absurd (by rw [q]; decide : hrS K2 (inP K2 (nI (r + 1))) < 0) h55
                    obtain ⟨x1, x2, x3⟩ := clamp_hr h122 q1
                    obtain ⟨hx, q2⟩ : ∃ b, (hrS K2 (inP K2 (nI (r + 1)))).toNatClampNeg = b := ⟨_, rfl⟩
                    rw [q2] at x1 x2 x3
                    refine gx_lv (lv' := [(0, .ref (eA E 49)), (1, .int (bset (nn K) (trP K))), (2, .int (nI r)), (3, .int (nI hx))]) (by rw [x2]) ?_
                    refine gx_aload_n C dX4_month_70 (by rfl) (by rfl) ?_
                    refine gx_iload_n C dX4_month_71 (by rfl) (by rfl) ?_
                    refine gx_callVI (As := [.int (nI r)]) (rest := []) C (c_X4_hasSeat E τ2 K2 hM2 hO2 r (by omega)) z_X4_hasSeat ck4 (by rfl) (by rfl) ml_X4_94 (by rfl) (Nat.le_of_ble_eq_true rfl) ⟨Nat.le_of_ble_eq_true rfl, Nat.le_of_ble_eq_true rfl⟩ dX4_month_72 (fun r56 σ56 w56 => ?_)
                    obtain ⟨u1, u2⟩ := w56; rw [u1, u2]; clear u1 u2
                    refine gx_if_eq (tgt := 94) C dX4_month_75 (by decide) (fun h57 => ?_) (fun h57 => ?_)
                    ·
                      have h57 := b2_z.mp h57
                      have eT2 : K2 = flR r 13 K1 := by rw [← eT2, flR, if_neg (fun q => h57 q.1)]
                      refine gx_iinc (v := nI (r + 1)) (lv2 := [(2, .int (nI (r + 1))), (0, .ref (eA E 49)), (1, .int (bset (nn K) (trP K))), (3, .int (nI hx))]) C dX4_month_94 (by rfl) (by exact nI_p1 _) (by decide) rfl ?_
                      refine gx_goto (tgt := 54) C dX4_month_97 (by decide) ?_
                      refine gx_sub [1, 2, 0] (lv' := [(0, .ref (eA E 49)), (1, .int (bset (nn K) (trP K))), (2, .int (nI (r + 1)))]) rfl ?_
                      exact ih54 (r + 1) (by omega) (by omega) τ2 K2 hM2 hO2 (by rw [flA, ← eK1]; exact eT2) (hn2.trans hn1) hF2
                    ·
                      have h57 := b2_nz.mp h57
                      refine gx_aload_n C dX4_month_78 (by rfl) (by rfl) ?_
                      refine gx_iload_n C dX4_month_79 (by rfl) (by rfl) ?_
                      refine gx_iconst (v := 1) C dX4_month_80 (by decide) ?_
                      refine gx_iload_n C dX4_month_81 (by rfl) (by rfl) ?_
                      refine gx_callVV (As := [.int (nI hx), .int 1, .int (nI r)]) (rest := []) C (c_X4_makes E τ2 hx (by omega) 1 (by omega) (nI r)) z_X4_makes ck4 (by rfl) (by rfl) ml_X4_87 (by rfl) (Nat.le_of_ble_eq_true rfl) ⟨Nat.le_of_ble_eq_true rfl, Nat.le_of_ble_eq_true rfl⟩ dX4_month_82 (fun σ59 w59 => ?_)
                      rw [w59]; clear w59
                      have hM58 : vM (up2 τ2 50 (15 + 7 * hx + 1) (nI r)) 50 = up2 K2 2 hx (nI r) := by rw [vM_mk (by omega) (by omega), hM2]
                      have hO3 := Ok.rank (v := nI r) (p := hx) hO2 (by omega) (rk_rg (by omega))
                      refine gx_aload_n C dX4_month_85 (by rfl) (by rfl) ?_
                      refine gx_iload_n C dX4_month_86 (by rfl) (by rfl) ?_
                      refine gx_callVI (As := [.int (nI r)]) (rest := []) C (c_X4_heirOf E (up2 τ2 50 (15 + 7 * hx + 1) (nI r)) (up2 K2 2 hx (nI r)) hM58 hO3 r (by omega)) z_X4_heirOf ck4 (by rfl) (by rfl) ml_X4_148 (by rfl) (Nat.le_of_ble_eq_true rfl) ⟨Nat.le_of_ble_eq_true rfl, Nat.le_of_ble_eq_true rfl⟩ dX4_month_87 (fun r60 σ60 w60 => ?_)
                      obtain ⟨u1, u2⟩ := w60; rw [u1, u2]; clear u1 u2
                      refine gx_istore_n (lv2 := [(3, .int (hrS (up2 K2 2 hx (nI r)) (inP (up2 K2 2 hx (nI r)) (nI (r + 1))))), (0, .ref (eA E 49)), (1, .int (bset (nn K) (trP K))), (2, .int (nI r))]) C dX4_month_90 (by rfl) (by decide) rfl ?_
                      refine gx_goto (tgt := 66) C dX4_month_91 (by decide) ?_
                      refine gx_sub [1, 2, 3, 0] (lv' := [(0, .ref (eA E 49)), (1, .int (bset (nn K) (trP K))), (2, .int (nI r)), (3, .int (hrS (up2 K2 2 hx (nI r)) (inP (up2 K2 2 hx (nI r)) (nI (r + 1)))))]) rfl ?_
                      have q5 := cnt_mv (K := K2) (h := hx) (r := r) (by omega) (by omega) (by have q6 := x3; simp only [inP] at q6; exact of_decide_eq_true q6)
                      have q7 : nn (up2 K2 2 hx (nI r)) = nn K2 := nn_up (Or.inl (by omega))
                      exact ih66 (up2 τ2 50 (15 + 7 * hx + 1) (nI r)) (up2 K2 2 hx (nI r)) hM58 hO3 (by rw [q7]; omega) (by rw [← eT2, flR, if_pos ⟨by assumption, q1⟩, q2]) (q7.trans hn2) hF2.up
              refine gx_sub [1, 2, 3, 0] (lv' := [(0, .ref (eA E 49)), (1, .int (bset (nn K) (trP K))), (2, .int (nI r)), (3, .int (hrS K1 (inP K1 (nI (r + 1)))))]) rfl ?_
              have q4 := cnt_le (inP K1 (nI (r + 1))) (nn K1)
              exact loop66 13 τ1 K1 hM1 hO1 (by omega) rfl rfl hF1
        refine gx_sub [1, 2, 0] (lv' := [(0, .ref (eA E 49)), (1, .int (bset (nn K) (trP K))), (2, .int 0)]) rfl ?_
        refine gx_lv (lv' := [(0, .ref (eA E 49)), (1, .int (bset (nn K) (trP K))), (2, .int (nI 0))]) (by rfl) ?_
        exact loop54 8 0 (by omega) (by omega) (up2 τ 50 4 (((outK K (trP K) i) 0 2) + (nI (cnt (trP K) (nn K))))) X1 hMX hOX rfl hnX (hFt.up)
      ·
        have h2 := (not_congr (nI_leI (a := (nn K)) (b := i) (by omega) (by omega))).mp h2
        refine gx_iload_n C dX4_month_18 (by rfl) (by rfl) ?_
        refine gx_iload_n C dX4_month_19 (by rfl) (by rfl) ?_
        refine gx_callSI (As := [.int (bset (nn K) (trP K)), .int (nI i)]) (rest := []) C (c_X4_has E τ (nn K) (by omega) (trP K) i (by omega)) z_X4_has (by rfl) ml_X4_71 (by rfl) (Nat.le_of_ble_eq_true rfl) ⟨Nat.le_of_ble_eq_true rfl, Nat.le_of_ble_eq_true rfl⟩ dX4_month_20 (fun r61 σ61 w61 => ?_)
        obtain ⟨u1, u2⟩ := w61; rw [u1, u2]; clear u1 u2
        refine gx_if_eq (tgt := 33) C dX4_month_23 (by decide) (fun h62 => ?_) (fun h62 => ?_)
        ·
          have h62 := b2_z.mp h62
          refine gx_iinc (v := nI (i + 1)) (lv2 := [(2, .int (nI (i + 1))), (0, .ref (eA E 49)), (1, .int (bset (nn K) (trP K)))]) C dX4_month_33 (by rfl) (by exact nI_p1 _) (by decide) rfl ?_
          refine gx_goto (tgt := 7) C dX4_month_36 (by decide) ?_
          refine gx_sub [1, 2, 0] (lv' := [(0, .ref (eA E 49)), (1, .int (bset (nn K) (trP K))), (2, .int (nI (i + 1)))]) rfl ?_
          exact ih7 (i + 1) (by omega) (by omega) τ (by rw [← outK_f (by simpa using ‹¬ trP K i = true›)]; exact hMt) hFt
        ·
          have h62 := b2_nz.mp h62
          refine gx_aload_n C dX4_month_26 (by rfl) (by rfl) ?_
          refine gx_iload_n C dX4_month_27 (by rfl) (by rfl) ?_
          refine gx_iconst (v := 1) C dX4_month_28 (by decide) ?_
          refine gx_iconst (v := (-1)) C dX4_month_29 (by decide) ?_
          refine gx_callVV (As := [.int (nI i), .int 1, .int (-1)]) (rest := []) C (c_X4_makes E τ i (by omega) 1 (by omega) (-1)) z_X4_makes ck4 (by rfl) (by rfl) ml_X4_87 (by rfl) (Nat.le_of_ble_eq_true rfl) ⟨Nat.le_of_ble_eq_true rfl, Nat.le_of_ble_eq_true rfl⟩ dX4_month_30 (fun σ64 w64 => ?_)
          rw [w64]; clear w64
          have hM63 : vM (up2 τ 50 (15 + 7 * i + 1) (-1)) 50 = up2 (outK K (trP K) i) 2 i (-1) := by rw [vM_mk (by omega) (by omega), hMt]
          refine gx_iinc (v := nI (i + 1)) (lv2 := [(2, .int (nI (i + 1))), (0, .ref (eA E 49)), (1, .int (bset (nn K) (trP K)))]) C dX4_month_33 (by rfl) (by exact nI_p1 _) (by decide) rfl ?_
          refine gx_goto (tgt := 7) C dX4_month_36 (by decide) ?_
          refine gx_sub [1, 2, 0] (lv' := [(0, .ref (eA E 49)), (1, .int (bset (nn K) (trP K))), (2, .int (nI (i + 1)))]) rfl ?_
          exact ih7 (i + 1) (by omega) (by omega) (up2 τ 50 (15 + 7 * i + 1) (-1)) (by rw [← outK_t (by assumption)]; exact hM63) hFt.up
  refine gx_sub [2, 1, 0] (lv' := [(0, .ref (eA E 49)), (1, .int (bset (nn K) (trP K))), (2, .int 0)]) rfl ?_
  refine gx_lv (lv' := [(0, .ref (eA E 49)), (1, .int (bset (nn K) (trP K))), (2, .int (nI 0))]) (by rfl) ?_
  exact loop7 (nn K + 1) 0 (by omega) (by omega) σ (by rw [outK_0]; exact hM) F1.rf
