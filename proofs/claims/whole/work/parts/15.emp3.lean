theorem nn_up {K : Mm} {j p : Nat} {v : Int32} (h : ¬ j = 0 ∨ ¬ p = 0) : nn (up2 K j p v) = nn K := by
  unfold nn
  rw [up2_up, if_neg (by omega)]
theorem Ok.up {K : Mm} {j p : Nat} {v : Int32} (hO : Ok K) (h0 : ¬ j = 0 ∨ ¬ p = 0) (hr : p < rng j) (c1 : j = 1 → 0 ≤ v ∧ v ≤ 6) (c2 : j = 2 → -1 ≤ v ∧ v ≤ 7) (c3 : j = 3 → 0 ≤ v ∧ v ≤ 99) (c5 : j = 5 → 0 ≤ v ∧ v ≤ 9999) (c6 : j = 6 → -1 ≤ v ∧ v < K 0 0) (c8 : j = 8 → 0 ≤ v ∧ v ≤ 4) (c9 : j = 9 → p = 0 → 0 ≤ v ∧ v ≤ 2) (c10 : j = 10 → -1 ≤ v ∧ v < K 0 0) : Ok (up2 K j p v) := by
  obtain ⟨⟨a1, a2⟩, b, c, d, z⟩ := hO
  have e0 : up2 K j p v 0 0 = K 0 0 := by rw [up2_up, if_neg (by omega)]
  have en := nn_up (K := K) (v := v) h0
  refine ⟨⟨by rw [e0, en]; exact a1, by rw [en]; exact a2⟩, ?_, ?_, ?_, ?_⟩
  · intro q hq
    rw [en] at hq
    obtain ⟨b1, b2, b3, b5, b6⟩ := b q hq
    rw [e0]
    simp only [up2_up]
    refine ⟨?_, ?_, ?_, ?_, ?_⟩
    · split
      · next h => exact c1 h.1.symm
      · exact b1
    · split
      · next h => exact c2 h.1.symm
      · exact b2
    · split
      · next h => exact c3 h.1.symm
      · exact b3
    · split
      · next h => exact c5 h.1.symm
      · exact b5
    · split
      · next h => exact c6 h.1.symm
      · exact b6
  · rw [up2_up]
    split
    · next h => exact c9 h.1.symm h.2.symm
    · exact c
  · intro q hq
    rw [e0, up2_up]
    split
    · next h => exact c10 h.1.symm
    · exact d q hq
  · refine ⟨fun a q hq => ?_, fun q hq => ?_⟩
    · rw [up2_up, if_neg (fun h => by rw [h.1, h.2] at hq; omega)]
      exact z.1 a q hq
    · rw [up2_up]
      split
      · next h => exact c8 h.1.symm
      · exact z.2 q hq
theorem emp_up {σ σ' : Mm} {e j p : Nat} {K : Mm} {v : Int32} (h : Emp σ e K) (h0 : ¬ j = 0 ∨ ¬ p = 0) (h2 : ¬ j = 2) (hv : vC σ' e = up2 (vC σ e) j p v) (hi : σ' (e + 9) = σ (e + 9)) : Emp σ' e (up2 K j p v) := by
  refine ⟨by rw [hv, h.1], fun r hr => ?_⟩
  rw [hi, h.2 r hr, nn_up h0]
  exact bset_c (fun q _ => by simp only [inP, up2_up]; rw [if_neg (fun h => h2 h.1.symm)])
theorem Emp.u1 {σ : Mm} {e p : Nat} {K : Mm} {v : Int32} (h : Emp σ e K) (hp : p < 12) : Emp (up2 σ (e + 1) p v) e (up2 K 1 p v) := emp_up h (Or.inl (by omega)) (by omega) (vC_up1 hp) (up2_o (by omega))
theorem Emp.u3 {σ : Mm} {e p : Nat} {K : Mm} {v : Int32} (h : Emp σ e K) (hp : p < 12) : Emp (up2 σ (e + 3) p v) e (up2 K 3 p v) := emp_up h (Or.inl (by omega)) (by omega) (vC_up3 hp) (up2_o (by omega))
theorem Emp.u4 {σ : Mm} {e p : Nat} {K : Mm} {v : Int32} (h : Emp σ e K) (hp : p < 12) : Emp (up2 σ (e + 4) p v) e (up2 K 4 p v) := emp_up h (Or.inl (by omega)) (by omega) (vC_up4 hp) (up2_o (by omega))
theorem Emp.u5 {σ : Mm} {e p : Nat} {K : Mm} {v : Int32} (h : Emp σ e K) (hp : p < 12) : Emp (up2 σ (e + 5) p v) e (up2 K 5 p v) := emp_up h (Or.inl (by omega)) (by omega) (vC_up5 hp) (up2_o (by omega))
theorem Emp.u6 {σ : Mm} {e p : Nat} {K : Mm} {v : Int32} (h : Emp σ e K) (hp : p < 12) : Emp (up2 σ (e + 6) p v) e (up2 K 6 p v) := emp_up h (Or.inl (by omega)) (by omega) (vC_up6 hp) (up2_o (by omega))
theorem Emp.u7 {σ : Mm} {e p : Nat} {K : Mm} {v : Int32} (h : Emp σ e K) (hp : p < 12) : Emp (up2 σ (e + 7) p v) e (up2 K 7 p v) := emp_up h (Or.inl (by omega)) (by omega) (vC_up7 hp) (up2_o (by omega))
theorem Emp.u8 {σ : Mm} {e p : Nat} {K : Mm} {v : Int32} (h : Emp σ e K) (hp : p < 8) : Emp (up2 σ (e + 8) p v) e (up2 K 8 p v) := emp_up h (Or.inl (by omega)) (by omega) (vC_up8 hp) (up2_o (by omega))
theorem Emp.u9 {σ : Mm} {e p : Nat} {K : Mm} {v : Int32} (h : Emp σ e K) (hp : p < 3) : Emp (up2 σ (e + 10) p v) e (up2 K 9 p v) := emp_up h (Or.inl (by omega)) (by omega) (vC_up9 hp) (up2_o (by omega))
theorem Emp.u10 {σ : Mm} {e p : Nat} {K : Mm} {v : Int32} (h : Emp σ e K) (hp : p < 10) : Emp (up2 σ (e + 11) p v) e (up2 K 10 p v) := emp_up h (Or.inl (by omega)) (by omega) (vC_up10 hp) (up2_o (by omega))
theorem Emp.um {σ : Mm} {e : Nat} {K : Mm} {v : Int32} (h : Emp σ e K) : Emp (up2 σ e 12 v) e (up2 K 0 1 v) := emp_up h (Or.inr (by omega)) (by omega) (vC_up0 (k := 1) (by omega)) (up2_o (by omega))
theorem Emp.ut {σ : Mm} {e : Nat} {K : Mm} {v : Int32} (h : Emp σ e K) : Emp (up2 σ e 13 v) e (up2 K 0 2 v) := emp_up h (Or.inr (by omega)) (by omega) (vC_up0 (k := 2) (by omega)) (up2_o (by omega))
theorem Emp.uz {σ : Mm} {e : Nat} {K : Mm} {v : Int32} (h : Emp σ e K) : Emp (up2 σ e 14 v) e (up2 K 0 3 v) := emp_up h (Or.inr (by omega)) (by omega) (vC_up0 (k := 3) (by omega)) (up2_o (by omega))
theorem emp_mv {σ σ' : Mm} {e p : Nat} {K : Mm} {r : Int32} (hK : Emp σ e K) (hp : p < nn K) (h12 : nn K ≤ 12) (hv : vC σ' e = up2 K 2 p r) (hin : ∀ r0, r0 < 8 → σ' (e + 9) r0 = if r = nI r0 then (if K 2 p = nI r0 then σ (e + 9) r0 &&& (((1 : Int32) <<< (nI p &&& 31)) ^^^ (-1)) else σ (e + 9) r0) ||| ((1 : Int32) <<< (nI p &&& 31)) else if K 2 p = nI r0 then σ (e + 9) r0 &&& (((1 : Int32) <<< (nI p &&& 31)) ^^^ (-1)) else σ (e + 9) r0) : Emp σ' e (up2 K 2 p r) := by
  refine ⟨hv, fun r0 h0 => ?_⟩
  rw [hin r0 h0, hK.2 r0 h0, nn_up (Or.inl (by omega))]
  have key : ∀ q, inP (up2 K 2 p r) (nI r0) q = if q = p then decide (r = nI r0) else inP K (nI r0) q := by
    intro q
    simp only [inP, up2_up]
    by_cases h : q = p <;> simp [h]
  by_cases h1 : r = nI r0
  · rw [if_pos h1]
    by_cases h2 : K 2 p = nI r0
    · rw [if_pos h2, bset_sub _ (by omega), bset_add _ hp (by omega)]
      exact bset_c (fun q _ => by rw [key]; by_cases h : q = p <;> simp [h, h1])
    · rw [if_neg h2, bset_add _ hp (by omega)]
      exact bset_c (fun q _ => by rw [key]; by_cases h : q = p <;> simp [h, h1])
  · rw [if_neg h1]
    by_cases h2 : K 2 p = nI r0
    · rw [if_pos h2, bset_sub _ (by omega)]
      exact bset_c (fun q _ => by rw [key]; by_cases h : q = p <;> simp [h, h1])
    · rw [if_neg h2]
      refine bset_c (fun q _ => ?_)
      rw [key]
      by_cases h : q = p
      · subst h; simp [inP, h1, h2]
      · simp [h]
theorem r_nat {r : Int32} (h : 0 ≤ r ∧ r ≤ 7) : ∃ k, k < 8 ∧ r = nI k := by
  obtain ⟨k, h3, h4⟩ := nI_of2 (x := r) (M := 7) (n := 7) (by decide) (fun h9 => Int32.not_le.mpr h9 h.1) h.2
  exact ⟨k, by omega, h4⟩
theorem r_out {r : Int32} (h : -1 ≤ r ∧ r ≤ 7) (h2 : ¬ (0 ≤ r ∧ r ≤ 7)) : r = -1 := Classical.byContradiction fun h3 => h2 ⟨Int32.not_lt.mp (ge0 h.1 h3), h.2⟩
theorem nI_ne {a b : Nat} (ha : a < 2 ^ 31) (hb : b < 2 ^ 31) (h : ¬ a = b) : ¬ nI a = nI b := fun q => h ((nI_eq ha hb).mp q)
theorem m1_nI {b : Nat} (h : b < 2 ^ 31) : ¬ (-1 : Int32) = nI b := fun q => nI_m1 h q.symm
set_option maxHeartbeats 4000000 in
set_option maxRecDepth 100000 in
theorem c_X0_moveTo (E : En) (σ : Mm) (e : Nat) (he : isE e) (K : Mm) (hK : Emp σ e K) (hO : Ok K) (q : Nat) (hq : q < nn K) (r : Int32) (hr0 : -1 ≤ r ∧ r ≤ 7) : CtV E yX0_moveTo cX0_moveTo 4 none 2 42 [.ref (eA E e), .int (nI q), .int r] σ (fun σ2 => Emp σ2 e (up2 K 2 q r) ∧ Fr e σ σ2) := by
  obtain ⟨⟨hn, h12⟩, hpp, hlw, hsp, hz0⟩ := id hO
  refine CtV.of (by decide +kernel) (Nat.le_of_ble_eq_true rfl) (fun p e0 s m below meth c C hr hlk => ?_)
  refine gx_lv (lv' := [(0, .ref (eA E e)), (1, .int (nI q)), (2, .int r)]) rfl ?_
  refine gx_aload_n C dX0_moveTo_0 (by rfl) (by rfl) ?_
  refine gx_getr (j := e + 2) (k := 1) C ck0 (sh_e he) (by rfl) (by decide) fl_X0_15 dX0_moveTo_1 ?_
  refine gx_iload_n C dX0_moveTo_4 (by rfl) (by rfl) ?_
  refine gx_ialdN (k := q) C (sh_e2 he) rfl (by omega) (by decide) dX0_moveTo_5 ?_
  refine gx_st (st' := [.int (K 2 q)]) (by rw [hK.r2 (p := q) (by omega)]) ?_
  refine gx_istore_n (lv2 := [(3, .int (K 2 q)), (0, .ref (eA E e)), (1, .int (nI q)), (2, .int r)]) C dX0_moveTo_6 (by rfl) (by decide) rfl ?_
  refine gx_iload_n C dX0_moveTo_7 (by rfl) (by rfl) ?_
  refine gx_callNI (As := [.int (K 2 q)]) (rest := []) C (c_X3_isRank E σ (K 2 q)) z_X3_isRank (by rfl) (C.2.2.2.2.2.2.2.2.2.2.2.2.2.2.1) (by rfl) (Nat.le_of_ble_eq_true rfl) ⟨Nat.le_of_ble_eq_true rfl, Nat.le_of_ble_eq_true rfl⟩ dX0_moveTo_8 (fun r1 σ1 w1 => ?_)
  obtain ⟨u1, u2⟩ := w1; rw [u1, u2]; clear u1 u2
  refine gx_if_eq (tgt := 28) C dX0_moveTo_11 (by decide) (fun h2 => ?_) (fun h2 => ?_)
  ·
    have h2 := b2_z.mp h2
    have ew1 := r_out (hpp q hq).2.1 h2
    refine gx_iload_n C dX0_moveTo_28 (by rfl) (by rfl) ?_
    refine gx_callNI (As := [.int r]) (rest := []) C (c_X3_isRank E σ r) z_X3_isRank (by rfl) (C.2.2.2.2.2.2.2.2.2.2.2.2.2.2.1) (by rfl) (Nat.le_of_ble_eq_true rfl) ⟨Nat.le_of_ble_eq_true rfl, Nat.le_of_ble_eq_true rfl⟩ dX0_moveTo_29 (fun r3 σ3 w3 => ?_)
    obtain ⟨u1, u2⟩ := w3; rw [u1, u2]; clear u1 u2
    refine gx_if_eq (tgt := 47) C dX0_moveTo_32 (by decide) (fun h4 => ?_) (fun h4 => ?_)
    ·
      have h4 := b2_z.mp h4
      have et1 := r_out hr0 h4
      refine gx_aload_n C dX0_moveTo_47 (by rfl) (by rfl) ?_
      refine gx_getr (j := e + 2) (k := 1) C ck0 (sh_e he) (by rfl) (by decide) fl_X0_15 dX0_moveTo_48 ?_
      refine gx_iload_n C dX0_moveTo_51 (by rfl) (by rfl) ?_
      refine gx_iload_n C dX0_moveTo_52 (by rfl) (by rfl) ?_
      refine gx_iastN (k := q) C (sh_e2 he) rfl (by omega) (by decide) dX0_moveTo_53 ?_
      exact gx_vret C hr hlk ⟨emp_mv hK hq h12 (by first | (rw [vC_up2 (by omega), vC_upI, vC_upI, hK.1]; done) | (rw [vC_up2 (by omega), vC_upI, hK.1]; done) | (rw [vC_up2 (by omega), hK.1]; done)) (fun r0 h0 => by have z9 : ¬ e + 9 = e + 2 := (by omega); have z1 : ¬ K 2 q = nI r0 := (by rw [ew1]; exact m1_nI (by omega)); have z2 : ¬ r = nI r0 := (by rw [et1]; exact m1_nI (by omega)); simp only [up2_up, z1, z2, z9, false_and, if_false, true_and, hK.in (r := r0) h0] <;> grind), by intro i hi; simp only [up2]; grind⟩ dX0_moveTo_54
    ·
      have h4 := b2_nz.mp h4
      obtain ⟨t1, ht1, et1⟩ := r_nat h4
      subst et1
      refine gx_aload_n C dX0_moveTo_35 (by rfl) (by rfl) ?_
      refine gx_getr (j := e + 9) (k := 8) C ck0 (sh_e he) (by rfl) (by decide) fl_X0_36 dX0_moveTo_36 ?_
      refine gx_iload_n C dX0_moveTo_39 (by rfl) (by rfl) ?_
      refine gx_dup2 C (by rfl) (by rfl) dX0_moveTo_40 ?_
      refine gx_ialdN (k := t1) C (sh_e9 he) rfl (by omega) (by decide) dX0_moveTo_41 ?_
      refine gx_st (st' := [.int (bset (nn K) (inP K (nI t1))), .int (nI t1), .ref (eA E (e + 9))]) (by rw [hK.in (r := t1) (by omega)]) ?_
      refine gx_iconst (v := 1) C dX0_moveTo_42 (by decide) ?_
      refine gx_iload_n C dX0_moveTo_43 (by rfl) (by rfl) ?_
      refine gx_ishl C dX0_moveTo_44 ?_
      refine gx_ior C dX0_moveTo_45 ?_
      refine gx_iastN (k := t1) C (sh_e9 he) rfl (by omega) (by decide) dX0_moveTo_46 ?_
      refine gx_aload_n C dX0_moveTo_47 (by rfl) (by rfl) ?_
      refine gx_getr (j := e + 2) (k := 1) C ck0 (sh_e he) (by rfl) (by decide) fl_X0_15 dX0_moveTo_48 ?_
      refine gx_iload_n C dX0_moveTo_51 (by rfl) (by rfl) ?_
      refine gx_iload_n C dX0_moveTo_52 (by rfl) (by rfl) ?_
      refine gx_iastN (k := q) C (sh_e2 he) rfl (by omega) (by decide) dX0_moveTo_53 ?_
      exact gx_vret C hr hlk ⟨emp_mv hK hq h12 (by first | (rw [vC_up2 (by omega), vC_upI, vC_upI, hK.1]; done) | (rw [vC_up2 (by omega), vC_upI, hK.1]; done) | (rw [vC_up2 (by omega), hK.1]; done)) (fun r0 h0 => by have z9 : ¬ e + 9 = e + 2 := (by omega); have z1 : ¬ K 2 q = nI r0 := (by rw [ew1]; exact m1_nI (by omega)); have z2 : (nI t1 = nI r0) ↔ (t1 = r0) := nI_eq (by omega) (by omega); simp only [up2_up, z1, z2, z9, false_and, if_false, true_and, hK.in (r := r0) h0, hK.in (r := t1) ht1] <;> grind), by intro i hi; simp only [up2]; grind⟩ dX0_moveTo_54
  ·
    have h2 := b2_nz.mp h2
    obtain ⟨w1, hw1, ew1⟩ := r_nat h2
    refine gx_lv (lv' := [(3, .int (nI w1)), (0, .ref (eA E e)), (1, .int (nI q)), (2, .int r)]) (by rw [ew1]) ?_
    refine gx_aload_n C dX0_moveTo_14 (by rfl) (by rfl) ?_
    refine gx_getr (j := e + 9) (k := 8) C ck0 (sh_e he) (by rfl) (by decide) fl_X0_36 dX0_moveTo_15 ?_
    refine gx_iload_n C dX0_moveTo_18 (by rfl) (by rfl) ?_
    refine gx_dup2 C (by rfl) (by rfl) dX0_moveTo_19 ?_
    refine gx_ialdN (k := w1) C (sh_e9 he) rfl (by omega) (by decide) dX0_moveTo_20 ?_
    refine gx_st (st' := [.int (bset (nn K) (inP K (nI w1))), .int (nI w1), .ref (eA E (e + 9))]) (by rw [hK.in (r := w1) (by omega)]) ?_
    refine gx_iconst (v := 1) C dX0_moveTo_21 (by decide) ?_
    refine gx_iload_n C dX0_moveTo_22 (by rfl) (by rfl) ?_
    refine gx_ishl C dX0_moveTo_23 ?_
    refine gx_iconst (v := (-1)) C dX0_moveTo_24 (by decide) ?_
    refine gx_ixor C dX0_moveTo_25 ?_
    refine gx_iand C dX0_moveTo_26 ?_
    refine gx_iastN (k := w1) C (sh_e9 he) rfl (by omega) (by decide) dX0_moveTo_27 ?_
    refine gx_iload_n C dX0_moveTo_28 (by rfl) (by rfl) ?_
    refine gx_callNI (As := [.int r]) (rest := []) C (c_X3_isRank E (up2 σ (e + 9) w1 ((bset (nn K) (inP K (nI w1))) &&& ((1 <<< ((nI q) &&& 31)) ^^^ (-1)))) r) z_X3_isRank (by rfl) (C.2.2.2.2.2.2.2.2.2.2.2.2.2.2.1) (by rfl) (Nat.le_of_ble_eq_true rfl) ⟨Nat.le_of_ble_eq_true rfl, Nat.le_of_ble_eq_true rfl⟩ dX0_moveTo_29 (fun r5 σ5 w5 => ?_)
    obtain ⟨u1, u2⟩ := w5; rw [u1, u2]; clear u1 u2
    refine gx_if_eq (tgt := 47) C dX0_moveTo_32 (by decide) (fun h6 => ?_) (fun h6 => ?_)
    ·
      have h6 := b2_z.mp h6
      have et1 := r_out hr0 h6
      refine gx_aload_n C dX0_moveTo_47 (by rfl) (by rfl) ?_
      refine gx_getr (j := e + 2) (k := 1) C ck0 (sh_e he) (by rfl) (by decide) fl_X0_15 dX0_moveTo_48 ?_
      refine gx_iload_n C dX0_moveTo_51 (by rfl) (by rfl) ?_
      refine gx_iload_n C dX0_moveTo_52 (by rfl) (by rfl) ?_
      refine gx_iastN (k := q) C (sh_e2 he) rfl (by omega) (by decide) dX0_moveTo_53 ?_
      exact gx_vret C hr hlk ⟨emp_mv hK hq h12 (by first | (rw [vC_up2 (by omega), vC_upI, vC_upI, hK.1]; done) | (rw [vC_up2 (by omega), vC_upI, hK.1]; done) | (rw [vC_up2 (by omega), hK.1]; done)) (fun r0 h0 => by have z9 : ¬ e + 9 = e + 2 := (by omega); have z1 : (K 2 q = nI r0) ↔ (w1 = r0) := (by rw [ew1]; exact nI_eq (by omega) (by omega)); have z2 : ¬ r = nI r0 := (by rw [et1]; exact m1_nI (by omega)); simp only [up2_up, z1, z2, z9, false_and, if_false, true_and, hK.in (r := r0) h0, hK.in (r := w1) hw1] <;> grind), by intro i hi; simp only [up2]; grind⟩ dX0_moveTo_54
    ·
      have h6 := b2_nz.mp h6
      obtain ⟨t1, ht1, et1⟩ := r_nat h6
      subst et1
      refine gx_aload_n C dX0_moveTo_35 (by rfl) (by rfl) ?_
      refine gx_getr (j := e + 9) (k := 8) C ck0 (sh_e he) (by rfl) (by decide) fl_X0_36 dX0_moveTo_36 ?_
      refine gx_iload_n C dX0_moveTo_39 (by rfl) (by rfl) ?_
      refine gx_dup2 C (by rfl) (by rfl) dX0_moveTo_40 ?_
      refine gx_ialdN (k := t1) C (sh_e9 he) rfl (by omega) (by decide) dX0_moveTo_41 ?_
      refine gx_iconst (v := 1) C dX0_moveTo_42 (by decide) ?_
      refine gx_iload_n C dX0_moveTo_43 (by rfl) (by rfl) ?_
      refine gx_ishl C dX0_moveTo_44 ?_
      refine gx_ior C dX0_moveTo_45 ?_
      refine gx_iastN (k := t1) C (sh_e9 he) rfl (by omega) (by decide) dX0_moveTo_46 ?_
      refine gx_aload_n C dX0_moveTo_47 (by rfl) (by rfl) ?_
      refine gx_getr (j := e + 2) (k := 1) C ck0 (sh_e he) (by rfl) (by decide) fl_X0_15 dX0_moveTo_48 ?_
      refine gx_iload_n C dX0_moveTo_51 (by rfl) (by rfl) ?_
      refine gx_iload_n C dX0_moveTo_52 (by rfl) (by rfl) ?_
      refine gx_iastN (k := q) C (sh_e2 he) rfl (by omega) (by decide) dX0_moveTo_53 ?_
      exact gx_vret C hr hlk ⟨emp_mv hK hq h12 (by first | (rw [vC_up2 (by omega), vC_upI, vC_upI, hK.1]; done) | (rw [vC_up2 (by omega), vC_upI, hK.1]; done) | (rw [vC_up2 (by omega), hK.1]; done)) (fun r0 h0 => by have z9 : ¬ e + 9 = e + 2 := (by omega); have z1 : (K 2 q = nI r0) ↔ (w1 = r0) := (by rw [ew1]; exact nI_eq (by omega) (by omega)); have z2 : (nI t1 = nI r0) ↔ (t1 = r0) := nI_eq (by omega) (by omega); simp only [up2_up, z1, z2, z9, false_and, if_false, true_and, hK.in (r := r0) h0, hK.in (r := w1) hw1, hK.in (r := t1) ht1] <;> grind), by intro i hi; simp only [up2]; grind⟩ dX0_moveTo_54
