/-- one more person, OUT -/
def nwK (K : Mm) (k : Int32) : Mm := up2 (up2 (up2 (up2 (up2 (up2 (up2 (up2 K 0 0 (K 0 0 + 1)) 1 (nn K) k) 2 (nn K) (-1)) 3 (nn K) 30) 4 (nn K) 0) 5 (nn K) 100) 6 (nn K) (-1)) 7 (nn K) 0
def adK (K : Mm) (k r : Int32) : Mm := up2 (nwK K k) 2 (nn K) r
theorem nn_nw {K : Mm} {k : Int32} (hO : Ok K) (h : nn K < 12) : nn (nwK K k) = nn K + 1 := by
  unfold nn nwK
  rw [up2_up, if_neg (by omega), up2_up, if_neg (by omega), up2_up, if_neg (by omega), up2_up, if_neg (by omega), up2_up, if_neg (by omega), up2_up, if_neg (by omega), up2_up, if_neg (by omega), up2_up, if_pos ⟨rfl, rfl⟩]
  have h1 := hO.1.1
  rw [h1, nI_1, nI_clamp (by omega), nI_clamp (by omega)]
theorem nw_00 {K : Mm} {k : Int32} : nwK K k 0 0 = K 0 0 + 1 := by
  unfold nwK
  rw [up2_up, if_neg (by omega), up2_up, if_neg (by omega), up2_up, if_neg (by omega), up2_up, if_neg (by omega), up2_up, if_neg (by omega), up2_up, if_neg (by omega), up2_up, if_neg (by omega), up2_up, if_pos ⟨rfl, rfl⟩]
theorem nw_o {K : Mm} {k : Int32} {j p : Nat} (hj : ¬ j = 0) (hp : ¬ p = nn K) : nwK K k j p = K j p := by
  unfold nwK
  rw [up2_up, if_neg (fun h => hp h.2), up2_up, if_neg (fun h => hp h.2), up2_up, if_neg (fun h => hp h.2), up2_up, if_neg (fun h => hp h.2), up2_up, if_neg (fun h => hp h.2), up2_up, if_neg (fun h => hp h.2), up2_up, if_neg (fun h => hp h.2), up2_up, if_neg (fun h => hj h.1)]
theorem nw_8 {K : Mm} {k : Int32} {j p : Nat} (hj : 8 ≤ j) : nwK K k j p = K j p := by
  unfold nwK
  rw [up2_up, if_neg (by omega), up2_up, if_neg (by omega), up2_up, if_neg (by omega), up2_up, if_neg (by omega), up2_up, if_neg (by omega), up2_up, if_neg (by omega), up2_up, if_neg (by omega), up2_up, if_neg (by omega)]
theorem nw_n {K : Mm} {k : Int32} : nwK K k 1 (nn K) = k ∧ nwK K k 2 (nn K) = -1 ∧ nwK K k 3 (nn K) = 30 ∧ nwK K k 5 (nn K) = 100 ∧ nwK K k 6 (nn K) = -1 := by
  unfold nwK
  refine ⟨?_, ?_, ?_, ?_, ?_⟩ <;> simp [up2_up]
theorem Ok_nw {K : Mm} {k : Int32} (hO : Ok K) (h : nn K < 12) (hk : 0 ≤ k ∧ k ≤ 6) : Ok (nwK K k) := by
  have en := nn_nw (k := k) hO h
  obtain ⟨⟨a1, a2⟩, b, c, d, z⟩ := hO
  have e0 : nwK K k 0 0 = nI (nn K + 1) := by rw [nw_00, a1]; exact nI_1 _
  have lt1 : ∀ x : Int32, x < K 0 0 → x < nI (nn K + 1) := fun x hx => by
    rw [a1] at hx
    exact Int32.lt_of_lt_of_le hx (nI_le (by omega) (by omega))
  refine ⟨⟨by rw [e0, en], by omega⟩, ?_, ?_, ?_, ?_, ?_⟩
  · intro p hp
    rw [en] at hp
    by_cases h1 : p = nn K
    · subst h1
      obtain ⟨n1, n2, n3, n5, n6⟩ := nw_n (K := K) (k := k)
      rw [n1, n2, n3, n5, n6, e0]
      exact ⟨hk, ⟨by decide, by decide⟩, ⟨by decide, by decide⟩, ⟨by decide, by decide⟩, by decide, Int32.lt_of_lt_of_le (by decide) (nI_pos' (by omega))⟩
    · obtain ⟨b1, b2, b3, b5, b6⟩ := b p (by omega)
      rw [nw_o (by omega) h1, nw_o (by omega) h1, nw_o (by omega) h1, nw_o (by omega) h1, nw_o (by omega) h1, e0]
      exact ⟨b1, b2, b3, b5, b6.1, lt1 _ b6.2⟩
  · rw [nw_8 (by omega)]; exact c
  · intro q hq
    rw [nw_8 (by omega), e0]
    exact ⟨(d q hq).1, lt1 _ (d q hq).2⟩
  · intro j p hp
    by_cases hj : j = 0
    · subst hj
      unfold nwK
      have : ¬ p = 0 := fun q => by subst q; revert hp; decide
      rw [up2_up, if_neg (by omega), up2_up, if_neg (by omega), up2_up, if_neg (by omega), up2_up, if_neg (by omega), up2_up, if_neg (by omega), up2_up, if_neg (by omega), up2_up, if_neg (by omega), up2_up, if_neg (by omega)]
      exact z.1 0 p hp
    · by_cases hp2 : p = nn K
      · have h8 : 8 ≤ j := by
          rcases Nat.lt_or_ge j 8 with h9 | h9
          · have : rng j = 12 := (by decide : ∀ j, j < 8 → ¬ j = 0 → rng j = 12) j h9 hj
            omega
          · exact h9
        rw [nw_8 h8]; exact z.1 j p hp
      · rw [nw_o hj hp2]; exact z.1 j p hp
  · intro r hr
    rw [nw_8 (by omega)]
    exact z.2 r hr
theorem emp_nw {σ σ' : Mm} {e : Nat} {K : Mm} {k : Int32} (hK : Emp σ e K) (hO : Ok K) (h : nn K < 12) (hv : vC σ' e = nwK K k) (hi : σ' (e + 9) = σ (e + 9)) : Emp σ' e (nwK K k) := by
  refine ⟨hv, fun r hr => ?_⟩
  rw [hi, hK.2 r hr, nn_nw hO h]
  have h2 : inP (nwK K k) (nI r) (nn K) = false := by simp [inP, (nw_n (K := K) (k := k)).2.1]; exact m1_nI (by omega)
  rw [← bset_f (by omega) h2]
  exact bset_c (fun p hp => by unfold inP; rw [nw_o (by omega) (by omega)])
set_option maxHeartbeats 4000000 in
set_option maxRecDepth 100000 in
theorem c_X0_addOne (E : En) (σ : Mm) (e : Nat) (he : isE e) (K : Mm) (hK : Emp σ e K) (hO : Ok K) (hn12 : nn K < 12) (k : Int32) (hk6 : 0 ≤ k ∧ k ≤ 6) (r : Nat) (hr8 : r < 8) : CtI E yX0_addOne cX0_addOne 4 (some .int) 3 65 [.ref (eA E e), .int k, .int (nI r)] σ (fun rr σ2 => rr = nI (nn K) ∧ Emp σ2 e (adK K k (nI r)) ∧ Fr e σ σ2) := by
  obtain ⟨⟨hn, h12⟩, hpp, hlw, hsp, hz0⟩ := id hO
  refine CtI.of (by decide +kernel) (Nat.le_of_ble_eq_true rfl) (fun p e0 s m below meth c C hr hlk => ?_)
  refine gx_lv (lv' := [(0, .ref (eA E e)), (1, .int k), (2, .int (nI r))]) rfl ?_
  refine gx_aload_n C dX0_addOne_0 (by rfl) (by rfl) ?_
  refine gx_geti (k := 11) C ck0 (sh_e he) (by rfl) (by decide) fl_X0_58 dX0_addOne_1 ?_
  refine gx_st (st' := [.int (nI (nn K))]) (by rw [hK.n, hn]) ?_
  refine gx_istore_n (lv2 := [(3, .int (nI (nn K))), (0, .ref (eA E e)), (1, .int k), (2, .int (nI r))]) C dX0_addOne_4 (by rfl) (by decide) rfl ?_
  refine gx_aload_n C dX0_addOne_5 (by rfl) (by rfl) ?_
  refine gx_dup C (by rfl) dX0_addOne_6 ?_
  refine gx_geti (k := 11) C ck0 (sh_e he) (by rfl) (by decide) fl_X0_58 dX0_addOne_7 ?_
  refine gx_st (st' := [.int (nI (nn K)), .ref (eA E e)]) (by rw [hK.n, hn]) ?_
  refine gx_iconst (v := 1) C dX0_addOne_10 (by decide) ?_
  refine gx_iadd C dX0_addOne_11 ?_
  refine gx_st (st' := [.int (nI (nn K + 1)), .ref (eA E e)]) (by rw [show (nI (nn K)) + 1 = nI (nn K + 1) from nI_add (nn K) 1]) ?_
  refine gx_puti (k := 11) C ck0 (sh_e he) (by rfl) (by decide) (by rfl) rfl rfl fl_X0_58 dX0_addOne_12 ?_
  refine gx_aload_n C dX0_addOne_15 (by rfl) (by rfl) ?_
  refine gx_getr (j := e + 1) (k := 0) C ck0 (sh_e he) (by rfl) (by decide) fl_X0_9 dX0_addOne_16 ?_
  refine gx_iload_n C dX0_addOne_19 (by rfl) (by rfl) ?_
  refine gx_iload_n C dX0_addOne_20 (by rfl) (by rfl) ?_
  refine gx_iastN (k := (nn K)) C (sh_e1 he) rfl (by omega) (by decide) dX0_addOne_21 ?_
  refine gx_aload_n C dX0_addOne_22 (by rfl) (by rfl) ?_
  refine gx_getr (j := e + 2) (k := 1) C ck0 (sh_e he) (by rfl) (by decide) fl_X0_15 dX0_addOne_23 ?_
  refine gx_iload_n C dX0_addOne_26 (by rfl) (by rfl) ?_
  refine gx_iconst (v := (-1)) C dX0_addOne_27 (by decide) ?_
  refine gx_iastN (k := (nn K)) C (sh_e2 he) rfl (by omega) (by decide) dX0_addOne_28 ?_
  refine gx_aload_n C dX0_addOne_29 (by rfl) (by rfl) ?_
  refine gx_getr (j := e + 3) (k := 2) C ck0 (sh_e he) (by rfl) (by decide) fl_X0_18 dX0_addOne_30 ?_
  refine gx_iload_n C dX0_addOne_33 (by rfl) (by rfl) ?_
  refine gx_bipush (v := 30) C dX0_addOne_34 (by decide) ?_
  refine gx_iastN (k := (nn K)) C (sh_e3 he) rfl (by omega) (by decide) dX0_addOne_36 ?_
  refine gx_aload_n C dX0_addOne_37 (by rfl) (by rfl) ?_
  refine gx_getr (j := e + 4) (k := 3) C ck0 (sh_e he) (by rfl) (by decide) fl_X0_21 dX0_addOne_38 ?_
  refine gx_iload_n C dX0_addOne_41 (by rfl) (by rfl) ?_
  refine gx_iconst (v := 0) C dX0_addOne_42 (by decide) ?_
  refine gx_iastN (k := (nn K)) C (sh_e4 he) rfl (by omega) (by decide) dX0_addOne_43 ?_
  refine gx_aload_n C dX0_addOne_44 (by rfl) (by rfl) ?_
  refine gx_getr (j := e + 5) (k := 4) C ck0 (sh_e he) (by rfl) (by decide) fl_X0_24 dX0_addOne_45 ?_
  refine gx_iload_n C dX0_addOne_48 (by rfl) (by rfl) ?_
  refine gx_bipush (v := 100) C dX0_addOne_49 (by decide) ?_
  refine gx_iastN (k := (nn K)) C (sh_e5 he) rfl (by omega) (by decide) dX0_addOne_51 ?_
  refine gx_aload_n C dX0_addOne_52 (by rfl) (by rfl) ?_
  refine gx_getr (j := e + 6) (k := 5) C ck0 (sh_e he) (by rfl) (by decide) fl_X0_27 dX0_addOne_53 ?_
  refine gx_iload_n C dX0_addOne_56 (by rfl) (by rfl) ?_
  refine gx_iconst (v := (-1)) C dX0_addOne_57 (by decide) ?_
  refine gx_iastN (k := (nn K)) C (sh_e6 he) rfl (by omega) (by decide) dX0_addOne_58 ?_
  refine gx_aload_n C dX0_addOne_59 (by rfl) (by rfl) ?_
  refine gx_getr (j := e + 7) (k := 6) C ck0 (sh_e he) (by rfl) (by decide) fl_X0_30 dX0_addOne_60 ?_
  refine gx_iload_n C dX0_addOne_63 (by rfl) (by rfl) ?_
  refine gx_iconst (v := 0) C dX0_addOne_64 (by decide) ?_
  refine gx_iastN (k := (nn K)) C (sh_e7 he) rfl (by omega) (by decide) dX0_addOne_65 ?_
  obtain ⟨σ1, es1⟩ : ∃ τ, τ = up2 (up2 (up2 (up2 (up2 (up2 (up2 (up2 σ e 11 (nI (nn K + 1))) (e + 1) (nn K) k) (e + 2) (nn K) (-1)) (e + 3) (nn K) 30) (e + 4) (nn K) 0) (e + 5) (nn K) 100) (e + 6) (nn K) (-1)) (e + 7) (nn K) 0 := ⟨_, rfl⟩
  refine gx_mm es1.symm ?_
  have hK1 : Emp σ1 e (nwK K k) := emp_nw hK hO hn12 (by rw [es1, vC_up7 (by omega), vC_up6 (by omega), vC_up5 (by omega), vC_up4 (by omega), vC_up3 (by omega), vC_up2 (by omega), vC_up1 (by omega), show (11 : Nat) = 11 + 0 from rfl, vC_up0 (by omega), hK.1, show nI (nn K + 1) = K 0 0 + 1 from (by rw [hn, nI_1])]; rfl) (by rw [es1, up2_o (by omega), up2_o (by omega), up2_o (by omega), up2_o (by omega), up2_o (by omega), up2_o (by omega), up2_o (by omega), up2_o (by omega)])
  have hF1 : Fr e σ σ1 := by intro i hi; rw [es1, up2_o (by omega), up2_o (by omega), up2_o (by omega), up2_o (by omega), up2_o (by omega), up2_o (by omega), up2_o (by omega), up2_o (by omega)]
  have hO1 := Ok_nw hO hn12 hk6
  have nw1 := nn_nw (k := k) hO hn12
  clear es1
  refine gx_aload_n C dX0_addOne_66 (by rfl) (by rfl) ?_
  refine gx_iload_n C dX0_addOne_67 (by rfl) (by rfl) ?_
  refine gx_iload_n C dX0_addOne_68 (by rfl) (by rfl) ?_
  refine gx_callVV (As := [.int (nI (nn K)), .int (nI r)]) (rest := []) C (c_X0_moveTo E σ1 e he (nwK K k) hK1 hO1 (nn K) (by omega) (nI r) (rk_rg (by omega))) z_X0_moveTo ck0 (sh_e he) (by rfl) ml_X0_80 (by rfl) (Nat.le_of_ble_eq_true rfl) ⟨Nat.le_of_ble_eq_true rfl, Nat.le_of_ble_eq_true rfl⟩ dX0_addOne_69 (fun σ2 w2 => ?_)
  obtain ⟨hK2, hF2⟩ := w2
  have hO2 := Ok.rank (v := (nI r)) (p := (nn K)) hO1 (by omega) (rk_rg (by omega))
  refine gx_iload_n C dX0_addOne_72 (by rfl) (by rfl) ?_
  exact gx_iret C hr hlk rfl ⟨rfl, hK2, (hF1).tr hF2⟩ dX0_addOne_73
def drZ (z : Int32) : Int32 := z * 1103515245 + 12345
def drN (z : Int32) (n : Nat) : Nat := z.toBitVec.toNat / 2 ^ 8 % n
theorem dr_eq (z : Int32) {n : Nat} (h0 : 0 < n) (hn : n ≤ 12) : ush z 8 - ush z 8 / nI n * nI n = nI (drN z n) := by
  have h1 : ush z 8 = nI (z.toBitVec.toNat / 2 ^ 8) := by
    apply Int32.toBitVec_inj.mp
    apply BitVec.eq_of_toNat_eq
    have h2 : (ush z 8).toBitVec.toNat = z.toBitVec.toNat / 2 ^ 8 := pk_ushr z 8 8 (by decide)
    rw [h2]
    have h3 : z.toBitVec.toNat < 2 ^ 32 := z.toBitVec.isLt
    exact (pk_tn (n := z.toBitVec.toNat / 2 ^ 8) (by omega)).symm
  have h3 : z.toBitVec.toNat < 2 ^ 32 := z.toBitVec.isLt
  rw [h1, pk_rem (by omega) h0 (by omega)]
  rfl
theorem dr_lt (z : Int32) {n : Nat} (h0 : 0 < n) : drN z n < n := Nat.mod_lt _ h0
set_option maxHeartbeats 4000000 in
set_option maxRecDepth 100000 in
theorem c_X0_drawPerson (E : En) (σ : Mm) (e : Nat) (he : isE e) (K : Mm) (hK : Emp σ e K) (hO : Ok K) (h0 : 0 < nn K) : CtI E yX0_drawPerson cX0_drawPerson 1 (some .int) 0 0 [.ref (eA E e)] σ (fun rr σ2 => rr = nI (drN (drZ (K 0 3)) (nn K)) ∧ Emp σ2 e (up2 K 0 3 (drZ (K 0 3))) ∧ Fr e σ σ2) := by
  obtain ⟨⟨hn, h12⟩, hpp, hlw, hsp, hz0⟩ := id hO
  refine CtI.of (by decide +kernel) (Nat.le_of_ble_eq_true rfl) (fun p e0 s m below meth c C hr hlk => ?_)
  refine gx_lv (lv' := [(0, .ref (eA E e))]) rfl ?_
  refine gx_aload_n C dX0_drawPerson_0 (by rfl) (by rfl) ?_
  refine gx_aload_n C dX0_drawPerson_1 (by rfl) (by rfl) ?_
  refine gx_geti (k := 14) C ck0 (sh_e he) (by rfl) (by decide) fl_X0_45 dX0_drawPerson_2 ?_
  refine gx_st (st' := [.int (K 0 3), .ref (eA E e)]) (by rw [hK.z]) ?_
  refine gx_ldc C kc_X0_151 dX0_drawPerson_5 ?_
  refine gx_imul C dX0_drawPerson_7 ?_
  refine gx_sipush (v := 12345) C dX0_drawPerson_8 (by decide) ?_
  refine gx_iadd C dX0_drawPerson_11 ?_
  refine gx_puti (k := 14) C ck0 (sh_e he) (by rfl) (by decide) (by rfl) rfl rfl fl_X0_45 dX0_drawPerson_12 ?_
  have hK1 := hK.uz (v := ((K 0 3) * 1103515245) + 12345)
  refine gx_aload_n C dX0_drawPerson_15 (by rfl) (by rfl) ?_
  refine gx_geti (k := 11) C ck0 (sh_e he) (by rfl) (by decide) fl_X0_58 dX0_drawPerson_16 ?_
  refine gx_st (st' := [.int (nI (nn K))]) (by rw [show (up2 σ e 14 (((K 0 3) * 1103515245) + 12345)) e 11 = nI (nn K) from (hK1.n).trans hn]) ?_
  refine gx_if_le (tgt := 37) C dX0_drawPerson_19 (by decide) (fun h2 => ?_) (fun h2 => ?_)
  ·
    exact absurd h2 (nI_nle h0 (by omega))
  ·
    refine gx_aload_n C dX0_drawPerson_22 (by rfl) (by rfl) ?_
    refine gx_geti (k := 14) C ck0 (sh_e he) (by rfl) (by decide) fl_X0_45 dX0_drawPerson_23 ?_
    refine gx_st (st' := [.int (drZ (K 0 3))]) (by rw [show (up2 σ e 14 (((K 0 3) * 1103515245) + 12345)) e 14 = drZ (K 0 3) from by rw [hK1.z]; rfl]) ?_
    refine gx_bipush (v := 8) C dX0_drawPerson_26 (by decide) ?_
    refine gx_iushr C rfl dX0_drawPerson_28 ?_
    refine gx_aload_n C dX0_drawPerson_29 (by rfl) (by rfl) ?_
    refine gx_geti (k := 11) C ck0 (sh_e he) (by rfl) (by decide) fl_X0_58 dX0_drawPerson_30 ?_
    refine gx_st (st' := [.int (nI (nn K)), .int (((drZ (K 0 3)).toUInt32 >>> ((8 : Int32).toUInt32 &&& Int32.toUInt32 31)).toInt32)]) (by rw [show (up2 σ e 14 (((K 0 3) * 1103515245) + 12345)) e 11 = nI (nn K) from (hK1.n).trans hn]) ?_
    refine gx_irem C (nI_ne0 h0 (by omega)) dX0_drawPerson_33 ?_
    refine gx_goto (tgt := 38) C dX0_drawPerson_34 (by decide) ?_
    exact gx_iret C hr hlk rfl ⟨dr_eq (drZ (K 0 3)) h0 h12, hK1, Fr.rf.up (by omega) (by omega)⟩ dX0_drawPerson_38
def lenE (i : Nat) : Nat := [0, 12, 12, 12, 12, 12, 12, 12, 8, 8, 3, 10].getD i 0
/-- the first rows have been taken over -/
def Cpy (e e2 j : Nat) (σ τ : Mm) : Prop := (∀ i p, 1 ≤ i → i < j → p < lenE i → τ (e + i) p = σ (e2 + i) p) ∧ ∀ i, (i ≤ e ∨ e + j ≤ i) → τ i = σ i
theorem Cpy.s {e e2 j : Nat} {σ τ : Mm} (h : Cpy e e2 j σ τ) (hd : e + 12 ≤ e2 ∨ e2 + 12 ≤ e) (hj : 1 ≤ j) (h11 : j ≤ 11) : Cpy e e2 (j + 1) σ (rw2 τ (e + j) (va_cpy (τ (e2 + j)) (τ (e + j)) 0 0 (lenE j))) := by
  refine ⟨fun i p h1 h2 hp => ?_, fun i hi => ?_⟩
  · by_cases hij : i = j
    · subst hij
      rw [rw2_s, pk_cpy_in (by omega) (by omega), h.2 (e2 + i) (by omega)]
      simp
    · rw [rw2_o (by omega)]
      exact h.1 i p h1 (by omega) hp
  · rw [rw2_o (by omega)]
    exact h.2 i (by omega)
theorem emp_like {σ τ τ' : Mm} {e e2 : Nat} {K : Mm} (h : Cpy e e2 12 σ τ) (hK : Emp σ e2 K) (h9 : ∀ i, ¬ i = e → τ' i = τ i) (hf : ∀ k, k < 4 → τ' e (11 + k) = σ e2 (11 + k)) : Emp τ' e K ∧ Fr e σ τ' := by
  refine ⟨⟨?_, fun r hr => ?_⟩, fun i hi => by rw [h9 i (by omega), h.2 i (by omega)]⟩
  · rw [← hK.1]
    funext j p
    unfold vC
    by_cases hp : p < rng j
    · have hj : j < 11 := by
        rcases Nat.lt_or_ge j 11 with q | q
        · exact q
        · have : rng j = 0 := by unfold rng; rw [List.getD_eq_getElem?_getD, List.getElem?_eq_none (by simp; omega)]; rfl
          omega
      by_cases h0 : j = 0
      · subst h0
        have h4 : p < 4 := hp
        simp [hp, hf p h4]
      · by_cases h8 : j ≤ 8
        · have hl : lenE j = rng j := (by decide : ∀ j, j ≤ 8 → ¬ j = 0 → lenE j = rng j) j h8 h0
          simp only [hp, h0, h8, if_true, if_false]
          rw [h9 (e + j) (by omega)]
          exact h.1 j p (by omega) (by omega) (by omega)
        · have hl : lenE (j + 1) = rng j := (by decide : ∀ j, j < 11 → 8 < j → lenE (j + 1) = rng j) j hj (by omega)
          simp only [hp, h0, h8, if_true, if_false]
          rw [h9 (e + j + 1) (by omega)]
          exact h.1 (j + 1) p (by omega) (by omega) (by omega)
    · simp [hp]
  · rw [h9 (e + 9) (by omega), h.1 9 r (by omega) (by omega) hr]
    exact hK.2 r hr
set_option maxHeartbeats 4000000 in
set_option maxRecDepth 100000 in
theorem c_X0_becomeLike (E : En) (σ : Mm) (e : Nat) (he : isE e) (e2 : Nat) (he2 : isE e2) (hd : e + 12 ≤ e2 ∨ e2 + 12 ≤ e) (K : Mm) (hK : Emp σ e2 K) : CtV E yX0_becomeLike cX0_becomeLike 2 none 1 60 [.ref (eA E e), .ref (eA E e2)] σ (fun σ2 => Emp σ2 e K ∧ Fr e σ σ2) := by
  refine CtV.of (by decide +kernel) (Nat.le_of_ble_eq_true rfl) (fun p e0 s m below meth c C hr hlk => ?_)
  refine gx_lv (lv' := [(0, .ref (eA E e)), (1, .ref (eA E e2))]) rfl ?_
  refine gx_aload_n C dX0_becomeLike_0 (by rfl) (by rfl) ?_
  refine gx_getr (j := e2 + 1) (k := 0) C ck0 (sh_e he2) (by rfl) (by decide) fl_X0_9 dX0_becomeLike_1 ?_
  refine gx_iconst (v := 0) C dX0_becomeLike_4 (by decide) ?_
  refine gx_aload_n C dX0_becomeLike_5 (by rfl) (by rfl) ?_
  refine gx_getr (j := e + 1) (k := 0) C ck0 (sh_e he) (by rfl) (by decide) fl_X0_9 dX0_becomeLike_6 ?_
  refine gx_iconst (v := 0) C dX0_becomeLike_9 (by decide) ?_
  refine gx_bipush (v := 12) C dX0_becomeLike_10 (by decide) ?_
  refine gx_copy (i0 := e2 + 1) (i1 := e + 1) (sp := 0) (dp := 0) (n := 12) C (sh_e1 he2) (sh_e1 he) (by decide) (by decide) (by decide) ml_X0_52 (Nat.le_of_ble_eq_true rfl) (Nat.le_of_ble_eq_true rfl) dX0_becomeLike_12 ?_
  obtain ⟨τ1, et1⟩ : ∃ τ, τ = rw2 σ (e + 1) (va_cpy (σ (e2 + 1)) (σ (e + 1)) 0 0 12) := ⟨_, rfl⟩
  refine gx_mm et1.symm ?_
  have cp1 : Cpy e e2 2 σ τ1 := by rw [et1]; exact Cpy.s (j := 1) (⟨fun i p h1 h2 => absurd h2 (by omega), fun i _ => rfl⟩ : Cpy e e2 1 σ σ) hd (by omega) (by omega)
  clear et1
  refine gx_aload_n C dX0_becomeLike_15 (by rfl) (by rfl) ?_
  refine gx_getr (j := e2 + 2) (k := 1) C ck0 (sh_e he2) (by rfl) (by decide) fl_X0_15 dX0_becomeLike_16 ?_
  refine gx_iconst (v := 0) C dX0_becomeLike_19 (by decide) ?_
  refine gx_aload_n C dX0_becomeLike_20 (by rfl) (by rfl) ?_
  refine gx_getr (j := e + 2) (k := 1) C ck0 (sh_e he) (by rfl) (by decide) fl_X0_15 dX0_becomeLike_21 ?_
  refine gx_iconst (v := 0) C dX0_becomeLike_24 (by decide) ?_
  refine gx_bipush (v := 12) C dX0_becomeLike_25 (by decide) ?_
  refine gx_copy (i0 := e2 + 2) (i1 := e + 2) (sp := 0) (dp := 0) (n := 12) C (sh_e2 he2) (sh_e2 he) (by decide) (by decide) (by decide) ml_X0_52 (Nat.le_of_ble_eq_true rfl) (Nat.le_of_ble_eq_true rfl) dX0_becomeLike_27 ?_
  obtain ⟨τ2, et2⟩ : ∃ τ, τ = rw2 τ1 (e + 2) (va_cpy (τ1 (e2 + 2)) (τ1 (e + 2)) 0 0 12) := ⟨_, rfl⟩
  refine gx_mm et2.symm ?_
  have cp2 : Cpy e e2 3 σ τ2 := by rw [et2]; exact Cpy.s (j := 2) cp1 hd (by omega) (by omega)
  clear et2
  refine gx_aload_n C dX0_becomeLike_30 (by rfl) (by rfl) ?_
  refine gx_getr (j := e2 + 3) (k := 2) C ck0 (sh_e he2) (by rfl) (by decide) fl_X0_18 dX0_becomeLike_31 ?_
  refine gx_iconst (v := 0) C dX0_becomeLike_34 (by decide) ?_
  refine gx_aload_n C dX0_becomeLike_35 (by rfl) (by rfl) ?_
  refine gx_getr (j := e + 3) (k := 2) C ck0 (sh_e he) (by rfl) (by decide) fl_X0_18 dX0_becomeLike_36 ?_
  refine gx_iconst (v := 0) C dX0_becomeLike_39 (by decide) ?_
  refine gx_bipush (v := 12) C dX0_becomeLike_40 (by decide) ?_
  refine gx_copy (i0 := e2 + 3) (i1 := e + 3) (sp := 0) (dp := 0) (n := 12) C (sh_e3 he2) (sh_e3 he) (by decide) (by decide) (by decide) ml_X0_52 (Nat.le_of_ble_eq_true rfl) (Nat.le_of_ble_eq_true rfl) dX0_becomeLike_42 ?_
  obtain ⟨τ3, et3⟩ : ∃ τ, τ = rw2 τ2 (e + 3) (va_cpy (τ2 (e2 + 3)) (τ2 (e + 3)) 0 0 12) := ⟨_, rfl⟩
  refine gx_mm et3.symm ?_
  have cp3 : Cpy e e2 4 σ τ3 := by rw [et3]; exact Cpy.s (j := 3) cp2 hd (by omega) (by omega)
  clear et3
  refine gx_aload_n C dX0_becomeLike_45 (by rfl) (by rfl) ?_
  refine gx_getr (j := e2 + 4) (k := 3) C ck0 (sh_e he2) (by rfl) (by decide) fl_X0_21 dX0_becomeLike_46 ?_
  refine gx_iconst (v := 0) C dX0_becomeLike_49 (by decide) ?_
  refine gx_aload_n C dX0_becomeLike_50 (by rfl) (by rfl) ?_
  refine gx_getr (j := e + 4) (k := 3) C ck0 (sh_e he) (by rfl) (by decide) fl_X0_21 dX0_becomeLike_51 ?_
  refine gx_iconst (v := 0) C dX0_becomeLike_54 (by decide) ?_
  refine gx_bipush (v := 12) C dX0_becomeLike_55 (by decide) ?_
  refine gx_copy (i0 := e2 + 4) (i1 := e + 4) (sp := 0) (dp := 0) (n := 12) C (sh_e4 he2) (sh_e4 he) (by decide) (by decide) (by decide) ml_X0_52 (Nat.le_of_ble_eq_true rfl) (Nat.le_of_ble_eq_true rfl) dX0_becomeLike_57 ?_
  obtain ⟨τ4, et4⟩ : ∃ τ, τ = rw2 τ3 (e + 4) (va_cpy (τ3 (e2 + 4)) (τ3 (e + 4)) 0 0 12) := ⟨_, rfl⟩
  refine gx_mm et4.symm ?_
  have cp4 : Cpy e e2 5 σ τ4 := by rw [et4]; exact Cpy.s (j := 4) cp3 hd (by omega) (by omega)
  clear et4
  refine gx_aload_n C dX0_becomeLike_60 (by rfl) (by rfl) ?_
  refine gx_getr (j := e2 + 5) (k := 4) C ck0 (sh_e he2) (by rfl) (by decide) fl_X0_24 dX0_becomeLike_61 ?_
  refine gx_iconst (v := 0) C dX0_becomeLike_64 (by decide) ?_
  refine gx_aload_n C dX0_becomeLike_65 (by rfl) (by rfl) ?_
  refine gx_getr (j := e + 5) (k := 4) C ck0 (sh_e he) (by rfl) (by decide) fl_X0_24 dX0_becomeLike_66 ?_
  refine gx_iconst (v := 0) C dX0_becomeLike_69 (by decide) ?_
  refine gx_bipush (v := 12) C dX0_becomeLike_70 (by decide) ?_
  refine gx_copy (i0 := e2 + 5) (i1 := e + 5) (sp := 0) (dp := 0) (n := 12) C (sh_e5 he2) (sh_e5 he) (by decide) (by decide) (by decide) ml_X0_52 (Nat.le_of_ble_eq_true rfl) (Nat.le_of_ble_eq_true rfl) dX0_becomeLike_72 ?_
  obtain ⟨τ5, et5⟩ : ∃ τ, τ = rw2 τ4 (e + 5) (va_cpy (τ4 (e2 + 5)) (τ4 (e + 5)) 0 0 12) := ⟨_, rfl⟩
  refine gx_mm et5.symm ?_
  have cp5 : Cpy e e2 6 σ τ5 := by rw [et5]; exact Cpy.s (j := 5) cp4 hd (by omega) (by omega)
  clear et5
  refine gx_aload_n C dX0_becomeLike_75 (by rfl) (by rfl) ?_
  refine gx_getr (j := e2 + 6) (k := 5) C ck0 (sh_e he2) (by rfl) (by decide) fl_X0_27 dX0_becomeLike_76 ?_
  refine gx_iconst (v := 0) C dX0_becomeLike_79 (by decide) ?_
  refine gx_aload_n C dX0_becomeLike_80 (by rfl) (by rfl) ?_
  refine gx_getr (j := e + 6) (k := 5) C ck0 (sh_e he) (by rfl) (by decide) fl_X0_27 dX0_becomeLike_81 ?_
  refine gx_iconst (v := 0) C dX0_becomeLike_84 (by decide) ?_
  refine gx_bipush (v := 12) C dX0_becomeLike_85 (by decide) ?_
  refine gx_copy (i0 := e2 + 6) (i1 := e + 6) (sp := 0) (dp := 0) (n := 12) C (sh_e6 he2) (sh_e6 he) (by decide) (by decide) (by decide) ml_X0_52 (Nat.le_of_ble_eq_true rfl) (Nat.le_of_ble_eq_true rfl) dX0_becomeLike_87 ?_
  obtain ⟨τ6, et6⟩ : ∃ τ, τ = rw2 τ5 (e + 6) (va_cpy (τ5 (e2 + 6)) (τ5 (e + 6)) 0 0 12) := ⟨_, rfl⟩
  refine gx_mm et6.symm ?_
  have cp6 : Cpy e e2 7 σ τ6 := by rw [et6]; exact Cpy.s (j := 6) cp5 hd (by omega) (by omega)
  clear et6
  refine gx_aload_n C dX0_becomeLike_90 (by rfl) (by rfl) ?_
  refine gx_getr (j := e2 + 7) (k := 6) C ck0 (sh_e he2) (by rfl) (by decide) fl_X0_30 dX0_becomeLike_91 ?_
  refine gx_iconst (v := 0) C dX0_becomeLike_94 (by decide) ?_
  refine gx_aload_n C dX0_becomeLike_95 (by rfl) (by rfl) ?_
  refine gx_getr (j := e + 7) (k := 6) C ck0 (sh_e he) (by rfl) (by decide) fl_X0_30 dX0_becomeLike_96 ?_
  refine gx_iconst (v := 0) C dX0_becomeLike_99 (by decide) ?_
  refine gx_bipush (v := 12) C dX0_becomeLike_100 (by decide) ?_
  refine gx_copy (i0 := e2 + 7) (i1 := e + 7) (sp := 0) (dp := 0) (n := 12) C (sh_e7 he2) (sh_e7 he) (by decide) (by decide) (by decide) ml_X0_52 (Nat.le_of_ble_eq_true rfl) (Nat.le_of_ble_eq_true rfl) dX0_becomeLike_102 ?_
  obtain ⟨τ7, et7⟩ : ∃ τ, τ = rw2 τ6 (e + 7) (va_cpy (τ6 (e2 + 7)) (τ6 (e + 7)) 0 0 12) := ⟨_, rfl⟩
  refine gx_mm et7.symm ?_
  have cp7 : Cpy e e2 8 σ τ7 := by rw [et7]; exact Cpy.s (j := 7) cp6 hd (by omega) (by omega)
  clear et7
  refine gx_aload_n C dX0_becomeLike_105 (by rfl) (by rfl) ?_
  refine gx_getr (j := e2 + 8) (k := 7) C ck0 (sh_e he2) (by rfl) (by decide) fl_X0_33 dX0_becomeLike_106 ?_
  refine gx_iconst (v := 0) C dX0_becomeLike_109 (by decide) ?_
  refine gx_aload_n C dX0_becomeLike_110 (by rfl) (by rfl) ?_
  refine gx_getr (j := e + 8) (k := 7) C ck0 (sh_e he) (by rfl) (by decide) fl_X0_33 dX0_becomeLike_111 ?_
  refine gx_iconst (v := 0) C dX0_becomeLike_114 (by decide) ?_
  refine gx_bipush (v := 8) C dX0_becomeLike_115 (by decide) ?_
  refine gx_copy (i0 := e2 + 8) (i1 := e + 8) (sp := 0) (dp := 0) (n := 8) C (sh_e8 he2) (sh_e8 he) (by decide) (by decide) (by decide) ml_X0_52 (Nat.le_of_ble_eq_true rfl) (Nat.le_of_ble_eq_true rfl) dX0_becomeLike_117 ?_
  obtain ⟨τ8, et8⟩ : ∃ τ, τ = rw2 τ7 (e + 8) (va_cpy (τ7 (e2 + 8)) (τ7 (e + 8)) 0 0 8) := ⟨_, rfl⟩
  refine gx_mm et8.symm ?_
  have cp8 : Cpy e e2 9 σ τ8 := by rw [et8]; exact Cpy.s (j := 8) cp7 hd (by omega) (by omega)
  clear et8
  refine gx_aload_n C dX0_becomeLike_120 (by rfl) (by rfl) ?_
  refine gx_getr (j := e2 + 9) (k := 8) C ck0 (sh_e he2) (by rfl) (by decide) fl_X0_36 dX0_becomeLike_121 ?_
  refine gx_iconst (v := 0) C dX0_becomeLike_124 (by decide) ?_
  refine gx_aload_n C dX0_becomeLike_125 (by rfl) (by rfl) ?_
  refine gx_getr (j := e + 9) (k := 8) C ck0 (sh_e he) (by rfl) (by decide) fl_X0_36 dX0_becomeLike_126 ?_
  refine gx_iconst (v := 0) C dX0_becomeLike_129 (by decide) ?_
  refine gx_bipush (v := 8) C dX0_becomeLike_130 (by decide) ?_
  refine gx_copy (i0 := e2 + 9) (i1 := e + 9) (sp := 0) (dp := 0) (n := 8) C (sh_e9 he2) (sh_e9 he) (by decide) (by decide) (by decide) ml_X0_52 (Nat.le_of_ble_eq_true rfl) (Nat.le_of_ble_eq_true rfl) dX0_becomeLike_132 ?_
  obtain ⟨τ9, et9⟩ : ∃ τ, τ = rw2 τ8 (e + 9) (va_cpy (τ8 (e2 + 9)) (τ8 (e + 9)) 0 0 8) := ⟨_, rfl⟩
  refine gx_mm et9.symm ?_
  have cp9 : Cpy e e2 10 σ τ9 := by rw [et9]; exact Cpy.s (j := 9) cp8 hd (by omega) (by omega)
  clear et9
  refine gx_aload_n C dX0_becomeLike_135 (by rfl) (by rfl) ?_
  refine gx_getr (j := e2 + 10) (k := 9) C ck0 (sh_e he2) (by rfl) (by decide) fl_X0_39 dX0_becomeLike_136 ?_
  refine gx_iconst (v := 0) C dX0_becomeLike_139 (by decide) ?_
  refine gx_aload_n C dX0_becomeLike_140 (by rfl) (by rfl) ?_
  refine gx_getr (j := e + 10) (k := 9) C ck0 (sh_e he) (by rfl) (by decide) fl_X0_39 dX0_becomeLike_141 ?_
  refine gx_iconst (v := 0) C dX0_becomeLike_144 (by decide) ?_
  refine gx_iconst (v := 3) C dX0_becomeLike_145 (by decide) ?_
  refine gx_copy (i0 := e2 + 10) (i1 := e + 10) (sp := 0) (dp := 0) (n := 3) C (sh_e10 he2) (sh_e10 he) (by decide) (by decide) (by decide) ml_X0_52 (Nat.le_of_ble_eq_true rfl) (Nat.le_of_ble_eq_true rfl) dX0_becomeLike_146 ?_
  obtain ⟨τ10, et10⟩ : ∃ τ, τ = rw2 τ9 (e + 10) (va_cpy (τ9 (e2 + 10)) (τ9 (e + 10)) 0 0 3) := ⟨_, rfl⟩
  refine gx_mm et10.symm ?_
  have cp10 : Cpy e e2 11 σ τ10 := by rw [et10]; exact Cpy.s (j := 10) cp9 hd (by omega) (by omega)
  clear et10
  refine gx_aload_n C dX0_becomeLike_149 (by rfl) (by rfl) ?_
  refine gx_getr (j := e2 + 11) (k := 10) C ck0 (sh_e he2) (by rfl) (by decide) fl_X0_42 dX0_becomeLike_150 ?_
  refine gx_iconst (v := 0) C dX0_becomeLike_153 (by decide) ?_
  refine gx_aload_n C dX0_becomeLike_154 (by rfl) (by rfl) ?_
  refine gx_getr (j := e + 11) (k := 10) C ck0 (sh_e he) (by rfl) (by decide) fl_X0_42 dX0_becomeLike_155 ?_
  refine gx_iconst (v := 0) C dX0_becomeLike_158 (by decide) ?_
  refine gx_bipush (v := 10) C dX0_becomeLike_159 (by decide) ?_
  refine gx_copy (i0 := e2 + 11) (i1 := e + 11) (sp := 0) (dp := 0) (n := 10) C (sh_e11 he2) (sh_e11 he) (by decide) (by decide) (by decide) ml_X0_52 (Nat.le_of_ble_eq_true rfl) (Nat.le_of_ble_eq_true rfl) dX0_becomeLike_161 ?_
  obtain ⟨τ11, et11⟩ : ∃ τ, τ = rw2 τ10 (e + 11) (va_cpy (τ10 (e2 + 11)) (τ10 (e + 11)) 0 0 10) := ⟨_, rfl⟩
  refine gx_mm et11.symm ?_
  have cp11 : Cpy e e2 12 σ τ11 := by rw [et11]; exact Cpy.s (j := 11) cp10 hd (by omega) (by omega)
  clear et11
  refine gx_aload_n C dX0_becomeLike_164 (by rfl) (by rfl) ?_
  refine gx_aload_n C dX0_becomeLike_165 (by rfl) (by rfl) ?_
  refine gx_geti (k := 11) C ck0 (sh_e he2) (by rfl) (by decide) fl_X0_58 dX0_becomeLike_166 ?_
  refine gx_puti (k := 11) C ck0 (sh_e he) (by rfl) (by decide) (by rfl) rfl rfl fl_X0_58 dX0_becomeLike_169 ?_
  refine gx_aload_n C dX0_becomeLike_172 (by rfl) (by rfl) ?_
  refine gx_aload_n C dX0_becomeLike_173 (by rfl) (by rfl) ?_
  refine gx_geti (k := 12) C ck0 (sh_e he2) (by rfl) (by decide) fl_X0_61 dX0_becomeLike_174 ?_
  refine gx_puti (k := 12) C ck0 (sh_e he) (by rfl) (by decide) (by rfl) rfl rfl fl_X0_61 dX0_becomeLike_177 ?_
  refine gx_aload_n C dX0_becomeLike_180 (by rfl) (by rfl) ?_
  refine gx_aload_n C dX0_becomeLike_181 (by rfl) (by rfl) ?_
  refine gx_geti (k := 13) C ck0 (sh_e he2) (by rfl) (by decide) fl_X0_64 dX0_becomeLike_182 ?_
  refine gx_puti (k := 13) C ck0 (sh_e he) (by rfl) (by decide) (by rfl) rfl rfl fl_X0_64 dX0_becomeLike_185 ?_
  refine gx_aload_n C dX0_becomeLike_188 (by rfl) (by rfl) ?_
  refine gx_aload_n C dX0_becomeLike_189 (by rfl) (by rfl) ?_
  refine gx_geti (k := 14) C ck0 (sh_e he2) (by rfl) (by decide) fl_X0_45 dX0_becomeLike_190 ?_
  refine gx_puti (k := 14) C ck0 (sh_e he) (by rfl) (by decide) (by rfl) rfl rfl fl_X0_45 dX0_becomeLike_193 ?_
  exact gx_vret C hr hlk (emp_like cp11 hK (fun i hi => by rw [up2_o hi, up2_o hi, up2_o hi, up2_o hi]) (fun k hk => by have z1 : ¬ e2 = e := (by omega); have z2 := cp11.2 e2 (by omega); match k, hk with | 0, _ => simp [up2_up, z1, z2] | 1, _ => simp [up2_up, z1, z2] | 2, _ => simp [up2_up, z1, z2] | 3, _ => simp [up2_up, z1, z2] | k + 4, h => exact absurd h (by omega))) dX0_becomeLike_196
