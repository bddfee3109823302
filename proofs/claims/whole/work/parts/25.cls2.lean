theorem all_bs : ∀ n, n ≤ 12 → ((1 : Int32) <<< (nI n &&& 31)) - 1 = bset n (fun _ => true) := by decide +kernel
theorem k_X0_all (E : En) (σ : Mm) (e : Nat) (he : isE e) (K : Mm) (hK : Emp σ e K) (hO : Ok K) : CtI E yX0_all cX0_all 1 (some .int) 0 0 [.ref (eA E e)] σ (fun rr σ2 => σ2 = σ ∧ rr = bset (nn K) (fun _ => true)) := by
  have h := c_X0_all E σ e he
  rwa [hK.n, hO.1.1, all_bs _ hO.1.2] at h
theorem lt4 {w : Int32} (h : ¬ w < 0) (h4 : w < 4) : w = 0 ∨ w = 1 ∨ w = 2 ∨ w = 3 := by
  obtain ⟨k, hk, rfl⟩ := nI_of2 (x := w) (M := 3) (n := 3) (by decide) h (by
    rw [Int32.lt_iff_toInt_lt] at h4
    rw [Int32.le_iff_toInt_le]
    have a : (4 : Int32).toInt = 4 := by decide
    have b : (3 : Int32).toInt = 3 := by decide
    omega)
  rcases (show k = 0 ∨ k = 1 ∨ k = 2 ∨ k = 3 by omega) with rfl | rfl | rfl | rfl
  · exact Or.inl rfl
  · exact Or.inr (Or.inl rfl)
  · exact Or.inr (Or.inr (Or.inl rfl))
  · exact Or.inr (Or.inr (Or.inr rfl))
theorem CR.image {σ σ1 K L : Mm} {g : Int32} {F : Nat → Int32} {tl : Int32} {Bt W Z : Nat → Int32} {N : Mm} (h : CR σ (K, L, g, F, tl, Bt, W, Z, N)) (hK : Emp σ1 25 K) (hf : Fr 25 σ σ1) : CR (up2 σ1 0 2 1) (K, K, 1, F, tl, Bt, W, Z, N) := by
  obtain ⟨⟨a1, a2⟩, ⟨b1, b2, b3⟩, c, ⟨⟨d1, d2⟩, d3⟩, s⟩ := h
  refine ⟨⟨(a1.fr hf (by omega)).w (by omega), a2⟩, ⟨by rw [up2_s]; simp [upd], Or.inr rfl, fun q => ⟨hK.w (by omega), a2⟩⟩, fun q hq => by rw [up2_o (by omega), hf 1 (by omega)]; exact c q hq, ⟨⟨by rw [up2_o (by omega), hf 3 (by omega)]; exact d1, d2⟩, fun i hi => by rw [up2_o (by omega), hf 4 (by omega)]; exact d3 i hi⟩, fun q hq => by rw [up2_o (by omega), up2_o (by omega), hf (5 + q) (by omega), hf (9 + q) (by omega)]; exact s q hq⟩
theorem CR.tear {σ K L : Mm} {g : Int32} {F : Nat → Int32} {tl : Int32} {Bt W Z : Nat → Int32} {N : Mm} (h : CR σ (K, L, g, F, tl, Bt, W, Z, N)) : CR (up2 σ 0 2 0) (K, L, 0, F, tl, Bt, W, Z, N) := by
  obtain ⟨⟨a1, a2⟩, ⟨b1, b2, b3⟩, c, ⟨⟨d1, d2⟩, d3⟩, s⟩ := h
  refine ⟨⟨a1.w (by omega), a2⟩, ⟨by rw [up2_s]; simp [upd], Or.inl rfl, fun q => absurd q (by decide)⟩, fun q hq => by rw [up2_o (by omega)]; exact c q hq, ⟨⟨by rw [up2_o (by omega)]; exact d1, d2⟩, fun i hi => by rw [up2_o (by omega)]; exact d3 i hi⟩, fun q hq => by rw [up2_o (by omega), up2_o (by omega)]; exact s q hq⟩
theorem CR.tape {σ σ' K L : Mm} {g : Int32} {F : Nat → Int32} {tl tl' : Int32} {Bt Bt' W Z : Nat → Int32} {N : Mm} (h : CR σ (K, L, g, F, tl, Bt, W, Z, N)) (he : ∀ i, ¬ i = 3 → ¬ i = 4 → σ' i = σ i) (h1 : σ' 3 1 = tl') (h2 : ∃ t, t ≤ 120 ∧ tl' = nI t) (h3 : ∀ i, i < 120 → σ' 4 i = Bt' i) : CR σ' (K, L, g, F, tl', Bt', W, Z, N) := by
  obtain ⟨⟨a1, a2⟩, ⟨b1, b2, b3⟩, c, -, s⟩ := h
  refine ⟨⟨a1.eq (fun i hi => he _ (by omega) (by omega)), a2⟩, ⟨by rw [he 0 (by omega) (by omega)]; exact b1, b2, fun q => ⟨(b3 q).1.eq (fun i hi => he _ (by omega) (by omega)), (b3 q).2⟩⟩, fun q hq => by rw [he 1 (by omega) (by omega)]; exact c q hq, ⟨⟨h1, h2⟩, h3⟩, fun q hq => by rw [he (5 + q) (by omega) (by omega), he (9 + q) (by omega) (by omega)]; exact s q hq⟩
set_option maxHeartbeats 4000000 in
set_option maxRecDepth 100000 in
theorem c_X3_months (E : En) (σ : Mm) (K L : Mm) (g : Int32) (F : Nat → Int32) (tl : Int32) (Bt W Z : Nat → Int32) (N : Mm) (hC : CR σ (K, L, g, F, tl, Bt, W, Z, N)) (n : Int32) : CtI E yX3_months cX3_months 2 (some .int) 6 137 [.ref (eA E 0), .int n] σ (fun rr σ2 => rr = (opMonths (K, L, g, F, tl, Bt, W, Z, N) n).1 ∧ CR σ2 (opMonths (K, L, g, F, tl, Bt, W, Z, N) n).2 ∧ FC σ σ2) := by
  obtain ⟨⟨hK, hO⟩, ⟨hg1, hg2, hg3⟩, hFd, ⟨⟨htl, htl2⟩, hBt⟩, hSh⟩ := id hC
  obtain ⟨⟨hn, h12⟩, hpp, hlw, hsp, hz0⟩ := id hO
  refine CtI.of (by decide +kernel) (Nat.le_of_ble_eq_true rfl) (fun p e0 s m below meth c C hr hlk => ?_)
  refine gx_lv (lv' := [(0, .ref (eA E 0)), (1, .int n)]) rfl ?_
  refine gx_iload_n C dX3_months_0 (by rfl) (by rfl) ?_
  refine gx_iconst (v := 1) C dX3_months_1 (by decide) ?_
  refine gx_bipush (v := 60) C dX3_months_2 (by decide) ?_
  refine gx_callSI (As := [.int n, .int 1, .int 60]) (rest := []) C (c_X3_isWithin E σ n 1 60) z_X3_isWithin (by rfl) ml_X3_44 (by rfl) (Nat.le_of_ble_eq_true rfl) ⟨Nat.le_of_ble_eq_true rfl, Nat.le_of_ble_eq_true rfl⟩ dX3_months_4 (fun r1 σ1 w1 => ?_)
  obtain ⟨u1, u2⟩ := w1; rw [u1, u2]; clear u1 u2
  refine gx_if_ne (tgt := 17) C dX3_months_7 (by decide) (fun h2 => ?_) (fun h2 => ?_)
  ·
    have h2 := b2_nz.mp h2
    obtain ⟨k, hk, rfl⟩ := i_nat (M := 60) (n := 60) (by decide) ⟨Int32.le_trans (by decide) h2.1, h2.2⟩
    have ck : (nI k).toNatClampNeg = k := nI_clamp (by omega)
    refine gx_aload_n C dX3_months_17 (by rfl) (by rfl) ?_
    refine gx_iload_n C dX3_months_18 (by rfl) (by rfl) ?_
    refine gx_callVI (As := [.int (nI k)]) (rest := []) C (c_X3_isTooLate E σ K hK (nI k)) z_X3_isTooLate ck3 (by rfl) (by rfl) ml_X3_163 (by rfl) (Nat.le_of_ble_eq_true rfl) ⟨Nat.le_of_ble_eq_true rfl, Nat.le_of_ble_eq_true rfl⟩ dX3_months_19 (fun r3 σ3 w3 => ?_)
    obtain ⟨u1, u2⟩ := w3; rw [u1, u2]; clear u1 u2
    refine gx_if_eq (tgt := 34) C dX3_months_22 (by decide) (fun h4 => ?_) (fun h4 => ?_)
    ·
      have h4 := b2_z.mp h4
      refine gx_aload_n C dX3_months_34 (by rfl) (by rfl) ?_
      refine gx_getr (j := 13) (k := 0) C ck3 (by rfl) (by rfl) (by decide) fl_X3_10 dX3_months_35 ?_
      refine gx_iload_n C dX3_months_38 (by rfl) (by rfl) ?_
      refine gx_callVI (As := [.int (nI k)]) (rest := []) C (c_X0_pass E σ 13 isE_13 K hK hO k (by omega)) z_X0_pass ck0 (by rfl) (by rfl) ml_X3_166 (by rfl) (Nat.le_of_ble_eq_true rfl) ⟨Nat.le_of_ble_eq_true rfl, Nat.le_of_ble_eq_true rfl⟩ dX3_months_39 (fun r5 σ5 w5 => ?_)
      obtain ⟨er5, hK5, hF5⟩ := w5
      refine gx_st (st' := [.int (mos k K 0 2 - K 0 2)]) (by rw [er5]) ?_
      exact gx_iret C hr hlk rfl (fin_now hC hK5 ((mos_keep hO k).1) hF5 (by simp only [opMonths, bey, ful, knd, non, sta, mis, siz] <;> grind)) dX3_months_42
    ·
      have h4 := b2_nz.mp h4
      refine gx_aload_n C dX3_months_25 (by rfl) (by rfl) ?_
      refine gx_ldc C kc_X3_56 dX3_months_26 ?_
      refine gx_callVI (As := [.int (-1000005)]) (rest := []) C (c_X3_found E σ (-1000005) 4 (by decide) (by decide)) z_X3_found ck3 (by rfl) (by rfl) ml_X3_49 (by rfl) (Nat.le_of_ble_eq_true rfl) ⟨Nat.le_of_ble_eq_true rfl, Nat.le_of_ble_eq_true rfl⟩ dX3_months_28 (fun r6 σ6 w6 => ?_)
      obtain ⟨u1, u2⟩ := w6; rw [u1, u2]; clear u1 u2
      refine gx_goto (tgt := 42) C dX3_months_31 (by decide) ?_
      exact gx_iret C hr hlk rfl (fin_fd hC (by decide) (by simp only [opMonths, bey, ful, knd, non, sta, mis, siz] <;> grind)) dX3_months_42
  ·
    have h2 := b2_z.mp h2
    refine gx_aload_n C dX3_months_10 (by rfl) (by rfl) ?_
    refine gx_ldc C kc_X3_48 dX3_months_11 ?_
    refine gx_callVI (As := [.int (-1000001)]) (rest := []) C (c_X3_found E σ (-1000001) 0 (by decide) (by decide)) z_X3_found ck3 (by rfl) (by rfl) ml_X3_49 (by rfl) (Nat.le_of_ble_eq_true rfl) ⟨Nat.le_of_ble_eq_true rfl, Nat.le_of_ble_eq_true rfl⟩ dX3_months_13 (fun r7 σ7 w7 => ?_)
    obtain ⟨u1, u2⟩ := w7; rw [u1, u2]; clear u1 u2
    exact gx_iret C hr hlk rfl (fin_fd hC (by decide) (by simp only [opMonths, bey, ful, knd, non, sta, mis, siz] <;> grind)) dX3_months_16
set_option maxHeartbeats 4000000 in
set_option maxRecDepth 100000 in
theorem c_X3_ahead (E : En) (σ : Mm) (K L : Mm) (g : Int32) (F : Nat → Int32) (tl : Int32) (Bt W Z : Nat → Int32) (N : Mm) (hC : CR σ (K, L, g, F, tl, Bt, W, Z, N)) (n w : Int32) : CtI E yX3_ahead cX3_ahead 4 (some .int) 6 137 [.ref (eA E 0), .int n, .int w] σ (fun rr σ2 => rr = (opAhead (K, L, g, F, tl, Bt, W, Z, N) n w).1 ∧ CR σ2 (opAhead (K, L, g, F, tl, Bt, W, Z, N) n w).2 ∧ FC σ σ2) := by
  obtain ⟨⟨hK, hO⟩, ⟨hg1, hg2, hg3⟩, hFd, ⟨⟨htl, htl2⟩, hBt⟩, hSh⟩ := id hC
  obtain ⟨⟨hn, h12⟩, hpp, hlw, hsp, hz0⟩ := id hO
  refine CtI.of (by decide +kernel) (Nat.le_of_ble_eq_true rfl) (fun p e0 s m below meth c C hr hlk => ?_)
  refine gx_lv (lv' := [(0, .ref (eA E 0)), (1, .int n), (2, .int w)]) rfl ?_
  refine gx_iload_n C dX3_ahead_0 (by rfl) (by rfl) ?_
  refine gx_iconst (v := 0) C dX3_ahead_1 (by decide) ?_
  refine gx_bipush (v := 120) C dX3_ahead_2 (by decide) ?_
  refine gx_callSI (As := [.int n, .int 0, .int 120]) (rest := []) C (c_X3_isWithin E σ n 0 120) z_X3_isWithin (by rfl) ml_X3_44 (by rfl) (Nat.le_of_ble_eq_true rfl) ⟨Nat.le_of_ble_eq_true rfl, Nat.le_of_ble_eq_true rfl⟩ dX3_ahead_4 (fun r1 σ1 w1 => ?_)
  obtain ⟨u1, u2⟩ := w1; rw [u1, u2]; clear u1 u2
  refine gx_if_eq (tgt := 32) C dX3_ahead_7 (by decide) (fun h2 => ?_) (fun h2 => ?_)
  ·
    have h2 := b2_z.mp h2
    refine gx_aload_n C dX3_ahead_32 (by rfl) (by rfl) ?_
    refine gx_ldc C kc_X3_48 dX3_ahead_33 ?_
    refine gx_callVI (As := [.int (-1000001)]) (rest := []) C (c_X3_found E σ (-1000001) 0 (by decide) (by decide)) z_X3_found ck3 (by rfl) (by rfl) ml_X3_49 (by rfl) (Nat.le_of_ble_eq_true rfl) ⟨Nat.le_of_ble_eq_true rfl, Nat.le_of_ble_eq_true rfl⟩ dX3_ahead_35 (fun r3 σ3 w3 => ?_)
    obtain ⟨u1, u2⟩ := w3; rw [u1, u2]; clear u1 u2
    exact gx_iret C hr hlk rfl (fin_fd hC (by decide) (by simp only [opAhead, bey, ful, knd, non, sta, mis, siz] <;> grind)) dX3_ahead_38
  ·
    have h2 := b2_nz.mp h2
    obtain ⟨k, hk, rfl⟩ := i_nat (M := 120) (n := 120) (by decide) h2
    have ck : (nI k).toNatClampNeg = k := nI_clamp (by omega)
    refine gx_iload_n C dX3_ahead_10 (by rfl) (by rfl) ?_
    refine gx_if_lt (tgt := 32) C dX3_ahead_11 (by decide) (fun h4 => ?_) (fun h4 => ?_)
    ·
      refine gx_aload_n C dX3_ahead_32 (by rfl) (by rfl) ?_
      refine gx_ldc C kc_X3_48 dX3_ahead_33 ?_
      refine gx_callVI (As := [.int (-1000001)]) (rest := []) C (c_X3_found E σ (-1000001) 0 (by decide) (by decide)) z_X3_found ck3 (by rfl) (by rfl) ml_X3_49 (by rfl) (Nat.le_of_ble_eq_true rfl) ⟨Nat.le_of_ble_eq_true rfl, Nat.le_of_ble_eq_true rfl⟩ dX3_ahead_35 (fun r5 σ5 w5 => ?_)
      obtain ⟨u1, u2⟩ := w5; rw [u1, u2]; clear u1 u2
      exact gx_iret C hr hlk rfl (fin_fd hC (by decide) (by simp only [opAhead, bey, ful, knd, non, sta, mis, siz] <;> grind)) dX3_ahead_38
    ·
      refine gx_iload_n C dX3_ahead_14 (by rfl) (by rfl) ?_
      refine gx_iconst (v := 4) C dX3_ahead_15 (by decide) ?_
      refine gx_icmp_lt (tgt := 39) C dX3_ahead_16 (by decide) (fun h6 => ?_) (fun h6 => ?_)
      ·
        refine gx_aload_n C dX3_ahead_39 (by rfl) (by rfl) ?_
        refine gx_iload_n C dX3_ahead_40 (by rfl) (by rfl) ?_
        refine gx_callVI (As := [.int (nI k)]) (rest := []) C (c_X3_isTooLate E σ K hK (nI k)) z_X3_isTooLate ck3 (by rfl) (by rfl) ml_X3_163 (by rfl) (Nat.le_of_ble_eq_true rfl) ⟨Nat.le_of_ble_eq_true rfl, Nat.le_of_ble_eq_true rfl⟩ dX3_ahead_41 (fun r7 σ7 w7 => ?_)
        obtain ⟨u1, u2⟩ := w7; rw [u1, u2]; clear u1 u2
        refine gx_if_eq (tgt := 54) C dX3_ahead_44 (by decide) (fun h8 => ?_) (fun h8 => ?_)
        ·
          have h8 := b2_z.mp h8
          refine gx_aload_n C dX3_ahead_54 (by rfl) (by rfl) ?_
          refine gx_getr (j := 37) (k := 3) C ck3 (by rfl) (by rfl) (by decide) fl_X3_19 dX3_ahead_55 ?_
          refine gx_aload_n C dX3_ahead_58 (by rfl) (by rfl) ?_
          refine gx_getr (j := 13) (k := 0) C ck3 (by rfl) (by rfl) (by decide) fl_X3_10 dX3_ahead_59 ?_
          refine gx_callVV (As := [.ref (eA E 13)]) (rest := []) C (c_X0_becomeLike E σ 37 isE_37 13 isE_13 (by decide) K hK) z_X0_becomeLike ck0 (by rfl) (by rfl) ml_X3_169 (by rfl) (Nat.le_of_ble_eq_true rfl) ⟨Nat.le_of_ble_eq_true rfl, Nat.le_of_ble_eq_true rfl⟩ dX3_ahead_62 (fun σ9 w9 => ?_)
          obtain ⟨hK9, hF9⟩ := w9
          have hK9_13 := Emp.fr (e := 13) (e2 := 37) hK hF9 (by decide)
          refine gx_aload_n C dX3_ahead_65 (by rfl) (by rfl) ?_
          refine gx_getr (j := 37) (k := 3) C ck3 (by rfl) (by rfl) (by decide) fl_X3_19 dX3_ahead_66 ?_
          refine gx_iload_n C dX3_ahead_69 (by rfl) (by rfl) ?_
          refine gx_callVI (As := [.int (nI k)]) (rest := []) C (c_X0_pass E σ9 37 isE_37 K hK9 hO k (by omega)) z_X0_pass ck0 (by rfl) (by rfl) ml_X3_166 (by rfl) (Nat.le_of_ble_eq_true rfl) ⟨Nat.le_of_ble_eq_true rfl, Nat.le_of_ble_eq_true rfl⟩ dX3_ahead_70 (fun r10 σ10 w10 => ?_)
          obtain ⟨er10, hK10, hF10⟩ := w10
          have hK10_13 := Emp.fr (e := 13) (e2 := 37) hK9_13 hF10 (by decide)
          refine gx_st (st' := [.int (mos k K 0 2 - K 0 2)]) (by rw [er10]) ?_
          refine gx_istore_n (lv2 := [(3, .int (mos k K 0 2 - K 0 2)), (0, .ref (eA E 0)), (1, .int (nI k)), (2, .int w)]) C dX3_ahead_73 (by rfl) (by decide) rfl ?_
          refine gx_iload_n C dX3_ahead_74 (by rfl) (by rfl) ?_
          rcases sw_split w (0) 3 4 (by decide) with h11 | h11
          ·
            refine gx_tabOut (tgt := 139) C dX3_ahead_75 h11 (by decide) ?_
            have qd11 : ¬ w = 0 ∧ ¬ w = 1 ∧ ¬ w = 2 ∧ ¬ w = 3 := by refine ⟨?_, ?_, ?_, ?_⟩ <;> (intro q9; rw [q9] at h11; revert h11; decide)
            refine gx_aload_n C dX3_ahead_139 (by rfl) (by rfl) ?_
            refine gx_getr (j := 37) (k := 3) C ck3 (by rfl) (by rfl) (by decide) fl_X3_19 dX3_ahead_140 ?_
            refine gx_getr (j := 39) (k := 1) C ck0 (by rfl) (by rfl) (by decide) fl_X3_105 dX3_ahead_143 ?_
            refine gx_iload_n C dX3_ahead_146 (by rfl) (by rfl) ?_
            refine gx_iconst (v := 4) C dX3_ahead_147 (by decide) ?_
            refine gx_isub C dX3_ahead_148 ?_
            exact absurd (lt4 (w := w) (by assumption) (by assumption)) (by grind)
          ·
            obtain ⟨j11, hj11, ej11⟩ := h11
            have hj11 := hj11
            match j11, hj11, ej11 with
            | 0, _, ej11 =>
              have ex11 : w = (0 : Int32) := ej11.trans (by decide)
              refine gx_tabIn (off := 29) (tgt := 104) C dX3_ahead_75 (by rw [ex11]; decide) (by rw [ex11]; decide) (by rw [ex11]; decide) (by decide) ?_
              refine gx_aload_n C dX3_ahead_104 (by rfl) (by rfl) ?_
              refine gx_getr (j := 37) (k := 3) C ck3 (by rfl) (by rfl) (by decide) fl_X3_19 dX3_ahead_105 ?_
              refine gx_callVI (As := []) (rest := []) C (c_X0_thoseOut E σ10 37 isE_37 (mos k K) hK10 ((mos_keep hO k).1)) z_X0_thoseOut ck0 (by rfl) (by rfl) ml_X3_173 (by rfl) (Nat.le_of_ble_eq_true rfl) ⟨Nat.le_of_ble_eq_true rfl, Nat.le_of_ble_eq_true rfl⟩ dX3_ahead_108 (fun r12 σ12 w12 => ?_)
              obtain ⟨u1, u2⟩ := w12; rw [u1, u2]; clear u1 u2
              exact gx_iret C hr hlk rfl (fin_try hC ((hF9).tr hF10) (by simp only [opAhead, aheadV, bey, sta, ck, show nI 0 = (0 : Int32) from rfl] <;> grind)) dX3_ahead_111
            | 1, _, ej11 =>
              have ex11 : w = (1 : Int32) := ej11.trans (by decide)
              refine gx_tabIn (off := 37) (tgt := 112) C dX3_ahead_75 (by rw [ex11]; decide) (by rw [ex11]; decide) (by rw [ex11]; decide) (by decide) ?_
              refine gx_iload_n C dX3_ahead_112 (by rfl) (by rfl) ?_
              exact gx_iret C hr hlk rfl (fin_try hC ((hF9).tr hF10) (by simp only [opAhead, aheadV, bey, sta, ck, show nI 0 = (0 : Int32) from rfl] <;> grind)) dX3_ahead_113
            | 2, _, ej11 =>
              have ex11 : w = (2 : Int32) := ej11.trans (by decide)
              refine gx_tabIn (off := 39) (tgt := 114) C dX3_ahead_75 (by rw [ex11]; decide) (by rw [ex11]; decide) (by rw [ex11]; decide) (by decide) ?_
              refine gx_aload_n C dX3_ahead_114 (by rfl) (by rfl) ?_
              refine gx_getr (j := 37) (k := 3) C ck3 (by rfl) (by rfl) (by decide) fl_X3_19 dX3_ahead_115 ?_
              refine gx_aload_n C dX3_ahead_118 (by rfl) (by rfl) ?_
              refine gx_getr (j := 37) (k := 3) C ck3 (by rfl) (by rfl) (by decide) fl_X3_19 dX3_ahead_119 ?_
              refine gx_callVI (As := []) (rest := [.ref (eA E 37)]) C (k_X0_all E σ10 37 isE_37 (mos k K) hK10 ((mos_keep hO k).1)) z_X0_all ck0 (by rfl) (by rfl) ml_X3_176 (by rfl) (Nat.le_of_ble_eq_true rfl) ⟨Nat.le_of_ble_eq_true rfl, Nat.le_of_ble_eq_true rfl⟩ dX3_ahead_122 (fun r13 σ13 w13 => ?_)
              obtain ⟨u1, u2⟩ := w13; rw [u1, u2]; clear u1 u2
              refine gx_callVI (As := [.int (bset (nn (mos k K)) (fun _ => true))]) (rest := []) C (c_X0_goldOf E σ10 37 isE_37 (mos k K) hK10 ((mos_keep hO k).1) (fun _ => true)) z_X0_goldOf ck0 (by rfl) (by rfl) ml_X3_72 (by rfl) (Nat.le_of_ble_eq_true rfl) ⟨Nat.le_of_ble_eq_true rfl, Nat.le_of_ble_eq_true rfl⟩ dX3_ahead_125 (fun r14 σ14 w14 => ?_)
              obtain ⟨u1, u2⟩ := w14; rw [u1, u2]; clear u1 u2
              exact gx_iret C hr hlk rfl (fin_try hC ((hF9).tr hF10) (by simp only [opAhead, aheadV, bey, sta, ck, show nI 0 = (0 : Int32) from rfl] <;> grind)) dX3_ahead_128
            | 3, _, ej11 =>
              have ex11 : w = (3 : Int32) := ej11.trans (by decide)
              refine gx_tabIn (off := 54) (tgt := 129) C dX3_ahead_75 (by rw [ex11]; decide) (by rw [ex11]; decide) (by rw [ex11]; decide) (by decide) ?_
              refine gx_aload_n C dX3_ahead_129 (by rfl) (by rfl) ?_
              refine gx_getr (j := 37) (k := 3) C ck3 (by rfl) (by rfl) (by decide) fl_X3_19 dX3_ahead_130 ?_
              refine gx_getr (j := 46) (k := 8) C ck0 (by rfl) (by rfl) (by decide) fl_X3_60 dX3_ahead_133 ?_
              refine gx_iconst (v := 0) C dX3_ahead_136 (by decide) ?_
              refine gx_ialdN (k := 0) C (by rfl) (by rfl) (by decide) (by decide) dX3_ahead_137 ?_
              refine gx_st (st' := [.int (bset (nn (mos k K)) (inP (mos k K) (nI 0)))]) (by rw [hK10.in (r := 0) (by omega)]) ?_
              exact gx_iret C hr hlk rfl (fin_try hC ((hF9).tr hF10) (by simp only [opAhead, aheadV, bey, sta, ck, show nI 0 = (0 : Int32) from rfl] <;> grind)) dX3_ahead_138
            | j + 4, hj, _ => exact absurd hj (by omega)
        ·
          have h8 := b2_nz.mp h8
          refine gx_aload_n C dX3_ahead_47 (by rfl) (by rfl) ?_
          refine gx_ldc C kc_X3_56 dX3_ahead_48 ?_
          refine gx_callVI (As := [.int (-1000005)]) (rest := []) C (c_X3_found E σ (-1000005) 4 (by decide) (by decide)) z_X3_found ck3 (by rfl) (by rfl) ml_X3_49 (by rfl) (Nat.le_of_ble_eq_true rfl) ⟨Nat.le_of_ble_eq_true rfl, Nat.le_of_ble_eq_true rfl⟩ dX3_ahead_50 (fun r15 σ15 w15 => ?_)
          obtain ⟨u1, u2⟩ := w15; rw [u1, u2]; clear u1 u2
          exact gx_iret C hr hlk rfl (fin_fd hC (by decide) (by simp only [opAhead, bey, ful, knd, non, sta, mis, siz] <;> grind)) dX3_ahead_53
      ·
        refine gx_aload_n C dX3_ahead_19 (by rfl) (by rfl) ?_
        refine gx_getr (j := 13) (k := 0) C ck3 (by rfl) (by rfl) (by decide) fl_X3_10 dX3_ahead_20 ?_
        refine gx_iload_n C dX3_ahead_23 (by rfl) (by rfl) ?_
        refine gx_iconst (v := 4) C dX3_ahead_24 (by decide) ?_
        refine gx_isub C dX3_ahead_25 ?_
        refine gx_callVI (As := [.int (w - 4)]) (rest := []) C (k_X0_has E σ 13 isE_13 K hK hO (w - 4)) z_X0_has ck0 (by rfl) (by rfl) ml_X3_99 (by rfl) (Nat.le_of_ble_eq_true rfl) ⟨Nat.le_of_ble_eq_true rfl, Nat.le_of_ble_eq_true rfl⟩ dX3_ahead_26 (fun r16 σ16 w16 => ?_)
        obtain ⟨u1, u2⟩ := w16; rw [u1, u2]; clear u1 u2
        refine gx_if_ne (tgt := 39) C dX3_ahead_29 (by decide) (fun h17 => ?_) (fun h17 => ?_)
        ·
          have h17 := b2_nz.mp h17
          obtain ⟨j, hj, ej⟩ := has_nat hO h17
          have cj : (w - 4).toNatClampNeg = j := by rw [ej]; exact nI_clamp (by omega)
          refine gx_aload_n C dX3_ahead_39 (by rfl) (by rfl) ?_
          refine gx_iload_n C dX3_ahead_40 (by rfl) (by rfl) ?_
          refine gx_callVI (As := [.int (nI k)]) (rest := []) C (c_X3_isTooLate E σ K hK (nI k)) z_X3_isTooLate ck3 (by rfl) (by rfl) ml_X3_163 (by rfl) (Nat.le_of_ble_eq_true rfl) ⟨Nat.le_of_ble_eq_true rfl, Nat.le_of_ble_eq_true rfl⟩ dX3_ahead_41 (fun r18 σ18 w18 => ?_)
          obtain ⟨u1, u2⟩ := w18; rw [u1, u2]; clear u1 u2
          refine gx_if_eq (tgt := 54) C dX3_ahead_44 (by decide) (fun h19 => ?_) (fun h19 => ?_)
          ·
            have h19 := b2_z.mp h19
            refine gx_aload_n C dX3_ahead_54 (by rfl) (by rfl) ?_
            refine gx_getr (j := 37) (k := 3) C ck3 (by rfl) (by rfl) (by decide) fl_X3_19 dX3_ahead_55 ?_
            refine gx_aload_n C dX3_ahead_58 (by rfl) (by rfl) ?_
            refine gx_getr (j := 13) (k := 0) C ck3 (by rfl) (by rfl) (by decide) fl_X3_10 dX3_ahead_59 ?_
            refine gx_callVV (As := [.ref (eA E 13)]) (rest := []) C (c_X0_becomeLike E σ 37 isE_37 13 isE_13 (by decide) K hK) z_X0_becomeLike ck0 (by rfl) (by rfl) ml_X3_169 (by rfl) (Nat.le_of_ble_eq_true rfl) ⟨Nat.le_of_ble_eq_true rfl, Nat.le_of_ble_eq_true rfl⟩ dX3_ahead_62 (fun σ20 w20 => ?_)
            obtain ⟨hK20, hF20⟩ := w20
            have hK20_13 := Emp.fr (e := 13) (e2 := 37) hK hF20 (by decide)
            refine gx_aload_n C dX3_ahead_65 (by rfl) (by rfl) ?_
            refine gx_getr (j := 37) (k := 3) C ck3 (by rfl) (by rfl) (by decide) fl_X3_19 dX3_ahead_66 ?_
            refine gx_iload_n C dX3_ahead_69 (by rfl) (by rfl) ?_
            refine gx_callVI (As := [.int (nI k)]) (rest := []) C (c_X0_pass E σ20 37 isE_37 K hK20 hO k (by omega)) z_X0_pass ck0 (by rfl) (by rfl) ml_X3_166 (by rfl) (Nat.le_of_ble_eq_true rfl) ⟨Nat.le_of_ble_eq_true rfl, Nat.le_of_ble_eq_true rfl⟩ dX3_ahead_70 (fun r21 σ21 w21 => ?_)
            obtain ⟨er21, hK21, hF21⟩ := w21
            have hK21_13 := Emp.fr (e := 13) (e2 := 37) hK20_13 hF21 (by decide)
            refine gx_st (st' := [.int (mos k K 0 2 - K 0 2)]) (by rw [er21]) ?_
            refine gx_istore_n (lv2 := [(3, .int (mos k K 0 2 - K 0 2)), (0, .ref (eA E 0)), (1, .int (nI k)), (2, .int w)]) C dX3_ahead_73 (by rfl) (by decide) rfl ?_
            refine gx_iload_n C dX3_ahead_74 (by rfl) (by rfl) ?_
            rcases sw_split w (0) 3 4 (by decide) with h22 | h22
            ·
              refine gx_tabOut (tgt := 139) C dX3_ahead_75 h22 (by decide) ?_
              have qd22 : ¬ w = 0 ∧ ¬ w = 1 ∧ ¬ w = 2 ∧ ¬ w = 3 := by refine ⟨?_, ?_, ?_, ?_⟩ <;> (intro q9; rw [q9] at h22; revert h22; decide)
              refine gx_aload_n C dX3_ahead_139 (by rfl) (by rfl) ?_
              refine gx_getr (j := 37) (k := 3) C ck3 (by rfl) (by rfl) (by decide) fl_X3_19 dX3_ahead_140 ?_
              refine gx_getr (j := 39) (k := 1) C ck0 (by rfl) (by rfl) (by decide) fl_X3_105 dX3_ahead_143 ?_
              refine gx_iload_n C dX3_ahead_146 (by rfl) (by rfl) ?_
              refine gx_iconst (v := 4) C dX3_ahead_147 (by decide) ?_
              refine gx_isub C dX3_ahead_148 ?_
              refine gx_st (st' := [.int (nI j), .ref (eA E 39)]) (by rw [ej]) ?_
              refine gx_ialdN (k := j) C (by rfl) rfl (by omega) (by decide) dX3_ahead_149 ?_
              refine gx_st (st' := [.int ((mos k K) 2 j)]) (by rw [hK21.r2 (p := j) (by omega)]) ?_
              exact gx_iret C hr hlk rfl (fin_try hC ((hF20).tr hF21) (by simp only [opAhead, aheadV, bey, sta, ck, show nI 0 = (0 : Int32) from rfl] <;> grind)) dX3_ahead_150
            ·
              obtain ⟨j22, hj22, ej22⟩ := h22
              have hj22 := hj22
              match j22, hj22, ej22 with
              | 0, _, ej22 =>
                have ex22 : w = (0 : Int32) := ej22.trans (by decide)
                refine gx_tabIn (off := 29) (tgt := 104) C dX3_ahead_75 (by rw [ex22]; decide) (by rw [ex22]; decide) (by rw [ex22]; decide) (by decide) ?_
                refine gx_aload_n C dX3_ahead_104 (by rfl) (by rfl) ?_
                refine gx_getr (j := 37) (k := 3) C ck3 (by rfl) (by rfl) (by decide) fl_X3_19 dX3_ahead_105 ?_
                refine gx_callVI (As := []) (rest := []) C (c_X0_thoseOut E σ21 37 isE_37 (mos k K) hK21 ((mos_keep hO k).1)) z_X0_thoseOut ck0 (by rfl) (by rfl) ml_X3_173 (by rfl) (Nat.le_of_ble_eq_true rfl) ⟨Nat.le_of_ble_eq_true rfl, Nat.le_of_ble_eq_true rfl⟩ dX3_ahead_108 (fun r23 σ23 w23 => ?_)
                obtain ⟨u1, u2⟩ := w23; rw [u1, u2]; clear u1 u2
                exact gx_iret C hr hlk rfl (fin_try hC ((hF20).tr hF21) (by simp only [opAhead, aheadV, bey, sta, ck, show nI 0 = (0 : Int32) from rfl] <;> grind)) dX3_ahead_111
              | 1, _, ej22 =>
                have ex22 : w = (1 : Int32) := ej22.trans (by decide)
                refine gx_tabIn (off := 37) (tgt := 112) C dX3_ahead_75 (by rw [ex22]; decide) (by rw [ex22]; decide) (by rw [ex22]; decide) (by decide) ?_
                refine gx_iload_n C dX3_ahead_112 (by rfl) (by rfl) ?_
                exact gx_iret C hr hlk rfl (fin_try hC ((hF20).tr hF21) (by simp only [opAhead, aheadV, bey, sta, ck, show nI 0 = (0 : Int32) from rfl] <;> grind)) dX3_ahead_113
              | 2, _, ej22 =>
                have ex22 : w = (2 : Int32) := ej22.trans (by decide)
                refine gx_tabIn (off := 39) (tgt := 114) C dX3_ahead_75 (by rw [ex22]; decide) (by rw [ex22]; decide) (by rw [ex22]; decide) (by decide) ?_
                refine gx_aload_n C dX3_ahead_114 (by rfl) (by rfl) ?_
                refine gx_getr (j := 37) (k := 3) C ck3 (by rfl) (by rfl) (by decide) fl_X3_19 dX3_ahead_115 ?_
                refine gx_aload_n C dX3_ahead_118 (by rfl) (by rfl) ?_
                refine gx_getr (j := 37) (k := 3) C ck3 (by rfl) (by rfl) (by decide) fl_X3_19 dX3_ahead_119 ?_
                refine gx_callVI (As := []) (rest := [.ref (eA E 37)]) C (k_X0_all E σ21 37 isE_37 (mos k K) hK21 ((mos_keep hO k).1)) z_X0_all ck0 (by rfl) (by rfl) ml_X3_176 (by rfl) (Nat.le_of_ble_eq_true rfl) ⟨Nat.le_of_ble_eq_true rfl, Nat.le_of_ble_eq_true rfl⟩ dX3_ahead_122 (fun r24 σ24 w24 => ?_)
                obtain ⟨u1, u2⟩ := w24; rw [u1, u2]; clear u1 u2
                refine gx_callVI (As := [.int (bset (nn (mos k K)) (fun _ => true))]) (rest := []) C (c_X0_goldOf E σ21 37 isE_37 (mos k K) hK21 ((mos_keep hO k).1) (fun _ => true)) z_X0_goldOf ck0 (by rfl) (by rfl) ml_X3_72 (by rfl) (Nat.le_of_ble_eq_true rfl) ⟨Nat.le_of_ble_eq_true rfl, Nat.le_of_ble_eq_true rfl⟩ dX3_ahead_125 (fun r25 σ25 w25 => ?_)
                obtain ⟨u1, u2⟩ := w25; rw [u1, u2]; clear u1 u2
                exact gx_iret C hr hlk rfl (fin_try hC ((hF20).tr hF21) (by simp only [opAhead, aheadV, bey, sta, ck, show nI 0 = (0 : Int32) from rfl] <;> grind)) dX3_ahead_128
              | 3, _, ej22 =>
                have ex22 : w = (3 : Int32) := ej22.trans (by decide)
                refine gx_tabIn (off := 54) (tgt := 129) C dX3_ahead_75 (by rw [ex22]; decide) (by rw [ex22]; decide) (by rw [ex22]; decide) (by decide) ?_
                refine gx_aload_n C dX3_ahead_129 (by rfl) (by rfl) ?_
                refine gx_getr (j := 37) (k := 3) C ck3 (by rfl) (by rfl) (by decide) fl_X3_19 dX3_ahead_130 ?_
                refine gx_getr (j := 46) (k := 8) C ck0 (by rfl) (by rfl) (by decide) fl_X3_60 dX3_ahead_133 ?_
                refine gx_iconst (v := 0) C dX3_ahead_136 (by decide) ?_
                refine gx_ialdN (k := 0) C (by rfl) (by rfl) (by decide) (by decide) dX3_ahead_137 ?_
                refine gx_st (st' := [.int (bset (nn (mos k K)) (inP (mos k K) (nI 0)))]) (by rw [hK21.in (r := 0) (by omega)]) ?_
                exact gx_iret C hr hlk rfl (fin_try hC ((hF20).tr hF21) (by simp only [opAhead, aheadV, bey, sta, ck, show nI 0 = (0 : Int32) from rfl] <;> grind)) dX3_ahead_138
              | j + 4, hj, _ => exact absurd hj (by omega)
          ·
            have h19 := b2_nz.mp h19
            refine gx_aload_n C dX3_ahead_47 (by rfl) (by rfl) ?_
            refine gx_ldc C kc_X3_56 dX3_ahead_48 ?_
            refine gx_callVI (As := [.int (-1000005)]) (rest := []) C (c_X3_found E σ (-1000005) 4 (by decide) (by decide)) z_X3_found ck3 (by rfl) (by rfl) ml_X3_49 (by rfl) (Nat.le_of_ble_eq_true rfl) ⟨Nat.le_of_ble_eq_true rfl, Nat.le_of_ble_eq_true rfl⟩ dX3_ahead_50 (fun r26 σ26 w26 => ?_)
            obtain ⟨u1, u2⟩ := w26; rw [u1, u2]; clear u1 u2
            exact gx_iret C hr hlk rfl (fin_fd hC (by decide) (by simp only [opAhead, bey, ful, knd, non, sta, mis, siz] <;> grind)) dX3_ahead_53
        ·
          have h17 := b2_z.mp h17
          refine gx_aload_n C dX3_ahead_32 (by rfl) (by rfl) ?_
          refine gx_ldc C kc_X3_48 dX3_ahead_33 ?_
          refine gx_callVI (As := [.int (-1000001)]) (rest := []) C (c_X3_found E σ (-1000001) 0 (by decide) (by decide)) z_X3_found ck3 (by rfl) (by rfl) ml_X3_49 (by rfl) (Nat.le_of_ble_eq_true rfl) ⟨Nat.le_of_ble_eq_true rfl, Nat.le_of_ble_eq_true rfl⟩ dX3_ahead_35 (fun r27 σ27 w27 => ?_)
          obtain ⟨u1, u2⟩ := w27; rw [u1, u2]; clear u1 u2
          exact gx_iret C hr hlk rfl (fin_fd hC (by decide) (by simp only [opAhead, bey, ful, knd, non, sta, mis, siz] <;> grind)) dX3_ahead_38
set_option maxHeartbeats 4000000 in
set_option maxRecDepth 100000 in
theorem c_X3_sits (E : En) (σ : Mm) (K L : Mm) (g : Int32) (F : Nat → Int32) (tl : Int32) (Bt W Z : Nat → Int32) (N : Mm) (hC : CR σ (K, L, g, F, tl, Bt, W, Z, N)) (q : Int32) : CtI E yX3_sits cX3_sits 3 (some .int) 5 114 [.ref (eA E 0), .int q] σ (fun rr σ2 => rr = (opSits (K, L, g, F, tl, Bt, W, Z, N) q).1 ∧ CR σ2 (opSits (K, L, g, F, tl, Bt, W, Z, N) q).2 ∧ FC σ σ2) := by
  obtain ⟨⟨hK, hO⟩, ⟨hg1, hg2, hg3⟩, hFd, ⟨⟨htl, htl2⟩, hBt⟩, hSh⟩ := id hC
  obtain ⟨⟨hn, h12⟩, hpp, hlw, hsp, hz0⟩ := id hO
  refine CtI.of (by decide +kernel) (Nat.le_of_ble_eq_true rfl) (fun p e0 s m below meth c C hr hlk => ?_)
  refine gx_lv (lv' := [(0, .ref (eA E 0)), (1, .int q)]) rfl ?_
  refine gx_aload_n C dX3_sits_0 (by rfl) (by rfl) ?_
  refine gx_getr (j := 13) (k := 0) C ck3 (by rfl) (by rfl) (by decide) fl_X3_10 dX3_sits_1 ?_
  refine gx_iload_n C dX3_sits_4 (by rfl) (by rfl) ?_
  refine gx_callVI (As := [.int q]) (rest := []) C (k_X0_has E σ 13 isE_13 K hK hO q) z_X0_has ck0 (by rfl) (by rfl) ml_X3_99 (by rfl) (Nat.le_of_ble_eq_true rfl) ⟨Nat.le_of_ble_eq_true rfl, Nat.le_of_ble_eq_true rfl⟩ dX3_sits_5 (fun r1 σ1 w1 => ?_)
  obtain ⟨u1, u2⟩ := w1; rw [u1, u2]; clear u1 u2
  refine gx_if_ne (tgt := 18) C dX3_sits_8 (by decide) (fun h2 => ?_) (fun h2 => ?_)
  ·
    have h2 := b2_nz.mp h2
    obtain ⟨k, hk, rfl⟩ := has_nat hO h2
    have ck : (nI k).toNatClampNeg = k := nI_clamp (by omega)
    refine gx_aload_n C dX3_sits_18 (by rfl) (by rfl) ?_
    refine gx_getr (j := 13) (k := 0) C ck3 (by rfl) (by rfl) (by decide) fl_X3_10 dX3_sits_19 ?_
    refine gx_getr (j := 15) (k := 1) C ck0 (by rfl) (by rfl) (by decide) fl_X3_105 dX3_sits_22 ?_
    refine gx_iload_n C dX3_sits_25 (by rfl) (by rfl) ?_
    refine gx_ialdN (k := k) C (by rfl) rfl (by omega) (by decide) dX3_sits_26 ?_
    refine gx_st (st' := [.int (K 2 k)]) (by rw [hK.r2 (p := k) (by omega)]) ?_
    refine gx_iconst (v := (-1)) C dX3_sits_27 (by decide) ?_
    refine gx_icmp_eq (tgt := 40) C dX3_sits_28 (by decide) (fun h3 => ?_) (fun h3 => ?_)
    ·
      refine gx_aload_n C dX3_sits_40 (by rfl) (by rfl) ?_
      refine gx_ldc C kc_X3_56 dX3_sits_41 ?_
      refine gx_callVI (As := [.int (-1000005)]) (rest := []) C (c_X3_found E σ (-1000005) 4 (by decide) (by decide)) z_X3_found ck3 (by rfl) (by rfl) ml_X3_49 (by rfl) (Nat.le_of_ble_eq_true rfl) ⟨Nat.le_of_ble_eq_true rfl, Nat.le_of_ble_eq_true rfl⟩ dX3_sits_43 (fun r4 σ4 w4 => ?_)
      obtain ⟨u1, u2⟩ := w4; rw [u1, u2]; clear u1 u2
      exact gx_iret C hr hlk rfl (fin_fd hC (by decide) (by simp only [opSits, bey, ful, knd, non, sta, mis, siz] <;> grind)) dX3_sits_46
    ·
      refine gx_aload_n C dX3_sits_31 (by rfl) (by rfl) ?_
      refine gx_bipush (v := 120) C dX3_sits_32 (by decide) ?_
      refine gx_callVI (As := [.int 120]) (rest := []) C (c_X3_isTooLate E σ K hK 120) z_X3_isTooLate ck3 (by rfl) (by rfl) ml_X3_163 (by rfl) (Nat.le_of_ble_eq_true rfl) ⟨Nat.le_of_ble_eq_true rfl, Nat.le_of_ble_eq_true rfl⟩ dX3_sits_34 (fun r5 σ5 w5 => ?_)
      obtain ⟨u1, u2⟩ := w5; rw [u1, u2]; clear u1 u2
      refine gx_if_eq (tgt := 47) C dX3_sits_37 (by decide) (fun h6 => ?_) (fun h6 => ?_)
      ·
        have h6 := b2_z.mp h6
        refine gx_aload_n C dX3_sits_47 (by rfl) (by rfl) ?_
        refine gx_getr (j := 37) (k := 3) C ck3 (by rfl) (by rfl) (by decide) fl_X3_19 dX3_sits_48 ?_
        refine gx_aload_n C dX3_sits_51 (by rfl) (by rfl) ?_
        refine gx_getr (j := 13) (k := 0) C ck3 (by rfl) (by rfl) (by decide) fl_X3_10 dX3_sits_52 ?_
        refine gx_callVV (As := [.ref (eA E 13)]) (rest := []) C (c_X0_becomeLike E σ 37 isE_37 13 isE_13 (by decide) K hK) z_X0_becomeLike ck0 (by rfl) (by rfl) ml_X3_169 (by rfl) (Nat.le_of_ble_eq_true rfl) ⟨Nat.le_of_ble_eq_true rfl, Nat.le_of_ble_eq_true rfl⟩ dX3_sits_55 (fun σ7 w7 => ?_)
        obtain ⟨hK7, hF7⟩ := w7
        have hK7_13 := Emp.fr (e := 13) (e2 := 37) hK hF7 (by decide)
        refine gx_iconst (v := 1) C dX3_sits_58 (by decide) ?_
        refine gx_istore_n (lv2 := [(2, .int 1), (0, .ref (eA E 0)), (1, .int (nI k))]) C dX3_sits_59 (by rfl) (by decide) rfl ?_
        have loop60 : ∀ (kf i : Nat), i ≤ 120 → 120 < i + kf → ∀ τ : Mm, (Emp τ 37 (mos i K)) → (Fr 37 σ τ) → (∀ b, 1 ≤ b → b < i + 1 → decide (mos b K 2 k = -1) = false) → Gx E p e0 (rmF 5 114) s m ([.ref (eA E 0), .int (nI k)] : List Value).toArray below meth c (MQ below (va_Qi (fun rr σ2 => rr = (opSits (K, L, g, F, tl, Bt, W, Z, N) (nI k)).1 ∧ CR σ2 (opSits (K, L, g, F, tl, Bt, W, Z, N) (nI k)).2 ∧ FC σ σ2) (WQ E) (AA E s.heap.size)) ([.ref (eA E 0), .int (nI k)] : List Value).toArray s 0 0 (AA E s.heap.size)) 3 60 [(0, .ref (eA E 0)), (1, .int (nI k)), (2, .int (nI (i + 1)))] [] τ := by
          intro kf
          induction kf with
          | zero => intro i q1 q2; exact absurd q2 (by omega)
          | succ kf ih60 =>
            intro i a60 b60 τ hKt hFt hno
            refine gx_iload_n C dX3_sits_60 (by rfl) (by rfl) ?_
            refine gx_bipush (v := 120) C dX3_sits_61 (by decide) ?_
            refine gx_icmp_gt (tgt := 94) C dX3_sits_63 (by decide) (fun h8 => ?_) (fun h8 => ?_)
            ·
              have h8 := (nI_ltI (a := 120) (b := (i + 1)) (by omega) (by omega)).mp h8
              refine gx_aload_n C dX3_sits_94 (by rfl) (by rfl) ?_
              refine gx_ldc C kc_X3_156 dX3_sits_95 ?_
              refine gx_callVI (As := [.int (-1000004)]) (rest := []) C (c_X3_found E τ (-1000004) 3 (by decide) (by decide)) z_X3_found ck3 (by rfl) (by rfl) ml_X3_49 (by rfl) (Nat.le_of_ble_eq_true rfl) ⟨Nat.le_of_ble_eq_true rfl, Nat.le_of_ble_eq_true rfl⟩ dX3_sits_97 (fun r9 σ9 w9 => ?_)
              obtain ⟨u1, u2⟩ := w9; rw [u1, u2]; clear u1 u2
              exact gx_iret C hr hlk rfl (fin_tfd hC hFt (by decide) (by have q1 : sitV K k = -1 := frst_no 120 1 (fun b x1 x2 => hno b x1 (by omega)); simp only [opSits, ck, q1, non, bey, sta] <;> grind)) dX3_sits_100
            ·
              have h8 := (not_congr (nI_ltI (a := 120) (b := (i + 1)) (by omega) (by omega))).mp h8
              refine gx_aload_n C dX3_sits_66 (by rfl) (by rfl) ?_
              refine gx_getr (j := 37) (k := 3) C ck3 (by rfl) (by rfl) (by decide) fl_X3_19 dX3_sits_67 ?_
              refine gx_callVV (As := []) (rest := []) C (c_X0_goMonth E τ 37 isE_37 (mos i K) hKt ((mos_keep hO i).1)) z_X0_goMonth ck0 (by rfl) (by rfl) ml_X3_179 (by rfl) (Nat.le_of_ble_eq_true rfl) ⟨Nat.le_of_ble_eq_true rfl, Nat.le_of_ble_eq_true rfl⟩ dX3_sits_70 (fun σ10 w10 => ?_)
              obtain ⟨hK10, hF10⟩ := w10
              obtain ⟨X10, eX10⟩ : ∃ X, X = mo (mos i K) := ⟨_, rfl⟩
              rw [← eX10] at hK10
              have hO10 : Ok X10 := by rw [eX10]; exact (mo_keep ((mos_keep hO i).1)).1
              have h1210 := hO10.1.2
              refine gx_aload_n C dX3_sits_73 (by rfl) (by rfl) ?_
              refine gx_getr (j := 37) (k := 3) C ck3 (by rfl) (by rfl) (by decide) fl_X3_19 dX3_sits_74 ?_
              refine gx_getr (j := 39) (k := 1) C ck0 (by rfl) (by rfl) (by decide) fl_X3_105 dX3_sits_77 ?_
              refine gx_iload_n C dX3_sits_80 (by rfl) (by rfl) ?_
              refine gx_ialdN (k := k) C (by rfl) rfl (by omega) (by decide) dX3_sits_81 ?_
              refine gx_st (st' := [.int (X10 2 k)]) (by rw [hK10.r2 (p := k) (by omega)]) ?_
              refine gx_iconst (v := (-1)) C dX3_sits_82 (by decide) ?_
              refine gx_icmp_ne (tgt := 88) C dX3_sits_83 (by decide) (fun h11 => ?_) (fun h11 => ?_)
              ·
                refine gx_iinc (v := nI (i + 1 + 1)) (lv2 := [(2, .int (nI (i + 1 + 1))), (0, .ref (eA E 0)), (1, .int (nI k))]) C dX3_sits_88 (by rfl) (by exact nI_p1 _) (by decide) rfl ?_
                refine gx_goto (tgt := 60) C dX3_sits_91 (by decide) ?_
                refine gx_sub [1, 2, 0] (lv' := [(0, .ref (eA E 0)), (1, .int (nI k)), (2, .int (nI (i + 1 + 1)))]) rfl ?_
                exact ih60 (i + 1) (by omega) (by omega) σ10 (by rw [mos, ← eX10]; exact hK10) ((hFt).tr hF10) (fun b x1 x2 => (Nat.lt_or_ge b (i + 1)).elim (fun x3 => hno b x1 x3) (fun x3 => by rw [show b = i + 1 by omega, mos, ← eX10]; exact decide_eq_false (by assumption)))
              ·
                refine gx_iload_n C dX3_sits_86 (by rfl) (by rfl) ?_
                exact gx_iret C hr hlk rfl (fin_try hC ((hFt).tr hF10) (by have q1 : sitV K k = nI (i + 1) := frst_at (j := i + 1) (by rw [mos, ← eX10]; exact decide_eq_true (by assumption)) 120 1 (by omega) (by omega) hno; have q2 : ¬ nI (i + 1) = -1 := nI_m1 (by omega); simp only [opSits, ck, q1, non, bey, sta] <;> grind)) dX3_sits_87
        refine gx_sub [1, 2, 0] (lv' := [(0, .ref (eA E 0)), (1, .int (nI k)), (2, .int 1)]) rfl ?_
        refine gx_lv (lv' := [(0, .ref (eA E 0)), (1, .int (nI k)), (2, .int (nI (0 + 1)))]) (by rfl) ?_
        exact loop60 (120 + 1) 0 (by omega) (by omega) σ7 hK7 hF7 (fun b h1 h2 => absurd h2 (by omega))
      ·
        have h6 := b2_nz.mp h6
        refine gx_aload_n C dX3_sits_40 (by rfl) (by rfl) ?_
        refine gx_ldc C kc_X3_56 dX3_sits_41 ?_
        refine gx_callVI (As := [.int (-1000005)]) (rest := []) C (c_X3_found E σ (-1000005) 4 (by decide) (by decide)) z_X3_found ck3 (by rfl) (by rfl) ml_X3_49 (by rfl) (Nat.le_of_ble_eq_true rfl) ⟨Nat.le_of_ble_eq_true rfl, Nat.le_of_ble_eq_true rfl⟩ dX3_sits_43 (fun r12 σ12 w12 => ?_)
        obtain ⟨u1, u2⟩ := w12; rw [u1, u2]; clear u1 u2
        exact gx_iret C hr hlk rfl (fin_fd hC (by decide) (by simp only [opSits, bey, ful, knd, non, sta, mis, siz] <;> grind)) dX3_sits_46
  ·
    have h2 := b2_z.mp h2
    refine gx_aload_n C dX3_sits_11 (by rfl) (by rfl) ?_
    refine gx_ldc C kc_X3_48 dX3_sits_12 ?_
    refine gx_callVI (As := [.int (-1000001)]) (rest := []) C (c_X3_found E σ (-1000001) 0 (by decide) (by decide)) z_X3_found ck3 (by rfl) (by rfl) ml_X3_49 (by rfl) (Nat.le_of_ble_eq_true rfl) ⟨Nat.le_of_ble_eq_true rfl, Nat.le_of_ble_eq_true rfl⟩ dX3_sits_14 (fun r13 σ13 w13 => ?_)
    obtain ⟨u1, u2⟩ := w13; rw [u1, u2]; clear u1 u2
    exact gx_iret C hr hlk rfl (fin_fd hC (by decide) (by simp only [opSits, bey, ful, knd, non, sta, mis, siz] <;> grind)) dX3_sits_17
set_option maxHeartbeats 4000000 in
set_option maxRecDepth 100000 in
theorem c_X3_rises (E : En) (σ : Mm) (K L : Mm) (g : Int32) (F : Nat → Int32) (tl : Int32) (Bt W Z : Nat → Int32) (N : Mm) (hC : CR σ (K, L, g, F, tl, Bt, W, Z, N)) (q n : Int32) : CtI E yX3_rises cX3_rises 5 (some .int) 5 114 [.ref (eA E 0), .int q, .int n] σ (fun rr σ2 => rr = (opRises (K, L, g, F, tl, Bt, W, Z, N) q n).1 ∧ CR σ2 (opRises (K, L, g, F, tl, Bt, W, Z, N) q n).2 ∧ FC σ σ2) := by
  obtain ⟨⟨hK, hO⟩, ⟨hg1, hg2, hg3⟩, hFd, ⟨⟨htl, htl2⟩, hBt⟩, hSh⟩ := id hC
  obtain ⟨⟨hn, h12⟩, hpp, hlw, hsp, hz0⟩ := id hO
  refine CtI.of (by decide +kernel) (Nat.le_of_ble_eq_true rfl) (fun p e0 s m below meth c C hr hlk => ?_)
  refine gx_lv (lv' := [(0, .ref (eA E 0)), (1, .int q), (2, .int n)]) rfl ?_
  refine gx_aload_n C dX3_rises_0 (by rfl) (by rfl) ?_
  refine gx_getr (j := 13) (k := 0) C ck3 (by rfl) (by rfl) (by decide) fl_X3_10 dX3_rises_1 ?_
  refine gx_iload_n C dX3_rises_4 (by rfl) (by rfl) ?_
  refine gx_callVI (As := [.int q]) (rest := []) C (k_X0_has E σ 13 isE_13 K hK hO q) z_X0_has ck0 (by rfl) (by rfl) ml_X3_99 (by rfl) (Nat.le_of_ble_eq_true rfl) ⟨Nat.le_of_ble_eq_true rfl, Nat.le_of_ble_eq_true rfl⟩ dX3_rises_5 (fun r1 σ1 w1 => ?_)
  obtain ⟨u1, u2⟩ := w1; rw [u1, u2]; clear u1 u2
  refine gx_if_eq (tgt := 21) C dX3_rises_8 (by decide) (fun h2 => ?_) (fun h2 => ?_)
  ·
    have h2 := b2_z.mp h2
    refine gx_aload_n C dX3_rises_21 (by rfl) (by rfl) ?_
    refine gx_ldc C kc_X3_48 dX3_rises_22 ?_
    refine gx_callVI (As := [.int (-1000001)]) (rest := []) C (c_X3_found E σ (-1000001) 0 (by decide) (by decide)) z_X3_found ck3 (by rfl) (by rfl) ml_X3_49 (by rfl) (Nat.le_of_ble_eq_true rfl) ⟨Nat.le_of_ble_eq_true rfl, Nat.le_of_ble_eq_true rfl⟩ dX3_rises_24 (fun r3 σ3 w3 => ?_)
    obtain ⟨u1, u2⟩ := w3; rw [u1, u2]; clear u1 u2
    exact gx_iret C hr hlk rfl (fin_fd hC (by decide) (by simp only [opRises, bey, ful, knd, non, sta, mis, siz] <;> grind)) dX3_rises_27
  ·
    have h2 := b2_nz.mp h2
    obtain ⟨k, hk, rfl⟩ := has_nat hO h2
    have ck : (nI k).toNatClampNeg = k := nI_clamp (by omega)
    refine gx_iload_n C dX3_rises_11 (by rfl) (by rfl) ?_
    refine gx_iconst (v := 0) C dX3_rises_12 (by decide) ?_
    refine gx_bipush (v := 120) C dX3_rises_13 (by decide) ?_
    refine gx_callSI (As := [.int n, .int 0, .int 120]) (rest := []) C (c_X3_isWithin E σ n 0 120) z_X3_isWithin (by rfl) ml_X3_44 (by rfl) (Nat.le_of_ble_eq_true rfl) ⟨Nat.le_of_ble_eq_true rfl, Nat.le_of_ble_eq_true rfl⟩ dX3_rises_15 (fun r4 σ4 w4 => ?_)
    obtain ⟨u1, u2⟩ := w4; rw [u1, u2]; clear u1 u2
    refine gx_if_ne (tgt := 28) C dX3_rises_18 (by decide) (fun h5 => ?_) (fun h5 => ?_)
    ·
      have h5 := b2_nz.mp h5
      obtain ⟨t, ht, rfl⟩ := i_nat (M := 120) (n := 120) (by decide) h5
      have ct : (nI t).toNatClampNeg = t := nI_clamp (by omega)
      refine gx_aload_n C dX3_rises_28 (by rfl) (by rfl) ?_
      refine gx_iload_n C dX3_rises_29 (by rfl) (by rfl) ?_
      refine gx_callVI (As := [.int (nI t)]) (rest := []) C (c_X3_isTooLate E σ K hK (nI t)) z_X3_isTooLate ck3 (by rfl) (by rfl) ml_X3_163 (by rfl) (Nat.le_of_ble_eq_true rfl) ⟨Nat.le_of_ble_eq_true rfl, Nat.le_of_ble_eq_true rfl⟩ dX3_rises_30 (fun r6 σ6 w6 => ?_)
      obtain ⟨u1, u2⟩ := w6; rw [u1, u2]; clear u1 u2
      refine gx_if_eq (tgt := 43) C dX3_rises_33 (by decide) (fun h7 => ?_) (fun h7 => ?_)
      ·
        have h7 := b2_z.mp h7
        refine gx_aload_n C dX3_rises_43 (by rfl) (by rfl) ?_
        refine gx_getr (j := 37) (k := 3) C ck3 (by rfl) (by rfl) (by decide) fl_X3_19 dX3_rises_44 ?_
        refine gx_aload_n C dX3_rises_47 (by rfl) (by rfl) ?_
        refine gx_getr (j := 13) (k := 0) C ck3 (by rfl) (by rfl) (by decide) fl_X3_10 dX3_rises_48 ?_
        refine gx_callVV (As := [.ref (eA E 13)]) (rest := []) C (c_X0_becomeLike E σ 37 isE_37 13 isE_13 (by decide) K hK) z_X0_becomeLike ck0 (by rfl) (by rfl) ml_X3_169 (by rfl) (Nat.le_of_ble_eq_true rfl) ⟨Nat.le_of_ble_eq_true rfl, Nat.le_of_ble_eq_true rfl⟩ dX3_rises_51 (fun σ8 w8 => ?_)
        obtain ⟨hK8, hF8⟩ := w8
        have hK8_13 := Emp.fr (e := 13) (e2 := 37) hK hF8 (by decide)
        refine gx_aload_n C dX3_rises_54 (by rfl) (by rfl) ?_
        refine gx_getr (j := 37) (k := 3) C ck3 (by rfl) (by rfl) (by decide) fl_X3_19 dX3_rises_55 ?_
        refine gx_iload_n C dX3_rises_58 (by rfl) (by rfl) ?_
        refine gx_callVI (As := [.int (nI k)]) (rest := []) C (k_X0_standingOf E σ8 37 isE_37 K hK8 hO k (by omega)) z_X0_standingOf ck0 (by rfl) (by rfl) ml_X3_182 (by rfl) (Nat.le_of_ble_eq_true rfl) ⟨Nat.le_of_ble_eq_true rfl, Nat.le_of_ble_eq_true rfl⟩ dX3_rises_59 (fun r9 σ9 w9 => ?_)
        obtain ⟨u1, u2⟩ := w9; rw [u1, u2]; clear u1 u2
        refine gx_istore_n (lv2 := [(3, .int (if K 2 k = -1 then 8 else K 2 k)), (0, .ref (eA E 0)), (1, .int (nI k)), (2, .int (nI t))]) C dX3_rises_62 (by rfl) (by decide) rfl ?_
        refine gx_iconst (v := 1) C dX3_rises_63 (by decide) ?_
        refine gx_istore (lv2 := [(4, .int 1), (3, .int (if K 2 k = -1 then 8 else K 2 k)), (0, .ref (eA E 0)), (1, .int (nI k)), (2, .int (nI t))]) C dX3_rises_64 (by decide) rfl ?_
        have loop66 : ∀ (kf i : Nat), i ≤ t → t < i + kf → ∀ τ : Mm, (Emp τ 37 (mos i K)) → (Fr 37 σ τ) → Gx E p e0 (rmF 5 114) s m ([.ref (eA E 0), .int (nI k), .int (nI t)] : List Value).toArray below meth c (MQ below (va_Qi (fun rr σ2 => rr = (opRises (K, L, g, F, tl, Bt, W, Z, N) (nI k) (nI t)).1 ∧ CR σ2 (opRises (K, L, g, F, tl, Bt, W, Z, N) (nI k) (nI t)).2 ∧ FC σ σ2) (WQ E) (AA E s.heap.size)) ([.ref (eA E 0), .int (nI k), .int (nI t)] : List Value).toArray s 0 0 (AA E s.heap.size)) 5 66 [(0, .ref (eA E 0)), (1, .int (nI k)), (2, .int (nI t)), (3, .int (risV K k i)), (4, .int (nI (i + 1)))] [] τ := by
          intro kf
          induction kf with
          | zero => intro i q1 q2; exact absurd q2 (by omega)
          | succ kf ih66 =>
            intro i a66 b66 τ hKt hFt
            refine gx_iload C dX3_rises_66 (by rfl) ?_
            refine gx_iload_n C dX3_rises_68 (by rfl) (by rfl) ?_
            refine gx_icmp_gt (tgt := 98) C dX3_rises_69 (by decide) (fun h10 => ?_) (fun h10 => ?_)
            ·
              have h10 := (nI_ltI (a := t) (b := (i + 1)) (by omega) (by omega)).mp h10
              refine gx_iload_n C dX3_rises_98 (by rfl) (by rfl) ?_
              refine gx_bipush (v := 8) C dX3_rises_99 (by decide) ?_
              refine gx_icmp_ne (tgt := 113) C dX3_rises_101 (by decide) (fun h11 => ?_) (fun h11 => ?_)
              ·
                refine gx_iload_n C dX3_rises_113 (by rfl) (by rfl) ?_
                exact gx_iret C hr hlk rfl (fin_try hC hFt (by have q1 : i = t := (by omega); subst q1; simp only [opRises, ck, ct, non, bey, sta] <;> grind)) dX3_rises_114
              ·
                refine gx_aload_n C dX3_rises_104 (by rfl) (by rfl) ?_
                refine gx_ldc C kc_X3_156 dX3_rises_105 ?_
                refine gx_callVI (As := [.int (-1000004)]) (rest := []) C (c_X3_found E τ (-1000004) 3 (by decide) (by decide)) z_X3_found ck3 (by rfl) (by rfl) ml_X3_49 (by rfl) (Nat.le_of_ble_eq_true rfl) ⟨Nat.le_of_ble_eq_true rfl, Nat.le_of_ble_eq_true rfl⟩ dX3_rises_107 (fun r12 σ12 w12 => ?_)
                obtain ⟨u1, u2⟩ := w12; rw [u1, u2]; clear u1 u2
                refine gx_goto (tgt := 114) C dX3_rises_110 (by decide) ?_
                exact gx_iret C hr hlk rfl (fin_tfd hC hFt (by decide) (by have q1 : i = t := (by omega); subst q1; simp only [opRises, ck, ct, non, bey, sta] <;> grind)) dX3_rises_114
            ·
              have h10 := (not_congr (nI_ltI (a := t) (b := (i + 1)) (by omega) (by omega))).mp h10
              refine gx_aload_n C dX3_rises_72 (by rfl) (by rfl) ?_
              refine gx_getr (j := 37) (k := 3) C ck3 (by rfl) (by rfl) (by decide) fl_X3_19 dX3_rises_73 ?_
              refine gx_callVV (As := []) (rest := []) C (c_X0_goMonth E τ 37 isE_37 (mos i K) hKt ((mos_keep hO i).1)) z_X0_goMonth ck0 (by rfl) (by rfl) ml_X3_179 (by rfl) (Nat.le_of_ble_eq_true rfl) ⟨Nat.le_of_ble_eq_true rfl, Nat.le_of_ble_eq_true rfl⟩ dX3_rises_76 (fun σ13 w13 => ?_)
              obtain ⟨hK13, hF13⟩ := w13
              obtain ⟨X13, eX13⟩ : ∃ X, X = mo (mos i K) := ⟨_, rfl⟩
              rw [← eX13] at hK13
              have hO13 : Ok X13 := by rw [eX13]; exact (mo_keep ((mos_keep hO i).1)).1
              have h1213 := hO13.1.2
              refine gx_iload_n C dX3_rises_79 (by rfl) (by rfl) ?_
              refine gx_aload_n C dX3_rises_80 (by rfl) (by rfl) ?_
              refine gx_getr (j := 37) (k := 3) C ck3 (by rfl) (by rfl) (by decide) fl_X3_19 dX3_rises_81 ?_
              refine gx_iload_n C dX3_rises_84 (by rfl) (by rfl) ?_
              refine gx_callVI (As := [.int (nI k)]) (rest := [.int (risV K k i)]) C (k_X0_standingOf E σ13 37 isE_37 X13 hK13 hO13 k (by omega)) z_X0_standingOf ck0 (by rfl) (by rfl) ml_X3_182 (by rfl) (Nat.le_of_ble_eq_true rfl) ⟨Nat.le_of_ble_eq_true rfl, Nat.le_of_ble_eq_true rfl⟩ dX3_rises_85 (fun r14 σ14 w14 => ?_)
              obtain ⟨u1, u2⟩ := w14; rw [u1, u2]; clear u1 u2
              refine gx_min C ml_X3_185 (Nat.le_of_ble_eq_true rfl) (Nat.le_of_ble_eq_true rfl) dX3_rises_88 ?_
              refine gx_istore_n (lv2 := [(3, .int (if (if X13 2 k = -1 then 8 else X13 2 k) < (risV K k i) then (if X13 2 k = -1 then 8 else X13 2 k) else (risV K k i))), (0, .ref (eA E 0)), (1, .int (nI k)), (2, .int (nI t)), (4, .int (nI (i + 1)))]) C dX3_rises_91 (by rfl) (by decide) rfl ?_
              refine gx_iinc (v := nI (i + 1 + 1)) (lv2 := [(4, .int (nI (i + 1 + 1))), (3, .int (if (if X13 2 k = -1 then 8 else X13 2 k) < (risV K k i) then (if X13 2 k = -1 then 8 else X13 2 k) else (risV K k i))), (0, .ref (eA E 0)), (1, .int (nI k)), (2, .int (nI t))]) C dX3_rises_92 (by rfl) (by exact nI_p1 _) (by decide) rfl ?_
              refine gx_goto (tgt := 66) C dX3_rises_95 (by decide) ?_
              refine gx_sub [2, 3, 4, 1, 0] (lv' := [(0, .ref (eA E 0)), (1, .int (nI k)), (2, .int (nI t)), (3, .int (if (if X13 2 k = -1 then 8 else X13 2 k) < (risV K k i) then (if X13 2 k = -1 then 8 else X13 2 k) else (risV K k i))), (4, .int (nI (i + 1 + 1)))]) rfl ?_
              refine gx_lv (lv' := [(0, .ref (eA E 0)), (1, .int (nI k)), (2, .int (nI t)), (3, .int (risV K k (i + 1))), (4, .int (nI ((i + 1) + 1)))]) (by rw [risV, sd, mos, ← eX13]) ?_
              exact ih66 (i + 1) (by omega) (by omega) σ13 (by rw [mos, ← eX13]; exact hK13) ((hFt).tr hF13)
        refine gx_sub [2, 3, 4, 1, 0] (lv' := [(0, .ref (eA E 0)), (1, .int (nI k)), (2, .int (nI t)), (3, .int (if K 2 k = -1 then 8 else K 2 k)), (4, .int 1)]) rfl ?_
        refine gx_lv (lv' := [(0, .ref (eA E 0)), (1, .int (nI k)), (2, .int (nI t)), (3, .int (risV K k 0)), (4, .int (nI (0 + 1)))]) (by rfl) ?_
        exact loop66 (t + 1) 0 (by omega) (by omega) σ8 hK8 hF8
      ·
        have h7 := b2_nz.mp h7
        refine gx_aload_n C dX3_rises_36 (by rfl) (by rfl) ?_
        refine gx_ldc C kc_X3_56 dX3_rises_37 ?_
        refine gx_callVI (As := [.int (-1000005)]) (rest := []) C (c_X3_found E σ (-1000005) 4 (by decide) (by decide)) z_X3_found ck3 (by rfl) (by rfl) ml_X3_49 (by rfl) (Nat.le_of_ble_eq_true rfl) ⟨Nat.le_of_ble_eq_true rfl, Nat.le_of_ble_eq_true rfl⟩ dX3_rises_39 (fun r15 σ15 w15 => ?_)
        obtain ⟨u1, u2⟩ := w15; rw [u1, u2]; clear u1 u2
        exact gx_iret C hr hlk rfl (fin_fd hC (by decide) (by simp only [opRises, bey, ful, knd, non, sta, mis, siz] <;> grind)) dX3_rises_42
    ·
      have h5 := b2_z.mp h5
      refine gx_aload_n C dX3_rises_21 (by rfl) (by rfl) ?_
      refine gx_ldc C kc_X3_48 dX3_rises_22 ?_
      refine gx_callVI (As := [.int (-1000001)]) (rest := []) C (c_X3_found E σ (-1000001) 0 (by decide) (by decide)) z_X3_found ck3 (by rfl) (by rfl) ml_X3_49 (by rfl) (Nat.le_of_ble_eq_true rfl) ⟨Nat.le_of_ble_eq_true rfl, Nat.le_of_ble_eq_true rfl⟩ dX3_rises_24 (fun r16 σ16 w16 => ?_)
      obtain ⟨u1, u2⟩ := w16; rw [u1, u2]; clear u1 u2
      exact gx_iret C hr hlk rfl (fin_fd hC (by decide) (by simp only [opRises, bey, ful, knd, non, sta, mis, siz] <;> grind)) dX3_rises_27
set_option maxHeartbeats 4000000 in
set_option maxRecDepth 100000 in
theorem c_X3_worth (E : En) (σ : Mm) (K L : Mm) (g : Int32) (F : Nat → Int32) (tl : Int32) (Bt W Z : Nat → Int32) (N : Mm) (hC : CR σ (K, L, g, F, tl, Bt, W, Z, N)) (q r n : Int32) : CtI E yX3_worth cX3_worth 4 (some .int) 6 137 [.ref (eA E 0), .int q, .int r, .int n] σ (fun rr σ2 => rr = (opWorth (K, L, g, F, tl, Bt, W, Z, N) q r n).1 ∧ CR σ2 (opWorth (K, L, g, F, tl, Bt, W, Z, N) q r n).2 ∧ FC σ σ2) := by
  obtain ⟨⟨hK, hO⟩, ⟨hg1, hg2, hg3⟩, hFd, ⟨⟨htl, htl2⟩, hBt⟩, hSh⟩ := id hC
  obtain ⟨⟨hn, h12⟩, hpp, hlw, hsp, hz0⟩ := id hO
  refine CtI.of (by decide +kernel) (Nat.le_of_ble_eq_true rfl) (fun p e0 s m below meth c C hr hlk => ?_)
  refine gx_lv (lv' := [(0, .ref (eA E 0)), (1, .int q), (2, .int r), (3, .int n)]) rfl ?_
  refine gx_aload_n C dX3_worth_0 (by rfl) (by rfl) ?_
  refine gx_getr (j := 13) (k := 0) C ck3 (by rfl) (by rfl) (by decide) fl_X3_10 dX3_worth_1 ?_
  refine gx_iload_n C dX3_worth_4 (by rfl) (by rfl) ?_
  refine gx_callVI (As := [.int q]) (rest := []) C (k_X0_has E σ 13 isE_13 K hK hO q) z_X0_has ck0 (by rfl) (by rfl) ml_X3_99 (by rfl) (Nat.le_of_ble_eq_true rfl) ⟨Nat.le_of_ble_eq_true rfl, Nat.le_of_ble_eq_true rfl⟩ dX3_worth_5 (fun r1 σ1 w1 => ?_)
  obtain ⟨u1, u2⟩ := w1; rw [u1, u2]; clear u1 u2
  refine gx_if_eq (tgt := 28) C dX3_worth_8 (by decide) (fun h2 => ?_) (fun h2 => ?_)
  ·
    have h2 := b2_z.mp h2
    refine gx_aload_n C dX3_worth_28 (by rfl) (by rfl) ?_
    refine gx_ldc C kc_X3_48 dX3_worth_29 ?_
    refine gx_callVI (As := [.int (-1000001)]) (rest := []) C (c_X3_found E σ (-1000001) 0 (by decide) (by decide)) z_X3_found ck3 (by rfl) (by rfl) ml_X3_49 (by rfl) (Nat.le_of_ble_eq_true rfl) ⟨Nat.le_of_ble_eq_true rfl, Nat.le_of_ble_eq_true rfl⟩ dX3_worth_31 (fun r3 σ3 w3 => ?_)
    obtain ⟨u1, u2⟩ := w3; rw [u1, u2]; clear u1 u2
    exact gx_iret C hr hlk rfl (fin_fd hC (by decide) (by simp only [opWorth, bey, ful, knd, non, sta, mis, siz] <;> grind)) dX3_worth_34
  ·
    have h2 := b2_nz.mp h2
    obtain ⟨k, hk, rfl⟩ := has_nat hO h2
    have ck : (nI k).toNatClampNeg = k := nI_clamp (by omega)
    refine gx_iload_n C dX3_worth_11 (by rfl) (by rfl) ?_
    refine gx_callSI (As := [.int r]) (rest := []) C (c_X3_isRank E σ r) z_X3_isRank (by rfl) ml_X3_40 (by rfl) (Nat.le_of_ble_eq_true rfl) ⟨Nat.le_of_ble_eq_true rfl, Nat.le_of_ble_eq_true rfl⟩ dX3_worth_12 (fun r4 σ4 w4 => ?_)
    obtain ⟨u1, u2⟩ := w4; rw [u1, u2]; clear u1 u2
    refine gx_if_eq (tgt := 28) C dX3_worth_15 (by decide) (fun h5 => ?_) (fun h5 => ?_)
    ·
      have h5 := b2_z.mp h5
      refine gx_aload_n C dX3_worth_28 (by rfl) (by rfl) ?_
      refine gx_ldc C kc_X3_48 dX3_worth_29 ?_
      refine gx_callVI (As := [.int (-1000001)]) (rest := []) C (c_X3_found E σ (-1000001) 0 (by decide) (by decide)) z_X3_found ck3 (by rfl) (by rfl) ml_X3_49 (by rfl) (Nat.le_of_ble_eq_true rfl) ⟨Nat.le_of_ble_eq_true rfl, Nat.le_of_ble_eq_true rfl⟩ dX3_worth_31 (fun r6 σ6 w6 => ?_)
      obtain ⟨u1, u2⟩ := w6; rw [u1, u2]; clear u1 u2
      exact gx_iret C hr hlk rfl (fin_fd hC (by decide) (by simp only [opWorth, bey, ful, knd, non, sta, mis, siz] <;> grind)) dX3_worth_34
    ·
      have h5 := b2_nz.mp h5
      obtain ⟨j, hj, rfl⟩ := r_nat h5
      have cj : (nI j).toNatClampNeg = j := nI_clamp (by omega)
      refine gx_iload_n C dX3_worth_18 (by rfl) (by rfl) ?_
      refine gx_iconst (v := 1) C dX3_worth_19 (by decide) ?_
      refine gx_bipush (v := 120) C dX3_worth_20 (by decide) ?_
      refine gx_callSI (As := [.int n, .int 1, .int 120]) (rest := []) C (c_X3_isWithin E σ n 1 120) z_X3_isWithin (by rfl) ml_X3_44 (by rfl) (Nat.le_of_ble_eq_true rfl) ⟨Nat.le_of_ble_eq_true rfl, Nat.le_of_ble_eq_true rfl⟩ dX3_worth_22 (fun r7 σ7 w7 => ?_)
      obtain ⟨u1, u2⟩ := w7; rw [u1, u2]; clear u1 u2
      refine gx_if_ne (tgt := 35) C dX3_worth_25 (by decide) (fun h8 => ?_) (fun h8 => ?_)
      ·
        have h8 := b2_nz.mp h8
        obtain ⟨t, ht, rfl⟩ := i_nat (M := 120) (n := 120) (by decide) ⟨Int32.le_trans (by decide) h8.1, h8.2⟩
        have ct : (nI t).toNatClampNeg = t := nI_clamp (by omega)
        refine gx_aload_n C dX3_worth_35 (by rfl) (by rfl) ?_
        refine gx_iload_n C dX3_worth_36 (by rfl) (by rfl) ?_
        refine gx_callVI (As := [.int (nI t)]) (rest := []) C (c_X3_isTooLate E σ K hK (nI t)) z_X3_isTooLate ck3 (by rfl) (by rfl) ml_X3_163 (by rfl) (Nat.le_of_ble_eq_true rfl) ⟨Nat.le_of_ble_eq_true rfl, Nat.le_of_ble_eq_true rfl⟩ dX3_worth_37 (fun r9 σ9 w9 => ?_)
        obtain ⟨u1, u2⟩ := w9; rw [u1, u2]; clear u1 u2
        refine gx_if_eq (tgt := 50) C dX3_worth_40 (by decide) (fun h10 => ?_) (fun h10 => ?_)
        ·
          have h10 := b2_z.mp h10
          refine gx_aload_n C dX3_worth_50 (by rfl) (by rfl) ?_
          refine gx_getr (j := 37) (k := 3) C ck3 (by rfl) (by rfl) (by decide) fl_X3_19 dX3_worth_51 ?_
          refine gx_aload_n C dX3_worth_54 (by rfl) (by rfl) ?_
          refine gx_getr (j := 13) (k := 0) C ck3 (by rfl) (by rfl) (by decide) fl_X3_10 dX3_worth_55 ?_
          refine gx_callVV (As := [.ref (eA E 13)]) (rest := []) C (c_X0_becomeLike E σ 37 isE_37 13 isE_13 (by decide) K hK) z_X0_becomeLike ck0 (by rfl) (by rfl) ml_X3_169 (by rfl) (Nat.le_of_ble_eq_true rfl) ⟨Nat.le_of_ble_eq_true rfl, Nat.le_of_ble_eq_true rfl⟩ dX3_worth_58 (fun σ11 w11 => ?_)
          obtain ⟨hK11, hF11⟩ := w11
          have hK11_13 := Emp.fr (e := 13) (e2 := 37) hK hF11 (by decide)
          refine gx_aload_n C dX3_worth_61 (by rfl) (by rfl) ?_
          refine gx_getr (j := 37) (k := 3) C ck3 (by rfl) (by rfl) (by decide) fl_X3_19 dX3_worth_62 ?_
          refine gx_iload_n C dX3_worth_65 (by rfl) (by rfl) ?_
          refine gx_iload_n C dX3_worth_66 (by rfl) (by rfl) ?_
          refine gx_callVV (As := [.int (nI k), .int (nI j)]) (rest := []) C (c_X0_moveTo E σ11 37 isE_37 K hK11 hO k (by omega) (nI j) (rk_rg (by omega))) z_X0_moveTo ck0 (by rfl) (by rfl) ml_X3_134 (by rfl) (Nat.le_of_ble_eq_true rfl) ⟨Nat.le_of_ble_eq_true rfl, Nat.le_of_ble_eq_true rfl⟩ dX3_worth_67 (fun σ12 w12 => ?_)
          obtain ⟨hK12, hF12⟩ := w12
          have hO12 := Ok.rank (v := (nI j)) (p := k) hO (by omega) (rk_rg (by omega))
          have hK12_13 := Emp.fr (e := 13) (e2 := 37) hK11_13 hF12 (by decide)
          refine gx_aload_n C dX3_worth_70 (by rfl) (by rfl) ?_
          refine gx_getr (j := 37) (k := 3) C ck3 (by rfl) (by rfl) (by decide) fl_X3_19 dX3_worth_71 ?_
          refine gx_iload_n C dX3_worth_74 (by rfl) (by rfl) ?_
          refine gx_callVI (As := [.int (nI t)]) (rest := []) C (c_X0_pass E σ12 37 isE_37 (up2 K 2 k (nI j)) hK12 hO12 t (by omega)) z_X0_pass ck0 (by rfl) (by rfl) ml_X3_166 (by rfl) (Nat.le_of_ble_eq_true rfl) ⟨Nat.le_of_ble_eq_true rfl, Nat.le_of_ble_eq_true rfl⟩ dX3_worth_75 (fun r13 σ13 w13 => ?_)
          obtain ⟨er13, hK13, hF13⟩ := w13
          have hK13_13 := Emp.fr (e := 13) (e2 := 37) hK12_13 hF13 (by decide)
          refine gx_st (st' := [.int (mos t (up2 K 2 k (nI j)) 0 2 - (up2 K 2 k (nI j)) 0 2)]) (by rw [er13]) ?_
          refine gx_pop C (by rfl) dX3_worth_78 ?_
          refine gx_aload_n C dX3_worth_79 (by rfl) (by rfl) ?_
          refine gx_getr (j := 37) (k := 3) C ck3 (by rfl) (by rfl) (by decide) fl_X3_19 dX3_worth_80 ?_
          refine gx_getr (j := 42) (k := 4) C ck0 (by rfl) (by rfl) (by decide) fl_X3_114 dX3_worth_83 ?_
          refine gx_iload_n C dX3_worth_86 (by rfl) (by rfl) ?_
          refine gx_ialdN (k := k) C (by rfl) rfl (by omega) (by decide) dX3_worth_87 ?_
          refine gx_st (st' := [.int ((mos t (up2 K 2 k (nI j))) 5 k)]) (by rw [hK13.r5 (p := k) (by omega)]) ?_
          refine gx_aload_n C dX3_worth_88 (by rfl) (by rfl) ?_
          refine gx_getr (j := 13) (k := 0) C ck3 (by rfl) (by rfl) (by decide) fl_X3_10 dX3_worth_89 ?_
          refine gx_getr (j := 18) (k := 4) C ck0 (by rfl) (by rfl) (by decide) fl_X3_114 dX3_worth_92 ?_
          refine gx_iload_n C dX3_worth_95 (by rfl) (by rfl) ?_
          refine gx_ialdN (k := k) C (by rfl) rfl (by omega) (by decide) dX3_worth_96 ?_
          refine gx_st (st' := [.int (K 5 k), .int ((mos t (up2 K 2 k (nI j))) 5 k)]) (by rw [hK13_13.r5 (p := k) (by omega)]) ?_
          refine gx_isub C dX3_worth_97 ?_
          exact gx_iret C hr hlk rfl (fin_try hC (((hF11).tr hF12).tr hF13) (by simp only [opWorth, ck, ct, bey, sta] <;> grind)) dX3_worth_98
        ·
          have h10 := b2_nz.mp h10
          refine gx_aload_n C dX3_worth_43 (by rfl) (by rfl) ?_
          refine gx_ldc C kc_X3_56 dX3_worth_44 ?_
          refine gx_callVI (As := [.int (-1000005)]) (rest := []) C (c_X3_found E σ (-1000005) 4 (by decide) (by decide)) z_X3_found ck3 (by rfl) (by rfl) ml_X3_49 (by rfl) (Nat.le_of_ble_eq_true rfl) ⟨Nat.le_of_ble_eq_true rfl, Nat.le_of_ble_eq_true rfl⟩ dX3_worth_46 (fun r14 σ14 w14 => ?_)
          obtain ⟨u1, u2⟩ := w14; rw [u1, u2]; clear u1 u2
          exact gx_iret C hr hlk rfl (fin_fd hC (by decide) (by simp only [opWorth, bey, ful, knd, non, sta, mis, siz] <;> grind)) dX3_worth_49
      ·
        have h8 := b2_z.mp h8
        refine gx_aload_n C dX3_worth_28 (by rfl) (by rfl) ?_
        refine gx_ldc C kc_X3_48 dX3_worth_29 ?_
        refine gx_callVI (As := [.int (-1000001)]) (rest := []) C (c_X3_found E σ (-1000001) 0 (by decide) (by decide)) z_X3_found ck3 (by rfl) (by rfl) ml_X3_49 (by rfl) (Nat.le_of_ble_eq_true rfl) ⟨Nat.le_of_ble_eq_true rfl, Nat.le_of_ble_eq_true rfl⟩ dX3_worth_31 (fun r15 σ15 w15 => ?_)
        obtain ⟨u1, u2⟩ := w15; rw [u1, u2]; clear u1 u2
        exact gx_iret C hr hlk rfl (fin_fd hC (by decide) (by simp only [opWorth, bey, ful, knd, non, sta, mis, siz] <;> grind)) dX3_worth_34
set_option maxHeartbeats 4000000 in
set_option maxRecDepth 100000 in
theorem c_X3_seed (E : En) (σ : Mm) (K L : Mm) (g : Int32) (F : Nat → Int32) (tl : Int32) (Bt W Z : Nat → Int32) (N : Mm) (hC : CR σ (K, L, g, F, tl, Bt, W, Z, N)) (v : Int32) : CtI E yX3_seed cX3_seed 3 (some .int) 0 0 [.ref (eA E 0), .int v] σ (fun rr σ2 => rr = (opSeed (K, L, g, F, tl, Bt, W, Z, N) v).1 ∧ CR σ2 (opSeed (K, L, g, F, tl, Bt, W, Z, N) v).2 ∧ FC σ σ2) := by
  obtain ⟨⟨hK, hO⟩, ⟨hg1, hg2, hg3⟩, hFd, ⟨⟨htl, htl2⟩, hBt⟩, hSh⟩ := id hC
  obtain ⟨⟨hn, h12⟩, hpp, hlw, hsp, hz0⟩ := id hO
  refine CtI.of (by decide +kernel) (Nat.le_of_ble_eq_true rfl) (fun p e0 s m below meth c C hr hlk => ?_)
  refine gx_lv (lv' := [(0, .ref (eA E 0)), (1, .int v)]) rfl ?_
  refine gx_aload_n C dX3_seed_0 (by rfl) (by rfl) ?_
  refine gx_getr (j := 13) (k := 0) C ck3 (by rfl) (by rfl) (by decide) fl_X3_10 dX3_seed_1 ?_
  refine gx_geti (k := 14) C ck0 (by rfl) (by rfl) (by decide) fl_X3_213 dX3_seed_4 ?_
  refine gx_st (st' := [.int (K 0 3)]) (by rw [hK.z]) ?_
  refine gx_istore_n (lv2 := [(2, .int (K 0 3)), (0, .ref (eA E 0)), (1, .int v)]) C dX3_seed_7 (by rfl) (by decide) rfl ?_
  refine gx_aload_n C dX3_seed_8 (by rfl) (by rfl) ?_
  refine gx_getr (j := 13) (k := 0) C ck3 (by rfl) (by rfl) (by decide) fl_X3_10 dX3_seed_9 ?_
  refine gx_iload_n C dX3_seed_12 (by rfl) (by rfl) ?_
  refine gx_puti (k := 14) C ck0 (by rfl) (by rfl) (by decide) (by rfl) rfl rfl fl_X3_213 dX3_seed_13 ?_
  have hK1 := hK.uz (v := v)
  refine gx_iload_n C dX3_seed_16 (by rfl) (by rfl) ?_
  exact gx_iret C hr hlk rfl (fin_now hC hK1 (hO.fld0 (k := 3) (v := v) (by decide) (by decide)) ((Fr.rf).up (by decide) (by decide)) (by simp only [opSeed, bey, ful, knd, non, sta, mis, siz] <;> grind)) dX3_seed_17
set_option maxHeartbeats 4000000 in
set_option maxRecDepth 100000 in
theorem c_X3_hold (E : En) (σ : Mm) (K L : Mm) (g : Int32) (F : Nat → Int32) (tl : Int32) (Bt W Z : Nat → Int32) (N : Mm) (hC : CR σ (K, L, g, F, tl, Bt, W, Z, N)) (x q : Int32) : CtI E yX3_hold cX3_hold 3 (some .int) 2 44 [.ref (eA E 0), .int x, .int q] σ (fun rr σ2 => rr = (opHold (K, L, g, F, tl, Bt, W, Z, N) x q).1 ∧ CR σ2 (opHold (K, L, g, F, tl, Bt, W, Z, N) x q).2 ∧ FC σ σ2) := by
  obtain ⟨⟨hK, hO⟩, ⟨hg1, hg2, hg3⟩, hFd, ⟨⟨htl, htl2⟩, hBt⟩, hSh⟩ := id hC
  obtain ⟨⟨hn, h12⟩, hpp, hlw, hsp, hz0⟩ := id hO
  refine CtI.of (by decide +kernel) (Nat.le_of_ble_eq_true rfl) (fun p e0 s m below meth c C hr hlk => ?_)
  refine gx_lv (lv' := [(0, .ref (eA E 0)), (1, .int x), (2, .int q)]) rfl ?_
  refine gx_iload_n C dX3_hold_0 (by rfl) (by rfl) ?_
  refine gx_iconst (v := 0) C dX3_hold_1 (by decide) ?_
  refine gx_bipush (v := 9) C dX3_hold_2 (by decide) ?_
  refine gx_callSI (As := [.int x, .int 0, .int 9]) (rest := []) C (c_X3_isWithin E σ x 0 9) z_X3_isWithin (by rfl) ml_X3_44 (by rfl) (Nat.le_of_ble_eq_true rfl) ⟨Nat.le_of_ble_eq_true rfl, Nat.le_of_ble_eq_true rfl⟩ dX3_hold_4 (fun r1 σ1 w1 => ?_)
  obtain ⟨u1, u2⟩ := w1; rw [u1, u2]; clear u1 u2
  refine gx_if_eq (tgt := 21) C dX3_hold_7 (by decide) (fun h2 => ?_) (fun h2 => ?_)
  ·
    have h2 := b2_z.mp h2
    refine gx_aload_n C dX3_hold_21 (by rfl) (by rfl) ?_
    refine gx_ldc C kc_X3_48 dX3_hold_22 ?_
    refine gx_callVI (As := [.int (-1000001)]) (rest := []) C (c_X3_found E σ (-1000001) 0 (by decide) (by decide)) z_X3_found ck3 (by rfl) (by rfl) ml_X3_49 (by rfl) (Nat.le_of_ble_eq_true rfl) ⟨Nat.le_of_ble_eq_true rfl, Nat.le_of_ble_eq_true rfl⟩ dX3_hold_24 (fun r3 σ3 w3 => ?_)
    obtain ⟨u1, u2⟩ := w3; rw [u1, u2]; clear u1 u2
    exact gx_iret C hr hlk rfl (fin_fd hC (by decide) (by simp only [opHold, bey, ful, knd, non, sta, mis, siz] <;> grind)) dX3_hold_27
  ·
    have h2 := b2_nz.mp h2
    obtain ⟨k, hk, rfl⟩ := i_nat (M := 9) (n := 9) (by decide) h2
    have ck : (nI k).toNatClampNeg = k := nI_clamp (by omega)
    refine gx_aload_n C dX3_hold_10 (by rfl) (by rfl) ?_
    refine gx_getr (j := 13) (k := 0) C ck3 (by rfl) (by rfl) (by decide) fl_X3_10 dX3_hold_11 ?_
    refine gx_iload_n C dX3_hold_14 (by rfl) (by rfl) ?_
    refine gx_callVI (As := [.int q]) (rest := []) C (k_X0_hasOrNobody E σ 13 isE_13 K hK hO q) z_X0_hasOrNobody ck0 (by rfl) (by rfl) ml_X3_127 (by rfl) (Nat.le_of_ble_eq_true rfl) ⟨Nat.le_of_ble_eq_true rfl, Nat.le_of_ble_eq_true rfl⟩ dX3_hold_15 (fun r4 σ4 w4 => ?_)
    obtain ⟨u1, u2⟩ := w4; rw [u1, u2]; clear u1 u2
    refine gx_if_ne (tgt := 28) C dX3_hold_18 (by decide) (fun h5 => ?_) (fun h5 => ?_)
    ·
      have h5 := b2_nz.mp h5
      refine gx_aload_n C dX3_hold_28 (by rfl) (by rfl) ?_
      refine gx_getr (j := 13) (k := 0) C ck3 (by rfl) (by rfl) (by decide) fl_X3_10 dX3_hold_29 ?_
      refine gx_getr (j := 24) (k := 10) C ck0 (by rfl) (by rfl) (by decide) fl_X3_226 dX3_hold_32 ?_
      refine gx_iload_n C dX3_hold_35 (by rfl) (by rfl) ?_
      refine gx_iload_n C dX3_hold_36 (by rfl) (by rfl) ?_
      refine gx_iastN (k := k) C (by rfl) rfl (by omega) (by decide) dX3_hold_37 ?_
      have hK6 := hK.u10 (p := k) (v := q) (by omega)
      refine gx_iconst (v := 1) C dX3_hold_38 (by decide) ?_
      exact gx_iret C hr hlk rfl (fin_now hC hK6 (hO.spot (p := k) (v := q) (by omega) (q_rg hO (by assumption))) ((Fr.rf).up (by decide) (by decide)) (by simp only [opHold, bey, ful, knd, non, sta, mis, siz] <;> grind)) dX3_hold_39
    ·
      have h5 := b2_z.mp h5
      refine gx_aload_n C dX3_hold_21 (by rfl) (by rfl) ?_
      refine gx_ldc C kc_X3_48 dX3_hold_22 ?_
      refine gx_callVI (As := [.int (-1000001)]) (rest := []) C (c_X3_found E σ (-1000001) 0 (by decide) (by decide)) z_X3_found ck3 (by rfl) (by rfl) ml_X3_49 (by rfl) (Nat.le_of_ble_eq_true rfl) ⟨Nat.le_of_ble_eq_true rfl, Nat.le_of_ble_eq_true rfl⟩ dX3_hold_24 (fun r7 σ7 w7 => ?_)
      obtain ⟨u1, u2⟩ := w7; rw [u1, u2]; clear u1 u2
      exact gx_iret C hr hlk rfl (fin_fd hC (by decide) (by simp only [opHold, bey, ful, knd, non, sta, mis, siz] <;> grind)) dX3_hold_27
set_option maxHeartbeats 4000000 in
set_option maxRecDepth 100000 in
theorem c_X3_as (E : En) (σ : Mm) (K L : Mm) (g : Int32) (F : Nat → Int32) (tl : Int32) (Bt W Z : Nat → Int32) (N : Mm) (hC : CR σ (K, L, g, F, tl, Bt, W, Z, N)) (x y : Int32) : CtI E yX3_as cX3_as 4 (some .int) 3 65 [.ref (eA E 0), .int x, .int y] σ (fun rr σ2 => rr = (opAs (K, L, g, F, tl, Bt, W, Z, N) x y).1 ∧ CR σ2 (opAs (K, L, g, F, tl, Bt, W, Z, N) x y).2 ∧ FC σ σ2) := by
  obtain ⟨⟨hK, hO⟩, ⟨hg1, hg2, hg3⟩, hFd, ⟨⟨htl, htl2⟩, hBt⟩, hSh⟩ := id hC
  obtain ⟨⟨hn, h12⟩, hpp, hlw, hsp, hz0⟩ := id hO
  refine CtI.of (by decide +kernel) (Nat.le_of_ble_eq_true rfl) (fun p e0 s m below meth c C hr hlk => ?_)
  refine gx_lv (lv' := [(0, .ref (eA E 0)), (1, .int x), (2, .int y)]) rfl ?_
  refine gx_iload_n C dX3_as_0 (by rfl) (by rfl) ?_
  refine gx_iconst (v := 0) C dX3_as_1 (by decide) ?_
  refine gx_bipush (v := 9) C dX3_as_2 (by decide) ?_
  refine gx_callSI (As := [.int x, .int 0, .int 9]) (rest := []) C (c_X3_isWithin E σ x 0 9) z_X3_isWithin (by rfl) ml_X3_44 (by rfl) (Nat.le_of_ble_eq_true rfl) ⟨Nat.le_of_ble_eq_true rfl, Nat.le_of_ble_eq_true rfl⟩ dX3_as_4 (fun r1 σ1 w1 => ?_)
  obtain ⟨u1, u2⟩ := w1; rw [u1, u2]; clear u1 u2
  refine gx_if_eq (tgt := 17) C dX3_as_7 (by decide) (fun h2 => ?_) (fun h2 => ?_)
  ·
    have h2 := b2_z.mp h2
    refine gx_aload_n C dX3_as_17 (by rfl) (by rfl) ?_
    refine gx_ldc C kc_X3_48 dX3_as_18 ?_
    refine gx_callVI (As := [.int (-1000001)]) (rest := []) C (c_X3_found E σ (-1000001) 0 (by decide) (by decide)) z_X3_found ck3 (by rfl) (by rfl) ml_X3_49 (by rfl) (Nat.le_of_ble_eq_true rfl) ⟨Nat.le_of_ble_eq_true rfl, Nat.le_of_ble_eq_true rfl⟩ dX3_as_20 (fun r3 σ3 w3 => ?_)
    obtain ⟨u1, u2⟩ := w3; rw [u1, u2]; clear u1 u2
    exact gx_iret C hr hlk rfl (fin_fd hC (by decide) (by first | (simp only [opAs, ck, cj, cd, bey, mis, knd] <;> grind) | (simp only [opAs, ck, bey, mis, knd] <;> grind) | (simp only [opAs, bey, mis, knd] <;> grind))) dX3_as_23
  ·
    have h2 := b2_nz.mp h2
    obtain ⟨k, hk, rfl⟩ := i_nat (M := 9) (n := 9) (by decide) h2
    have ck : (nI k).toNatClampNeg = k := nI_clamp (by omega)
    refine gx_iload_n C dX3_as_10 (by rfl) (by rfl) ?_
    refine gx_callSI (As := [.int y]) (rest := []) C (c_X3_isKind E σ y) z_X3_isKind (by rfl) ml_X3_84 (by rfl) (Nat.le_of_ble_eq_true rfl) ⟨Nat.le_of_ble_eq_true rfl, Nat.le_of_ble_eq_true rfl⟩ dX3_as_11 (fun r4 σ4 w4 => ?_)
    obtain ⟨u1, u2⟩ := w4; rw [u1, u2]; clear u1 u2
    refine gx_if_ne (tgt := 24) C dX3_as_14 (by decide) (fun h5 => ?_) (fun h5 => ?_)
    ·
      have h5 := b2_nz.mp h5
      refine gx_aload_n C dX3_as_24 (by rfl) (by rfl) ?_
      refine gx_getr (j := 13) (k := 0) C ck3 (by rfl) (by rfl) (by decide) fl_X3_10 dX3_as_25 ?_
      refine gx_getr (j := 24) (k := 10) C ck0 (by rfl) (by rfl) (by decide) fl_X3_226 dX3_as_28 ?_
      refine gx_iload_n C dX3_as_31 (by rfl) (by rfl) ?_
      refine gx_ialdN (k := k) C (by rfl) rfl (by omega) (by decide) dX3_as_32 ?_
      refine gx_st (st' := [.int (K 10 k)]) (by rw [hK.r10 (p := k) (by omega)]) ?_
      refine gx_istore_n (lv2 := [(3, .int (K 10 k)), (0, .ref (eA E 0)), (1, .int (nI k)), (2, .int y)]) C dX3_as_33 (by rfl) (by decide) rfl ?_
      refine gx_aload_n C dX3_as_34 (by rfl) (by rfl) ?_
      refine gx_getr (j := 13) (k := 0) C ck3 (by rfl) (by rfl) (by decide) fl_X3_10 dX3_as_35 ?_
      refine gx_iload_n C dX3_as_38 (by rfl) (by rfl) ?_
      refine gx_callVI (As := [.int (K 10 k)]) (rest := []) C (k_X0_has E σ 13 isE_13 K hK hO (K 10 k)) z_X0_has ck0 (by rfl) (by rfl) ml_X3_99 (by rfl) (Nat.le_of_ble_eq_true rfl) ⟨Nat.le_of_ble_eq_true rfl, Nat.le_of_ble_eq_true rfl⟩ dX3_as_39 (fun r6 σ6 w6 => ?_)
      obtain ⟨u1, u2⟩ := w6; rw [u1, u2]; clear u1 u2
      refine gx_if_ne (tgt := 52) C dX3_as_42 (by decide) (fun h7 => ?_) (fun h7 => ?_)
      ·
        have h7 := b2_nz.mp h7
        obtain ⟨j, hj, ej⟩ := has_nat hO h7
        have cj : (K 10 k).toNatClampNeg = j := by rw [ej]; exact nI_clamp (by omega)
        obtain ⟨d, hd, ed⟩ := i_nat (M := 6) (n := 6) (by decide) (hpp j (by omega)).1
        have cd : (K 1 j).toNatClampNeg = d := by rw [ed]; exact nI_clamp (by omega)
        refine gx_lv (lv' := [(3, .int (nI j)), (0, .ref (eA E 0)), (1, .int (nI k)), (2, .int y)]) (by rw [ej]) ?_
        refine gx_aload_n C dX3_as_52 (by rfl) (by rfl) ?_
        refine gx_getr (j := 13) (k := 0) C ck3 (by rfl) (by rfl) (by decide) fl_X3_10 dX3_as_53 ?_
        refine gx_getr (j := 14) (k := 0) C ck0 (by rfl) (by rfl) (by decide) fl_X3_102 dX3_as_56 ?_
        refine gx_iload_n C dX3_as_59 (by rfl) (by rfl) ?_
        refine gx_ialdN (k := j) C (by rfl) rfl (by omega) (by decide) dX3_as_60 ?_
        refine gx_st (st' := [.int (K 1 j)]) (by rw [hK.r1 (p := j) (by omega)]) ?_
        refine gx_st (st' := [.int (nI d)]) (by rw [ed]) ?_
        refine gx_iload_n C dX3_as_61 (by rfl) (by rfl) ?_
        refine gx_callSI (As := [.int (nI d), .int y]) (rest := []) C (c_X3_isOfKind E σ d (by omega) y) z_X3_isOfKind (by rfl) ml_X3_230 (by rfl) (Nat.le_of_ble_eq_true rfl) ⟨Nat.le_of_ble_eq_true rfl, Nat.le_of_ble_eq_true rfl⟩ dX3_as_62 (fun r8 σ8 w8 => ?_)
        obtain ⟨u1, u2⟩ := w8; rw [u1, u2]; clear u1 u2
        refine gx_if_eq (tgt := 72) C dX3_as_65 (by decide) (fun h9 => ?_) (fun h9 => ?_)
        ·
          have h9 := b2_z.mp h9
          refine gx_aload_n C dX3_as_72 (by rfl) (by rfl) ?_
          refine gx_ldc C kc_X3_233 dX3_as_73 ?_
          refine gx_callVI (As := [.int (-1000003)]) (rest := []) C (c_X3_found E σ (-1000003) 2 (by decide) (by decide)) z_X3_found ck3 (by rfl) (by rfl) ml_X3_49 (by rfl) (Nat.le_of_ble_eq_true rfl) ⟨Nat.le_of_ble_eq_true rfl, Nat.le_of_ble_eq_true rfl⟩ dX3_as_75 (fun r10 σ10 w10 => ?_)
          obtain ⟨u1, u2⟩ := w10; rw [u1, u2]; clear u1 u2
          exact gx_iret C hr hlk rfl (fin_fd hC (by decide) (by first | (simp only [opAs, ck, cj, cd, bey, mis, knd] <;> grind) | (simp only [opAs, ck, bey, mis, knd] <;> grind) | (simp only [opAs, bey, mis, knd] <;> grind))) dX3_as_78
        ·
          have h9 := b2_nz.mp h9
          refine gx_iload_n C dX3_as_68 (by rfl) (by rfl) ?_
          refine gx_goto (tgt := 78) C dX3_as_69 (by decide) ?_
          exact gx_iret C hr hlk rfl (fin_rd hC (by first | (simp only [opAs, ck, cj, cd, bey, mis, knd] <;> grind) | (simp only [opAs, ck, bey, mis, knd] <;> grind) | (simp only [opAs, bey, mis, knd] <;> grind))) dX3_as_78
      ·
        have h7 := b2_z.mp h7
        refine gx_aload_n C dX3_as_45 (by rfl) (by rfl) ?_
        refine gx_ldc C kc_X3_229 dX3_as_46 ?_
        refine gx_callVI (As := [.int (-1000006)]) (rest := []) C (c_X3_found E σ (-1000006) 5 (by decide) (by decide)) z_X3_found ck3 (by rfl) (by rfl) ml_X3_49 (by rfl) (Nat.le_of_ble_eq_true rfl) ⟨Nat.le_of_ble_eq_true rfl, Nat.le_of_ble_eq_true rfl⟩ dX3_as_48 (fun r11 σ11 w11 => ?_)
        obtain ⟨u1, u2⟩ := w11; rw [u1, u2]; clear u1 u2
        exact gx_iret C hr hlk rfl (fin_fd hC (by decide) (by first | (simp only [opAs, ck, cj, cd, bey, mis, knd] <;> grind) | (simp only [opAs, ck, bey, mis, knd] <;> grind) | (simp only [opAs, bey, mis, knd] <;> grind))) dX3_as_51
    ·
      have h5 := b2_z.mp h5
      refine gx_aload_n C dX3_as_17 (by rfl) (by rfl) ?_
      refine gx_ldc C kc_X3_48 dX3_as_18 ?_
      refine gx_callVI (As := [.int (-1000001)]) (rest := []) C (c_X3_found E σ (-1000001) 0 (by decide) (by decide)) z_X3_found ck3 (by rfl) (by rfl) ml_X3_49 (by rfl) (Nat.le_of_ble_eq_true rfl) ⟨Nat.le_of_ble_eq_true rfl, Nat.le_of_ble_eq_true rfl⟩ dX3_as_20 (fun r12 σ12 w12 => ?_)
      obtain ⟨u1, u2⟩ := w12; rw [u1, u2]; clear u1 u2
      exact gx_iret C hr hlk rfl (fin_fd hC (by decide) (by first | (simp only [opAs, ck, cj, cd, bey, mis, knd] <;> grind) | (simp only [opAs, ck, bey, mis, knd] <;> grind) | (simp only [opAs, bey, mis, knd] <;> grind))) dX3_as_23
set_option maxHeartbeats 4000000 in
set_option maxRecDepth 100000 in
theorem c_X3_image (E : En) (σ : Mm) (K L : Mm) (g : Int32) (F : Nat → Int32) (tl : Int32) (Bt W Z : Nat → Int32) (N : Mm) (hC : CR σ (K, L, g, F, tl, Bt, W, Z, N)) : CtI E yX3_image cX3_image 1 (some .int) 2 81 [.ref (eA E 0)] σ (fun rr σ2 => rr = (opImage (K, L, g, F, tl, Bt, W, Z, N)).1 ∧ CR σ2 (opImage (K, L, g, F, tl, Bt, W, Z, N)).2 ∧ FC σ σ2) := by
  obtain ⟨⟨hK, hO⟩, ⟨hg1, hg2, hg3⟩, hFd, ⟨⟨htl, htl2⟩, hBt⟩, hSh⟩ := id hC
  obtain ⟨⟨hn, h12⟩, hpp, hlw, hsp, hz0⟩ := id hO
  refine CtI.of (by decide +kernel) (Nat.le_of_ble_eq_true rfl) (fun p e0 s m below meth c C hr hlk => ?_)
  refine gx_lv (lv' := [(0, .ref (eA E 0))]) rfl ?_
  refine gx_aload_n C dX3_image_0 (by rfl) (by rfl) ?_
  refine gx_getr (j := 25) (k := 1) C ck3 (by rfl) (by rfl) (by decide) fl_X3_16 dX3_image_1 ?_
  refine gx_aload_n C dX3_image_4 (by rfl) (by rfl) ?_
  refine gx_getr (j := 13) (k := 0) C ck3 (by rfl) (by rfl) (by decide) fl_X3_10 dX3_image_5 ?_
  refine gx_callVV (As := [.ref (eA E 13)]) (rest := []) C (c_X0_becomeLike E σ 25 isE_25 13 isE_13 (by decide) K hK) z_X0_becomeLike ck0 (by rfl) (by rfl) ml_X3_169 (by rfl) (Nat.le_of_ble_eq_true rfl) ⟨Nat.le_of_ble_eq_true rfl, Nat.le_of_ble_eq_true rfl⟩ dX3_image_8 (fun σ1 w1 => ?_)
  obtain ⟨hK1, hF1⟩ := w1
  have hK1_13 := Emp.fr (e := 13) (e2 := 25) hK hF1 (by decide)
  refine gx_aload_n C dX3_image_11 (by rfl) (by rfl) ?_
  refine gx_iconst (v := 1) C dX3_image_12 (by decide) ?_
  refine gx_puti (k := 2) C ck3 (by rfl) (by rfl) (by decide) (by rfl) (by first | rfl | exact nb_b2 _) (by first | rfl | exact fb_b2 _) fl_X3_266 dX3_image_13 ?_
  have hK2 : Emp (up2 σ1 0 2 1) 13 K := hK1_13.w (by omega)
  have hK3 : Emp (up2 σ1 0 2 1) 25 K := hK1.w (by omega)
  refine gx_iconst (v := 1) C dX3_image_16 (by decide) ?_
  exact gx_iret C hr hlk rfl ⟨rfl, hC.image hK1 hF1, ((hF1).fc (by omega)).up (by omega)⟩ dX3_image_17
set_option maxHeartbeats 4000000 in
set_option maxRecDepth 100000 in
theorem c_X3_back (E : En) (σ : Mm) (K L : Mm) (g : Int32) (F : Nat → Int32) (tl : Int32) (Bt W Z : Nat → Int32) (N : Mm) (hC : CR σ (K, L, g, F, tl, Bt, W, Z, N)) : CtI E yX3_back cX3_back 1 (some .int) 2 81 [.ref (eA E 0)] σ (fun rr σ2 => rr = (opBack (K, L, g, F, tl, Bt, W, Z, N)).1 ∧ CR σ2 (opBack (K, L, g, F, tl, Bt, W, Z, N)).2 ∧ FC σ σ2) := by
  obtain ⟨⟨hK, hO⟩, ⟨hg1, hg2, hg3⟩, hFd, ⟨⟨htl, htl2⟩, hBt⟩, hSh⟩ := id hC
  obtain ⟨⟨hn, h12⟩, hpp, hlw, hsp, hz0⟩ := id hO
  refine CtI.of (by decide +kernel) (Nat.le_of_ble_eq_true rfl) (fun p e0 s m below meth c C hr hlk => ?_)
  refine gx_lv (lv' := [(0, .ref (eA E 0))]) rfl ?_
  refine gx_aload_n C dX3_back_0 (by rfl) (by rfl) ?_
  refine gx_geti (k := 2) C ck3 (by rfl) (by rfl) (by decide) fl_X3_266 dX3_back_1 ?_
  refine gx_st (st' := [.int g]) (by rw [hg1]) ?_
  refine gx_if_ne (tgt := 14) C dX3_back_4 (by decide) (fun h1 => ?_) (fun h1 => ?_)
  ·
    have hgg : g = 1 := hg2.resolve_left h1
    obtain ⟨hL, hOL⟩ := hg3 hgg
    refine gx_aload_n C dX3_back_14 (by rfl) (by rfl) ?_
    refine gx_getr (j := 13) (k := 0) C ck3 (by rfl) (by rfl) (by decide) fl_X3_10 dX3_back_15 ?_
    refine gx_aload_n C dX3_back_18 (by rfl) (by rfl) ?_
    refine gx_getr (j := 25) (k := 1) C ck3 (by rfl) (by rfl) (by decide) fl_X3_16 dX3_back_19 ?_
    refine gx_callVV (As := [.ref (eA E 25)]) (rest := []) C (c_X0_becomeLike E σ 13 isE_13 25 isE_25 (by decide) L hL) z_X0_becomeLike ck0 (by rfl) (by rfl) ml_X3_169 (by rfl) (Nat.le_of_ble_eq_true rfl) ⟨Nat.le_of_ble_eq_true rfl, Nat.le_of_ble_eq_true rfl⟩ dX3_back_22 (fun σ2 w2 => ?_)
    obtain ⟨hK2, hF2⟩ := w2
    have hK2_25 := Emp.fr (e := 25) (e2 := 13) hL hF2 (by decide)
    refine gx_aload_n C dX3_back_25 (by rfl) (by rfl) ?_
    refine gx_getr (j := 13) (k := 0) C ck3 (by rfl) (by rfl) (by decide) fl_X3_10 dX3_back_26 ?_
    refine gx_geti (k := 12) C ck0 (by rfl) (by rfl) (by decide) fl_X3_270 dX3_back_29 ?_
    refine gx_st (st' := [.int (L 0 1)]) (by rw [hK2.m]) ?_
    exact gx_iret C hr hlk rfl (fin_now hC hK2 hOL hF2 (by simp only [opBack]; rw [if_neg (by assumption)])) dX3_back_32
  ·
    refine gx_aload_n C dX3_back_7 (by rfl) (by rfl) ?_
    refine gx_ldc C kc_X3_156 dX3_back_8 ?_
    refine gx_callVI (As := [.int (-1000004)]) (rest := []) C (c_X3_found E σ (-1000004) 3 (by decide) (by decide)) z_X3_found ck3 (by rfl) (by rfl) ml_X3_49 (by rfl) (Nat.le_of_ble_eq_true rfl) ⟨Nat.le_of_ble_eq_true rfl, Nat.le_of_ble_eq_true rfl⟩ dX3_back_10 (fun r3 σ3 w3 => ?_)
    obtain ⟨u1, u2⟩ := w3; rw [u1, u2]; clear u1 u2
    exact gx_iret C hr hlk rfl (fin_fd hC (by decide) (by simp only [opBack, non] <;> grind)) dX3_back_13
set_option maxHeartbeats 4000000 in
set_option maxRecDepth 100000 in
theorem c_X3_tear (E : En) (σ : Mm) (K L : Mm) (g : Int32) (F : Nat → Int32) (tl : Int32) (Bt W Z : Nat → Int32) (N : Mm) (hC : CR σ (K, L, g, F, tl, Bt, W, Z, N)) : CtI E yX3_tear cX3_tear 2 (some .int) 0 0 [.ref (eA E 0)] σ (fun rr σ2 => rr = (opTear (K, L, g, F, tl, Bt, W, Z, N)).1 ∧ CR σ2 (opTear (K, L, g, F, tl, Bt, W, Z, N)).2 ∧ FC σ σ2) := by
  obtain ⟨⟨hK, hO⟩, ⟨hg1, hg2, hg3⟩, hFd, ⟨⟨htl, htl2⟩, hBt⟩, hSh⟩ := id hC
  obtain ⟨⟨hn, h12⟩, hpp, hlw, hsp, hz0⟩ := id hO
  refine CtI.of (by decide +kernel) (Nat.le_of_ble_eq_true rfl) (fun p e0 s m below meth c C hr hlk => ?_)
  refine gx_lv (lv' := [(0, .ref (eA E 0))]) rfl ?_
  refine gx_aload_n C dX3_tear_0 (by rfl) (by rfl) ?_
  refine gx_geti (k := 2) C ck3 (by rfl) (by rfl) (by decide) fl_X3_266 dX3_tear_1 ?_
  refine gx_st (st' := [.int g]) (by rw [hg1]) ?_
  refine gx_if_eq (tgt := 11) C dX3_tear_4 (by decide) (fun h1 => ?_) (fun h1 => ?_)
  ·
    refine gx_iconst (v := 0) C dX3_tear_11 (by decide) ?_
    refine gx_istore_n (lv2 := [(1, .int 0), (0, .ref (eA E 0))]) C dX3_tear_12 (by rfl) (by decide) rfl ?_
    refine gx_aload_n C dX3_tear_13 (by rfl) (by rfl) ?_
    refine gx_iconst (v := 0) C dX3_tear_14 (by decide) ?_
    refine gx_puti (k := 2) C ck3 (by rfl) (by rfl) (by decide) (by rfl) (by first | rfl | exact nb_b2 _) (by first | rfl | exact fb_b2 _) fl_X3_266 dX3_tear_15 ?_
    have hK2 : Emp (up2 σ 0 2 0) 13 K := hK.w (by omega)
    refine gx_iload_n C dX3_tear_18 (by rfl) (by rfl) ?_
    exact gx_iret C hr hlk rfl ⟨by simp only [opTear]; grind, hC.tear, FC.rf.up (by omega)⟩ dX3_tear_19
  ·
    refine gx_iconst (v := 1) C dX3_tear_7 (by decide) ?_
    refine gx_goto (tgt := 12) C dX3_tear_8 (by decide) ?_
    refine gx_istore_n (lv2 := [(1, .int 1), (0, .ref (eA E 0))]) C dX3_tear_12 (by rfl) (by decide) rfl ?_
    refine gx_aload_n C dX3_tear_13 (by rfl) (by rfl) ?_
    refine gx_iconst (v := 0) C dX3_tear_14 (by decide) ?_
    refine gx_puti (k := 2) C ck3 (by rfl) (by rfl) (by decide) (by rfl) (by first | rfl | exact nb_b2 _) (by first | rfl | exact fb_b2 _) fl_X3_266 dX3_tear_15 ?_
    have hK3 : Emp (up2 σ 0 2 0) 13 K := hK.w (by omega)
    refine gx_iload_n C dX3_tear_18 (by rfl) (by rfl) ?_
    exact gx_iret C hr hlk rfl ⟨by simp only [opTear]; grind, hC.tear, FC.rf.up (by omega)⟩ dX3_tear_19
set_option maxHeartbeats 4000000 in
set_option maxRecDepth 100000 in
theorem c_X3_count (E : En) (σ : Mm) (K L : Mm) (g : Int32) (F : Nat → Int32) (tl : Int32) (Bt W Z : Nat → Int32) (N : Mm) (hC : CR σ (K, L, g, F, tl, Bt, W, Z, N)) (w : Int32) : CtI E yX3_count cX3_count 2 (some .int) 2 44 [.ref (eA E 0), .int w] σ (fun rr σ2 => rr = (opCount (K, L, g, F, tl, Bt, W, Z, N) w).1 ∧ CR σ2 (opCount (K, L, g, F, tl, Bt, W, Z, N) w).2 ∧ FC σ σ2) := by
  obtain ⟨⟨hK, hO⟩, ⟨hg1, hg2, hg3⟩, hFd, ⟨⟨htl, htl2⟩, hBt⟩, hSh⟩ := id hC
  obtain ⟨⟨hn, h12⟩, hpp, hlw, hsp, hz0⟩ := id hO
  refine CtI.of (by decide +kernel) (Nat.le_of_ble_eq_true rfl) (fun p e0 s m below meth c C hr hlk => ?_)
  refine gx_lv (lv' := [(0, .ref (eA E 0)), (1, .int w)]) rfl ?_
  refine gx_iload_n C dX3_count_0 (by rfl) (by rfl) ?_
  rcases sw_split w (0) 7 8 (by decide) with h1 | h1
  ·
    refine gx_tabOut (tgt := 122) C dX3_count_1 h1 (by decide) ?_
    have qd1 : ¬ w = 0 ∧ ¬ w = 1 ∧ ¬ w = 2 ∧ ¬ w = 3 ∧ ¬ w = 4 ∧ ¬ w = 5 ∧ ¬ w = 6 ∧ ¬ w = 7 := by refine ⟨?_, ?_, ?_, ?_, ?_, ?_, ?_, ?_⟩ <;> (intro q9; rw [q9] at h1; revert h1; decide)
    refine gx_aload_n C dX3_count_122 (by rfl) (by rfl) ?_
    refine gx_ldc C kc_X3_48 dX3_count_123 ?_
    refine gx_callVI (As := [.int (-1000001)]) (rest := []) C (c_X3_found E σ (-1000001) 0 (by decide) (by decide)) z_X3_found ck3 (by rfl) (by rfl) ml_X3_49 (by rfl) (Nat.le_of_ble_eq_true rfl) ⟨Nat.le_of_ble_eq_true rfl, Nat.le_of_ble_eq_true rfl⟩ dX3_count_125 (fun r2 σ2 w2 => ?_)
    obtain ⟨u1, u2⟩ := w2; rw [u1, u2]; clear u1 u2
    exact gx_iret C hr hlk rfl (fin_fd hC (by decide) (by simp only [opCount, bey, ful, knd, non, sta, mis, siz] <;> grind)) dX3_count_128
  ·
    obtain ⟨j1, hj1, ej1⟩ := h1
    have hj1 := hj1
    match j1, hj1, ej1 with
    | 0, _, ej1 =>
      have ex1 : w = (0 : Int32) := ej1.trans (by decide)
      refine gx_tabIn (off := 47) (tgt := 48) C dX3_count_1 (by rw [ex1]; decide) (by rw [ex1]; decide) (by rw [ex1]; decide) (by decide) ?_
      refine gx_aload_n C dX3_count_48 (by rfl) (by rfl) ?_
      refine gx_getr (j := 13) (k := 0) C ck3 (by rfl) (by rfl) (by decide) fl_X3_10 dX3_count_49 ?_
      refine gx_geti (k := 12) C ck0 (by rfl) (by rfl) (by decide) fl_X3_270 dX3_count_52 ?_
      refine gx_st (st' := [.int (K 0 1)]) (by rw [hK.m]) ?_
      exact gx_iret C hr hlk rfl (fin_rd hC (by simp only [opCount, bey, ful, knd, non, sta, mis, siz] <;> grind)) dX3_count_55
    | 1, _, ej1 =>
      have ex1 : w = (1 : Int32) := ej1.trans (by decide)
      refine gx_tabIn (off := 55) (tgt := 56) C dX3_count_1 (by rw [ex1]; decide) (by rw [ex1]; decide) (by rw [ex1]; decide) (by decide) ?_
      refine gx_aload_n C dX3_count_56 (by rfl) (by rfl) ?_
      refine gx_getr (j := 13) (k := 0) C ck3 (by rfl) (by rfl) (by decide) fl_X3_10 dX3_count_57 ?_
      refine gx_geti (k := 11) C ck0 (by rfl) (by rfl) (by decide) fl_X3_90 dX3_count_60 ?_
      refine gx_st (st' := [.int (nI (nn K))]) (by rw [hK.n, hn]) ?_
      exact gx_iret C hr hlk rfl (fin_rd hC (by simp only [opCount, bey, ful, knd, non, sta, mis, siz] <;> grind)) dX3_count_63
    | 2, _, ej1 =>
      have ex1 : w = (2 : Int32) := ej1.trans (by decide)
      refine gx_tabIn (off := 63) (tgt := 64) C dX3_count_1 (by rw [ex1]; decide) (by rw [ex1]; decide) (by rw [ex1]; decide) (by decide) ?_
      refine gx_aload_n C dX3_count_64 (by rfl) (by rfl) ?_
      refine gx_getr (j := 13) (k := 0) C ck3 (by rfl) (by rfl) (by decide) fl_X3_10 dX3_count_65 ?_
      refine gx_callVI (As := []) (rest := []) C (c_X0_thoseOut E σ 13 isE_13 K hK hO) z_X0_thoseOut ck0 (by rfl) (by rfl) ml_X3_173 (by rfl) (Nat.le_of_ble_eq_true rfl) ⟨Nat.le_of_ble_eq_true rfl, Nat.le_of_ble_eq_true rfl⟩ dX3_count_68 (fun r3 σ3 w3 => ?_)
      obtain ⟨u1, u2⟩ := w3; rw [u1, u2]; clear u1 u2
      refine gx_callSI (As := [.int (bset (nn K) (inP K (-1)))]) (rest := []) C (c_J6_bitCount_0f7a4 E σ (bset (nn K) (inP K (-1)))) z_J6_bitCount_0f7a4 (by rfl) ml_X3_67 (by rfl) (Nat.le_of_ble_eq_true rfl) ⟨Nat.le_of_ble_eq_true rfl, Nat.le_of_ble_eq_true rfl⟩ dX3_count_71 (fun r4 σ4 w4 => ?_)
      obtain ⟨u1, u2⟩ := w4; rw [u1, u2]; clear u1 u2
      refine gx_st (st' := [.int (nI (cnt (inP K (-1)) (nn K)))]) (by rw [bitC_bset (n := (nn K)) (P := (inP K (-1))) h12]) ?_
      exact gx_iret C hr hlk rfl (fin_rd hC (by simp only [opCount, bey, ful, knd, non, sta, mis, siz] <;> grind)) dX3_count_74
    | 3, _, ej1 =>
      have ex1 : w = (3 : Int32) := ej1.trans (by decide)
      refine gx_tabIn (off := 74) (tgt := 75) C dX3_count_1 (by rw [ex1]; decide) (by rw [ex1]; decide) (by rw [ex1]; decide) (by decide) ?_
      refine gx_aload_n C dX3_count_75 (by rfl) (by rfl) ?_
      refine gx_getr (j := 13) (k := 0) C ck3 (by rfl) (by rfl) (by decide) fl_X3_10 dX3_count_76 ?_
      refine gx_geti (k := 13) C ck0 (by rfl) (by rfl) (by decide) fl_X3_273 dX3_count_79 ?_
      refine gx_st (st' := [.int (K 0 2)]) (by rw [hK.t]) ?_
      exact gx_iret C hr hlk rfl (fin_rd hC (by simp only [opCount, bey, ful, knd, non, sta, mis, siz] <;> grind)) dX3_count_82
    | 4, _, ej1 =>
      have ex1 : w = (4 : Int32) := ej1.trans (by decide)
      refine gx_tabIn (off := 82) (tgt := 83) C dX3_count_1 (by rw [ex1]; decide) (by rw [ex1]; decide) (by rw [ex1]; decide) (by decide) ?_
      refine gx_aload_n C dX3_count_83 (by rfl) (by rfl) ?_
      refine gx_getr (j := 13) (k := 0) C ck3 (by rfl) (by rfl) (by decide) fl_X3_10 dX3_count_84 ?_
      refine gx_aload_n C dX3_count_87 (by rfl) (by rfl) ?_
      refine gx_getr (j := 13) (k := 0) C ck3 (by rfl) (by rfl) (by decide) fl_X3_10 dX3_count_88 ?_
      refine gx_callVI (As := []) (rest := [.ref (eA E 13)]) C (k_X0_all E σ 13 isE_13 K hK hO) z_X0_all ck0 (by rfl) (by rfl) ml_X3_176 (by rfl) (Nat.le_of_ble_eq_true rfl) ⟨Nat.le_of_ble_eq_true rfl, Nat.le_of_ble_eq_true rfl⟩ dX3_count_91 (fun r5 σ5 w5 => ?_)
      obtain ⟨u1, u2⟩ := w5; rw [u1, u2]; clear u1 u2
      refine gx_callVI (As := [.int (bset (nn K) (fun _ => true))]) (rest := []) C (c_X0_goldOf E σ 13 isE_13 K hK hO (fun _ => true)) z_X0_goldOf ck0 (by rfl) (by rfl) ml_X3_72 (by rfl) (Nat.le_of_ble_eq_true rfl) ⟨Nat.le_of_ble_eq_true rfl, Nat.le_of_ble_eq_true rfl⟩ dX3_count_94 (fun r6 σ6 w6 => ?_)
      obtain ⟨u1, u2⟩ := w6; rw [u1, u2]; clear u1 u2
      exact gx_iret C hr hlk rfl (fin_rd hC (by simp only [opCount, bey, ful, knd, non, sta, mis, siz] <;> grind)) dX3_count_97
    | 5, _, ej1 =>
      have ex1 : w = (5 : Int32) := ej1.trans (by decide)
      refine gx_tabIn (off := 97) (tgt := 98) C dX3_count_1 (by rw [ex1]; decide) (by rw [ex1]; decide) (by rw [ex1]; decide) (by decide) ?_
      refine gx_aload_n C dX3_count_98 (by rfl) (by rfl) ?_
      refine gx_getr (j := 13) (k := 0) C ck3 (by rfl) (by rfl) (by decide) fl_X3_10 dX3_count_99 ?_
      refine gx_callVI (As := []) (rest := []) C (c_X0_withGrudge E σ 13 isE_13 K hK hO) z_X0_withGrudge ck0 (by rfl) (by rfl) ml_X3_210 (by rfl) (Nat.le_of_ble_eq_true rfl) ⟨Nat.le_of_ble_eq_true rfl, Nat.le_of_ble_eq_true rfl⟩ dX3_count_102 (fun r7 σ7 w7 => ?_)
      obtain ⟨u1, u2⟩ := w7; rw [u1, u2]; clear u1 u2
      exact gx_iret C hr hlk rfl (fin_rd hC (by simp only [opCount, bey, ful, knd, non, sta, mis, siz] <;> grind)) dX3_count_105
    | 6, _, ej1 =>
      have ex1 : w = (6 : Int32) := ej1.trans (by decide)
      refine gx_tabIn (off := 105) (tgt := 106) C dX3_count_1 (by rw [ex1]; decide) (by rw [ex1]; decide) (by rw [ex1]; decide) (by decide) ?_
      refine gx_aload_n C dX3_count_106 (by rfl) (by rfl) ?_
      refine gx_getr (j := 3) (k := 4) C ck3 (by rfl) (by rfl) (by decide) fl_X3_25 dX3_count_107 ?_
      refine gx_geti (k := 1) C ck2 (by rfl) (by rfl) (by decide) fl_X3_216 dX3_count_110 ?_
      refine gx_st (st' := [.int tl]) (by rw [htl]) ?_
      exact gx_iret C hr hlk rfl (fin_rd hC (by simp only [opCount, bey, ful, knd, non, sta, mis, siz] <;> grind)) dX3_count_113
    | 7, _, ej1 =>
      have ex1 : w = (7 : Int32) := ej1.trans (by decide)
      refine gx_tabIn (off := 113) (tgt := 114) C dX3_count_1 (by rw [ex1]; decide) (by rw [ex1]; decide) (by rw [ex1]; decide) (by decide) ?_
      refine gx_aload_n C dX3_count_114 (by rfl) (by rfl) ?_
      refine gx_getr (j := 13) (k := 0) C ck3 (by rfl) (by rfl) (by decide) fl_X3_10 dX3_count_115 ?_
      refine gx_geti (k := 14) C ck0 (by rfl) (by rfl) (by decide) fl_X3_213 dX3_count_118 ?_
      refine gx_st (st' := [.int (K 0 3)]) (by rw [hK.z]) ?_
      exact gx_iret C hr hlk rfl (fin_rd hC (by simp only [opCount, bey, ful, knd, non, sta, mis, siz] <;> grind)) dX3_count_121
    | j + 8, hj, _ => exact absurd hj (by omega)
set_option maxHeartbeats 4000000 in
set_option maxRecDepth 100000 in
theorem c_X3_status (E : En) (σ : Mm) (K L : Mm) (g : Int32) (F : Nat → Int32) (tl : Int32) (Bt W Z : Nat → Int32) (N : Mm) (hC : CR σ (K, L, g, F, tl, Bt, W, Z, N)) (w : Int32) : CtI E yX3_status cX3_status 4 (some .int) 2 44 [.ref (eA E 0), .int w] σ (fun rr σ2 => rr = (opStatus (K, L, g, F, tl, Bt, W, Z, N) w).1 ∧ CR σ2 (opStatus (K, L, g, F, tl, Bt, W, Z, N) w).2 ∧ FC σ σ2) := by
  obtain ⟨⟨hK, hO⟩, ⟨hg1, hg2, hg3⟩, hFd, ⟨⟨htl, htl2⟩, hBt⟩, hSh⟩ := id hC
  obtain ⟨⟨hn, h12⟩, hpp, hlw, hsp, hz0⟩ := id hO
  refine CtI.of (by decide +kernel) (Nat.le_of_ble_eq_true rfl) (fun p e0 s m below meth c C hr hlk => ?_)
  refine gx_lv (lv' := [(0, .ref (eA E 0)), (1, .int w)]) rfl ?_
  refine gx_iload_n C dX3_status_0 (by rfl) (by rfl) ?_
  refine gx_iconst (v := (-1)) C dX3_status_1 (by decide) ?_
  refine gx_bipush (v := 6) C dX3_status_2 (by decide) ?_
  refine gx_callSI (As := [.int w, .int (-1), .int 6]) (rest := []) C (c_X3_isWithin E σ w (-1) 6) z_X3_isWithin (by rfl) ml_X3_44 (by rfl) (Nat.le_of_ble_eq_true rfl) ⟨Nat.le_of_ble_eq_true rfl, Nat.le_of_ble_eq_true rfl⟩ dX3_status_4 (fun r1 σ1 w1 => ?_)
  obtain ⟨u1, u2⟩ := w1; rw [u1, u2]; clear u1 u2
  refine gx_if_ne (tgt := 17) C dX3_status_7 (by decide) (fun h2 => ?_) (fun h2 => ?_)
  ·
    have h2 := b2_nz.mp h2
    refine gx_iload_n C dX3_status_17 (by rfl) (by rfl) ?_
    refine gx_if_lt (tgt := 28) C dX3_status_18 (by decide) (fun h3 => ?_) (fun h3 => ?_)
    ·
      refine gx_iconst (v := 0) C dX3_status_28 (by decide) ?_
      refine gx_istore_n (lv2 := [(2, .int 0), (0, .ref (eA E 0)), (1, .int w)]) C dX3_status_29 (by rfl) (by decide) rfl ?_
      refine gx_iconst (v := 0) C dX3_status_30 (by decide) ?_
      refine gx_istore_n (lv2 := [(3, .int 0), (2, .int 0), (0, .ref (eA E 0)), (1, .int w)]) C dX3_status_31 (by rfl) (by decide) rfl ?_
      have loop32 : ∀ (kf i : Nat), i ≤ 7 → 7 < i + kf → Gx E p e0 (rmF 2 44) s m ([.ref (eA E 0), .int w] : List Value).toArray below meth c (MQ below (va_Qi (fun rr σ2 => rr = (opStatus (K, L, g, F, tl, Bt, W, Z, N) w).1 ∧ CR σ2 (opStatus (K, L, g, F, tl, Bt, W, Z, N) w).2 ∧ FC σ σ2) (WQ E) (AA E s.heap.size)) ([.ref (eA E 0), .int w] : List Value).toArray s 0 0 (AA E s.heap.size)) 4 32 [(0, .ref (eA E 0)), (1, .int w), (2, .int (sumN F i)), (3, .int (nI i))] [] σ := by
        intro kf
        induction kf with
        | zero => intro i q1 q2; exact absurd q2 (by omega)
        | succ kf ih32 =>
          intro i a32 b32
          refine gx_iload_n C dX3_status_32 (by rfl) (by rfl) ?_
          refine gx_bipush (v := 7) C dX3_status_33 (by decide) ?_
          refine gx_icmp_ge (tgt := 53) C dX3_status_35 (by decide) (fun h4 => ?_) (fun h4 => ?_)
          ·
            have h4 := (nI_leI (a := 7) (b := i) (by omega) (by omega)).mp h4
            refine gx_iload_n C dX3_status_53 (by rfl) (by rfl) ?_
            exact gx_iret C hr hlk rfl (fin_rd hC (by have q1 : i = 7 := (by omega); subst q1; simp only [opStatus, bey] <;> grind)) dX3_status_54
          ·
            have h4 := (not_congr (nI_leI (a := 7) (b := i) (by omega) (by omega))).mp h4
            refine gx_iload_n C dX3_status_38 (by rfl) (by rfl) ?_
            refine gx_aload_n C dX3_status_39 (by rfl) (by rfl) ?_
            refine gx_getr (j := 1) (k := 6) C ck3 (by rfl) (by rfl) (by decide) fl_X3_35 dX3_status_40 ?_
            refine gx_iload_n C dX3_status_43 (by rfl) (by rfl) ?_
            refine gx_ialdN (k := i) C (by rfl) rfl (by omega) (by decide) dX3_status_44 ?_
            refine gx_st (st' := [.int (F i), .int (sumN F i)]) (by rw [hFd i (by omega)]) ?_
            refine gx_iadd C dX3_status_45 ?_
            refine gx_istore_n (lv2 := [(2, .int ((sumN F i) + (F i))), (0, .ref (eA E 0)), (1, .int w), (3, .int (nI i))]) C dX3_status_46 (by rfl) (by decide) rfl ?_
            refine gx_iinc (v := nI (i + 1)) (lv2 := [(3, .int (nI (i + 1))), (2, .int ((sumN F i) + (F i))), (0, .ref (eA E 0)), (1, .int w)]) C dX3_status_47 (by rfl) (by exact nI_p1 _) (by decide) rfl ?_
            refine gx_goto (tgt := 32) C dX3_status_50 (by decide) ?_
            refine gx_sub [2, 3, 1, 0] (lv' := [(0, .ref (eA E 0)), (1, .int w), (2, .int ((sumN F i) + (F i))), (3, .int (nI (i + 1)))]) rfl ?_
            refine gx_lv (lv' := [(0, .ref (eA E 0)), (1, .int w), (2, .int (sumN F (i + 1))), (3, .int (nI (i + 1)))]) (by rw [sumN]) ?_
            exact ih32 (i + 1) (by omega) (by omega)
      refine gx_sub [2, 3, 1, 0] (lv' := [(0, .ref (eA E 0)), (1, .int w), (2, .int 0), (3, .int 0)]) rfl ?_
      refine gx_lv (lv' := [(0, .ref (eA E 0)), (1, .int w), (2, .int (sumN F 0)), (3, .int (nI 0))]) (by rfl) ?_
      exact loop32 (7 + 1) 0 (by omega) (by omega)
    ·
      obtain ⟨k, hk, rfl⟩ := i_nat (M := 6) (n := 6) (by decide) ⟨Int32.not_lt.mp h3, by grind⟩
      have ck : (nI k).toNatClampNeg = k := nI_clamp (by omega)
      refine gx_aload_n C dX3_status_21 (by rfl) (by rfl) ?_
      refine gx_getr (j := 1) (k := 6) C ck3 (by rfl) (by rfl) (by decide) fl_X3_35 dX3_status_22 ?_
      refine gx_iload_n C dX3_status_25 (by rfl) (by rfl) ?_
      refine gx_ialdN (k := k) C (by rfl) rfl (by omega) (by decide) dX3_status_26 ?_
      refine gx_st (st' := [.int (F k)]) (by rw [hFd k (by omega)]) ?_
      exact gx_iret C hr hlk rfl (fin_rd hC (by simp only [opStatus, bey, ful, knd, non, sta, mis, siz] <;> grind)) dX3_status_27
  ·
    have h2 := b2_z.mp h2
    refine gx_aload_n C dX3_status_10 (by rfl) (by rfl) ?_
    refine gx_ldc C kc_X3_48 dX3_status_11 ?_
    refine gx_callVI (As := [.int (-1000001)]) (rest := []) C (c_X3_found E σ (-1000001) 0 (by decide) (by decide)) z_X3_found ck3 (by rfl) (by rfl) ml_X3_49 (by rfl) (Nat.le_of_ble_eq_true rfl) ⟨Nat.le_of_ble_eq_true rfl, Nat.le_of_ble_eq_true rfl⟩ dX3_status_13 (fun r5 σ5 w5 => ?_)
    obtain ⟨u1, u2⟩ := w5; rw [u1, u2]; clear u1 u2
    exact gx_iret C hr hlk rfl (fin_fd hC (by decide) (by simp only [opStatus, bey, ful, knd, non, sta, mis, siz] <;> grind)) dX3_status_16
set_option maxHeartbeats 4000000 in
set_option maxRecDepth 100000 in
theorem c_X3_wipe (E : En) (σ : Mm) (K L : Mm) (g : Int32) (F : Nat → Int32) (tl : Int32) (Bt W Z : Nat → Int32) (N : Mm) (hC : CR σ (K, L, g, F, tl, Bt, W, Z, N)) : CtI E yX3_wipe cX3_wipe 2 (some .int) 0 0 [.ref (eA E 0)] σ (fun rr σ2 => rr = (opWipe (K, L, g, F, tl, Bt, W, Z, N)).1 ∧ CR σ2 (opWipe (K, L, g, F, tl, Bt, W, Z, N)).2 ∧ FC σ σ2) := by
  obtain ⟨⟨hK, hO⟩, ⟨hg1, hg2, hg3⟩, hFd, ⟨⟨htl, htl2⟩, hBt⟩, hSh⟩ := id hC
  obtain ⟨⟨hn, h12⟩, hpp, hlw, hsp, hz0⟩ := id hO
  refine CtI.of (by decide +kernel) (Nat.le_of_ble_eq_true rfl) (fun p e0 s m below meth c C hr hlk => ?_)
  refine gx_lv (lv' := [(0, .ref (eA E 0))]) rfl ?_
  refine gx_aload_n C dX3_wipe_0 (by rfl) (by rfl) ?_
  refine gx_getr (j := 3) (k := 4) C ck3 (by rfl) (by rfl) (by decide) fl_X3_25 dX3_wipe_1 ?_
  refine gx_geti (k := 1) C ck2 (by rfl) (by rfl) (by decide) fl_X3_216 dX3_wipe_4 ?_
  refine gx_st (st' := [.int tl]) (by rw [htl]) ?_
  refine gx_istore_n (lv2 := [(1, .int tl), (0, .ref (eA E 0))]) C dX3_wipe_7 (by rfl) (by decide) rfl ?_
  refine gx_aload_n C dX3_wipe_8 (by rfl) (by rfl) ?_
  refine gx_getr (j := 3) (k := 4) C ck3 (by rfl) (by rfl) (by decide) fl_X3_25 dX3_wipe_9 ?_
  refine gx_iconst (v := 0) C dX3_wipe_12 (by decide) ?_
  refine gx_puti (k := 1) C ck2 (by rfl) (by rfl) (by decide) (by rfl) rfl rfl fl_X3_216 dX3_wipe_13 ?_
  have hK1 : Emp (up2 σ 3 1 0) 13 K := hK.w (by omega)
  refine gx_iload_n C dX3_wipe_16 (by rfl) (by rfl) ?_
  exact gx_iret C hr hlk rfl ⟨rfl, hC.tape (fun i h1 h2 => up2_o h1) (by rw [up2_s]; simp [upd]) ⟨0, by omega, rfl⟩ (fun i hi => by rw [up2_o (by omega)]; exact hBt i hi), FC.rf.up (by omega)⟩ dX3_wipe_17
set_option maxHeartbeats 4000000 in
set_option maxRecDepth 100000 in
theorem c_X3_safe (E : En) (σ : Mm) (K L : Mm) (g : Int32) (F : Nat → Int32) (tl : Int32) (Bt W Z : Nat → Int32) (N : Mm) (hC : CR σ (K, L, g, F, tl, Bt, W, Z, N)) : CtI E yX3_safe cX3_safe 5 (some .int) 4 90 [.ref (eA E 0)] σ (fun rr σ2 => rr = (opSafe (K, L, g, F, tl, Bt, W, Z, N)).1 ∧ CR σ2 (opSafe (K, L, g, F, tl, Bt, W, Z, N)).2 ∧ FC σ σ2) := by
  obtain ⟨⟨hK, hO⟩, ⟨hg1, hg2, hg3⟩, hFd, ⟨⟨htl, htl2⟩, hBt⟩, hSh⟩ := id hC
  obtain ⟨⟨hn, h12⟩, hpp, hlw, hsp, hz0⟩ := id hO
  refine CtI.of (by decide +kernel) (Nat.le_of_ble_eq_true rfl) (fun p e0 s m below meth c C hr hlk => ?_)
  refine gx_lv (lv' := [(0, .ref (eA E 0))]) rfl ?_
  refine gx_aload_n C dX3_safe_0 (by rfl) (by rfl) ?_
  refine gx_getr (j := 13) (k := 0) C ck3 (by rfl) (by rfl) (by decide) fl_X3_10 dX3_safe_1 ?_
  refine gx_callVI (As := []) (rest := []) C (c_X0_counting E σ 13 isE_13 K hK hO) z_X0_counting ck0 (by rfl) (by rfl) ml_X3_63 (by rfl) (Nat.le_of_ble_eq_true rfl) ⟨Nat.le_of_ble_eq_true rfl, Nat.le_of_ble_eq_true rfl⟩ dX3_safe_4 (fun r1 σ1 w1 => ?_)
  obtain ⟨u1, u2⟩ := w1; rw [u1, u2]; clear u1 u2
  refine gx_istore_n (lv2 := [(1, .int (bset (nn K) (cgP K))), (0, .ref (eA E 0))]) C dX3_safe_7 (by rfl) (by decide) rfl ?_
  refine gx_iconst (v := 0) C dX3_safe_8 (by decide) ?_
  refine gx_istore_n (lv2 := [(2, .int 0), (1, .int (bset (nn K) (cgP K))), (0, .ref (eA E 0))]) C dX3_safe_9 (by rfl) (by decide) rfl ?_
  refine gx_iconst (v := 0) C dX3_safe_10 (by decide) ?_
  refine gx_istore_n (lv2 := [(3, .int 0), (2, .int 0), (1, .int (bset (nn K) (cgP K))), (0, .ref (eA E 0))]) C dX3_safe_11 (by rfl) (by decide) rfl ?_
  have loop12 : ∀ (kf i : Nat), i ≤ nn K → nn K < i + kf → Gx E p e0 (rmF 4 90) s m ([.ref (eA E 0)] : List Value).toArray below meth c (MQ below (va_Qi (fun rr σ2 => rr = (opSafe (K, L, g, F, tl, Bt, W, Z, N)).1 ∧ CR σ2 (opSafe (K, L, g, F, tl, Bt, W, Z, N)).2 ∧ FC σ σ2) (WQ E) (AA E s.heap.size)) ([.ref (eA E 0)] : List Value).toArray s 0 0 (AA E s.heap.size)) 5 12 [(0, .ref (eA E 0)), (1, .int (bset (nn K) (cgP K))), (2, .int (bset i (sfP K))), (3, .int (nI i))] [] σ := by
    intro kf
    induction kf with
    | zero => intro i q1 q2; exact absurd q2 (by omega)
    | succ kf ih12 =>
      intro i a12 b12
      refine gx_iload_n C dX3_safe_12 (by rfl) (by rfl) ?_
      refine gx_aload_n C dX3_safe_13 (by rfl) (by rfl) ?_
      refine gx_getr (j := 13) (k := 0) C ck3 (by rfl) (by rfl) (by decide) fl_X3_10 dX3_safe_14 ?_
      refine gx_geti (k := 11) C ck0 (by rfl) (by rfl) (by decide) fl_X3_90 dX3_safe_17 ?_
      refine gx_st (st' := [.int (nI (nn K)), .int (nI i)]) (by rw [hK.n, hn]) ?_
      refine gx_icmp_ge (tgt := 84) C dX3_safe_20 (by decide) (fun h2 => ?_) (fun h2 => ?_)
      ·
        have h2 := (nI_leI (a := (nn K)) (b := i) (by omega) (by omega)).mp h2
        refine gx_iload_n C dX3_safe_84 (by rfl) (by rfl) ?_
        exact gx_iret C hr hlk rfl (fin_rd hC (by have q1 : i = nn K := (by omega); rw [q1]; rfl)) dX3_safe_85
      ·
        have h2 := (not_congr (nI_leI (a := (nn K)) (b := i) (by omega) (by omega))).mp h2
        refine gx_aload_n C dX3_safe_23 (by rfl) (by rfl) ?_
        refine gx_getr (j := 13) (k := 0) C ck3 (by rfl) (by rfl) (by decide) fl_X3_10 dX3_safe_24 ?_
        refine gx_iload_n C dX3_safe_27 (by rfl) (by rfl) ?_
        refine gx_iload_n C dX3_safe_28 (by rfl) (by rfl) ?_
        refine gx_callVI (As := [.int (nI i), .int (bset (nn K) (cgP K))]) (rest := []) C (c_X0_judgesOf E σ 13 isE_13 K hK hO i (by omega)) z_X0_judgesOf ck0 (by rfl) (by rfl) ml_X3_147 (by rfl) (Nat.le_of_ble_eq_true rfl) ⟨Nat.le_of_ble_eq_true rfl, Nat.le_of_ble_eq_true rfl⟩ dX3_safe_29 (fun r3 σ3 w3 => ?_)
        obtain ⟨u1, u2⟩ := w3; rw [u1, u2]; clear u1 u2
        refine gx_istore (lv2 := [(4, .int (bset (nn K) (blP K i))), (0, .ref (eA E 0)), (1, .int (bset (nn K) (cgP K))), (2, .int (bset i (sfP K))), (3, .int (nI i))]) C dX3_safe_32 (by decide) rfl ?_
        refine gx_aload_n C dX3_safe_34 (by rfl) (by rfl) ?_
        refine gx_getr (j := 13) (k := 0) C ck3 (by rfl) (by rfl) (by decide) fl_X3_10 dX3_safe_35 ?_
        refine gx_getr (j := 15) (k := 1) C ck0 (by rfl) (by rfl) (by decide) fl_X3_105 dX3_safe_38 ?_
        refine gx_iload_n C dX3_safe_41 (by rfl) (by rfl) ?_
        refine gx_ialdN (k := i) C (by rfl) rfl (by omega) (by decide) dX3_safe_42 ?_
        refine gx_st (st' := [.int (K 2 i)]) (by rw [hK.r2 (p := i) (by omega)]) ?_
        refine gx_iconst (v := (-1)) C dX3_safe_43 (by decide) ?_
        refine gx_icmp_eq (tgt := 78) C dX3_safe_44 (by decide) (fun h4 => ?_) (fun h4 => ?_)
        ·
          refine gx_iinc (v := nI (i + 1)) (lv2 := [(3, .int (nI (i + 1))), (4, .int (bset (nn K) (blP K i))), (0, .ref (eA E 0)), (1, .int (bset (nn K) (cgP K))), (2, .int (bset i (sfP K)))]) C dX3_safe_78 (by rfl) (by exact nI_p1 _) (by decide) rfl ?_
          refine gx_goto (tgt := 12) C dX3_safe_81 (by decide) ?_
          refine gx_sub [2, 3, 4, 0] (lv' := [(0, .ref (eA E 0)), (1, .int (bset (nn K) (cgP K))), (2, .int (bset i (sfP K))), (3, .int (nI (i + 1)))]) rfl ?_
          refine gx_lv (lv' := [(0, .ref (eA E 0)), (1, .int (bset (nn K) (cgP K))), (2, .int (bset (i + 1) (sfP K))), (3, .int (nI (i + 1)))]) (by rw [bset_f (n := i) (P := sfP K) (by omega) (by simp only [sfP]; grind)]) ?_
          exact ih12 (i + 1) (by omega) (by omega)
        ·
          refine gx_aload_n C dX3_safe_47 (by rfl) (by rfl) ?_
          refine gx_getr (j := 13) (k := 0) C ck3 (by rfl) (by rfl) (by decide) fl_X3_10 dX3_safe_48 ?_
          refine gx_aload_n C dX3_safe_51 (by rfl) (by rfl) ?_
          refine gx_getr (j := 13) (k := 0) C ck3 (by rfl) (by rfl) (by decide) fl_X3_10 dX3_safe_52 ?_
          refine gx_iload C dX3_safe_55 (by rfl) ?_
          refine gx_iload_n C dX3_safe_57 (by rfl) (by rfl) ?_
          refine gx_callVI (As := [.int (bset (nn K) (blP K i)), .int (nI i)]) (rest := [.ref (eA E 13)]) C (c_X0_howManyMayWant E σ 13 isE_13 K hK hO (blP K i) i (by omega)) z_X0_howManyMayWant ck0 (by rfl) (by rfl) ml_X3_204 (by rfl) (Nat.le_of_ble_eq_true rfl) ⟨Nat.le_of_ble_eq_true rfl, Nat.le_of_ble_eq_true rfl⟩ dX3_safe_58 (fun r5 σ5 w5 => ?_)
          obtain ⟨u1, u2⟩ := w5; rw [u1, u2]; clear u1 u2
          refine gx_iload C dX3_safe_61 (by rfl) ?_
          refine gx_callSI (As := [.int (bset (nn K) (blP K i))]) (rest := [.int (nI (cnt (fun p => (blP K i) p && mwP K i p) (nn K))), .ref (eA E 13)]) C (c_J6_bitCount_0f7a4 E σ (bset (nn K) (blP K i))) z_J6_bitCount_0f7a4 (by rfl) ml_X3_67 (by rfl) (Nat.le_of_ble_eq_true rfl) ⟨Nat.le_of_ble_eq_true rfl, Nat.le_of_ble_eq_true rfl⟩ dX3_safe_63 (fun r6 σ6 w6 => ?_)
          obtain ⟨u1, u2⟩ := w6; rw [u1, u2]; clear u1 u2
          refine gx_st (st' := [.int (nI (cnt (blP K i) (nn K))), .int (nI (cnt (fun p => (blP K i) p && mwP K i p) (nn K))), .ref (eA E 13)]) (by rw [bitC_bset (n := (nn K)) (P := (blP K i)) h12]) ?_
          refine gx_callVI (As := [.int (nI (cnt (fun p => (blP K i) p && mwP K i p) (nn K))), .int (nI (cnt (blP K i) (nn K)))]) (rest := []) C (c_X0_isEnough E σ 13 isE_13 K hK hO (nI (cnt (fun p => (blP K i) p && mwP K i p) (nn K))) (nI (cnt (blP K i) (nn K)))) z_X0_isEnough ck0 (by rfl) (by rfl) ml_X3_153 (by rfl) (Nat.le_of_ble_eq_true rfl) ⟨Nat.le_of_ble_eq_true rfl, Nat.le_of_ble_eq_true rfl⟩ dX3_safe_66 (fun r7 σ7 w7 => ?_)
          obtain ⟨u1, u2⟩ := w7; rw [u1, u2]; clear u1 u2
          refine gx_if_ne (tgt := 78) C dX3_safe_69 (by decide) (fun h8 => ?_) (fun h8 => ?_)
          ·
            have h8 := b2_nz.mp h8
            refine gx_iinc (v := nI (i + 1)) (lv2 := [(3, .int (nI (i + 1))), (4, .int (bset (nn K) (blP K i))), (0, .ref (eA E 0)), (1, .int (bset (nn K) (cgP K))), (2, .int (bset i (sfP K)))]) C dX3_safe_78 (by rfl) (by exact nI_p1 _) (by decide) rfl ?_
            refine gx_goto (tgt := 12) C dX3_safe_81 (by decide) ?_
            refine gx_sub [2, 3, 4, 0] (lv' := [(0, .ref (eA E 0)), (1, .int (bset (nn K) (cgP K))), (2, .int (bset i (sfP K))), (3, .int (nI (i + 1)))]) rfl ?_
            refine gx_lv (lv' := [(0, .ref (eA E 0)), (1, .int (bset (nn K) (cgP K))), (2, .int (bset (i + 1) (sfP K))), (3, .int (nI (i + 1)))]) (by rw [bset_f (n := i) (P := sfP K) (by omega) (by simp only [sfP]; grind)]) ?_
            exact ih12 (i + 1) (by omega) (by omega)
          ·
            have h8 := b2_z.mp h8
            refine gx_iload_n C dX3_safe_72 (by rfl) (by rfl) ?_
            refine gx_iconst (v := 1) C dX3_safe_73 (by decide) ?_
            refine gx_iload_n C dX3_safe_74 (by rfl) (by rfl) ?_
            refine gx_ishl C dX3_safe_75 ?_
            refine gx_ior C dX3_safe_76 ?_
            refine gx_istore_n (lv2 := [(2, .int ((bset i (sfP K)) ||| (1 <<< ((nI i) &&& 31)))), (4, .int (bset (nn K) (blP K i))), (0, .ref (eA E 0)), (1, .int (bset (nn K) (cgP K))), (3, .int (nI i))]) C dX3_safe_77 (by rfl) (by decide) rfl ?_
            refine gx_iinc (v := nI (i + 1)) (lv2 := [(3, .int (nI (i + 1))), (2, .int ((bset i (sfP K)) ||| (1 <<< ((nI i) &&& 31)))), (4, .int (bset (nn K) (blP K i))), (0, .ref (eA E 0)), (1, .int (bset (nn K) (cgP K)))]) C dX3_safe_78 (by rfl) (by exact nI_p1 _) (by decide) rfl ?_
            refine gx_goto (tgt := 12) C dX3_safe_81 (by decide) ?_
            refine gx_sub [3, 4, 1, 0] (lv' := [(0, .ref (eA E 0)), (1, .int (bset (nn K) (cgP K))), (2, .int ((bset i (sfP K)) ||| (1 <<< ((nI i) &&& 31)))), (3, .int (nI (i + 1)))]) rfl ?_
            refine gx_lv (lv' := [(0, .ref (eA E 0)), (1, .int (bset (nn K) (cgP K))), (2, .int (bset (i + 1) (sfP K))), (3, .int (nI (i + 1)))]) (by rw [bset_t (n := i) (P := sfP K) (by omega) (by simp only [sfP]; grind)]) ?_
            exact ih12 (i + 1) (by omega) (by omega)
  refine gx_sub [3, 2, 1, 0] (lv' := [(0, .ref (eA E 0)), (1, .int (bset (nn K) (cgP K))), (2, .int 0), (3, .int 0)]) rfl ?_
  refine gx_lv (lv' := [(0, .ref (eA E 0)), (1, .int (bset (nn K) (cgP K))), (2, .int (bset 0 (sfP K))), (3, .int (nI 0))]) (by rfl) ?_
  exact loop12 (nn K + 1) 0 (by omega) (by omega)
set_option maxHeartbeats 4000000 in
set_option maxRecDepth 100000 in
theorem c_X3_undo (E : En) (σ : Mm) (K L : Mm) (g : Int32) (F : Nat → Int32) (tl : Int32) (Bt W Z : Nat → Int32) (N : Mm) (hC : CR σ (K, L, g, F, tl, Bt, W, Z, N)) (q n : Int32) : CtI E yX3_undo cX3_undo 5 (some .int) 6 137 [.ref (eA E 0), .int q, .int n] σ (fun rr σ2 => rr = (opUndo (K, L, g, F, tl, Bt, W, Z, N) q n).1 ∧ CR σ2 (opUndo (K, L, g, F, tl, Bt, W, Z, N) q n).2 ∧ FC σ σ2) := by
  obtain ⟨⟨hK, hO⟩, ⟨hg1, hg2, hg3⟩, hFd, ⟨⟨htl, htl2⟩, hBt⟩, hSh⟩ := id hC
  obtain ⟨⟨hn, h12⟩, hpp, hlw, hsp, hz0⟩ := id hO
  refine CtI.of (by decide +kernel) (Nat.le_of_ble_eq_true rfl) (fun p e0 s m below meth c C hr hlk => ?_)
  refine gx_lv (lv' := [(0, .ref (eA E 0)), (1, .int q), (2, .int n)]) rfl ?_
  refine gx_aload_n C dX3_undo_0 (by rfl) (by rfl) ?_
  refine gx_getr (j := 13) (k := 0) C ck3 (by rfl) (by rfl) (by decide) fl_X3_10 dX3_undo_1 ?_
  refine gx_iload_n C dX3_undo_4 (by rfl) (by rfl) ?_
  refine gx_callVI (As := [.int q]) (rest := []) C (k_X0_has E σ 13 isE_13 K hK hO q) z_X0_has ck0 (by rfl) (by rfl) ml_X3_99 (by rfl) (Nat.le_of_ble_eq_true rfl) ⟨Nat.le_of_ble_eq_true rfl, Nat.le_of_ble_eq_true rfl⟩ dX3_undo_5 (fun r1 σ1 w1 => ?_)
  obtain ⟨u1, u2⟩ := w1; rw [u1, u2]; clear u1 u2
  refine gx_if_eq (tgt := 21) C dX3_undo_8 (by decide) (fun h2 => ?_) (fun h2 => ?_)
  ·
    have h2 := b2_z.mp h2
    refine gx_aload_n C dX3_undo_21 (by rfl) (by rfl) ?_
    refine gx_ldc C kc_X3_48 dX3_undo_22 ?_
    refine gx_callVI (As := [.int (-1000001)]) (rest := []) C (c_X3_found E σ (-1000001) 0 (by decide) (by decide)) z_X3_found ck3 (by rfl) (by rfl) ml_X3_49 (by rfl) (Nat.le_of_ble_eq_true rfl) ⟨Nat.le_of_ble_eq_true rfl, Nat.le_of_ble_eq_true rfl⟩ dX3_undo_24 (fun r3 σ3 w3 => ?_)
    obtain ⟨u1, u2⟩ := w3; rw [u1, u2]; clear u1 u2
    exact gx_iret C hr hlk rfl (fin_fd hC (by decide) (by simp only [opUndo, bey, ful, knd, non, sta, mis, siz] <;> grind)) dX3_undo_27
  ·
    have h2 := b2_nz.mp h2
    obtain ⟨k, hk, rfl⟩ := has_nat hO h2
    have ck : (nI k).toNatClampNeg = k := nI_clamp (by omega)
    refine gx_iload_n C dX3_undo_11 (by rfl) (by rfl) ?_
    refine gx_iconst (v := 1) C dX3_undo_12 (by decide) ?_
    refine gx_bipush (v := 60) C dX3_undo_13 (by decide) ?_
    refine gx_callSI (As := [.int n, .int 1, .int 60]) (rest := []) C (c_X3_isWithin E σ n 1 60) z_X3_isWithin (by rfl) ml_X3_44 (by rfl) (Nat.le_of_ble_eq_true rfl) ⟨Nat.le_of_ble_eq_true rfl, Nat.le_of_ble_eq_true rfl⟩ dX3_undo_15 (fun r4 σ4 w4 => ?_)
    obtain ⟨u1, u2⟩ := w4; rw [u1, u2]; clear u1 u2
    refine gx_if_ne (tgt := 28) C dX3_undo_18 (by decide) (fun h5 => ?_) (fun h5 => ?_)
    ·
      have h5 := b2_nz.mp h5
      obtain ⟨t, ht, rfl⟩ := i_nat (M := 60) (n := 60) (by decide) ⟨Int32.le_trans (by decide) h5.1, h5.2⟩
      have ct : (nI t).toNatClampNeg = t := nI_clamp (by omega)
      refine gx_aload_n C dX3_undo_28 (by rfl) (by rfl) ?_
      refine gx_getr (j := 13) (k := 0) C ck3 (by rfl) (by rfl) (by decide) fl_X3_10 dX3_undo_29 ?_
      refine gx_getr (j := 15) (k := 1) C ck0 (by rfl) (by rfl) (by decide) fl_X3_105 dX3_undo_32 ?_
      refine gx_iload_n C dX3_undo_35 (by rfl) (by rfl) ?_
      refine gx_ialdN (k := k) C (by rfl) rfl (by omega) (by decide) dX3_undo_36 ?_
      refine gx_st (st' := [.int (K 2 k)]) (by rw [hK.r2 (p := k) (by omega)]) ?_
      refine gx_iconst (v := (-1)) C dX3_undo_37 (by decide) ?_
      refine gx_icmp_eq (tgt := 49) C dX3_undo_38 (by decide) (fun h6 => ?_) (fun h6 => ?_)
      ·
        refine gx_aload_n C dX3_undo_49 (by rfl) (by rfl) ?_
        refine gx_ldc C kc_X3_56 dX3_undo_50 ?_
        refine gx_callVI (As := [.int (-1000005)]) (rest := []) C (c_X3_found E σ (-1000005) 4 (by decide) (by decide)) z_X3_found ck3 (by rfl) (by rfl) ml_X3_49 (by rfl) (Nat.le_of_ble_eq_true rfl) ⟨Nat.le_of_ble_eq_true rfl, Nat.le_of_ble_eq_true rfl⟩ dX3_undo_52 (fun r7 σ7 w7 => ?_)
        obtain ⟨u1, u2⟩ := w7; rw [u1, u2]; clear u1 u2
        exact gx_iret C hr hlk rfl (fin_fd hC (by decide) (by simp only [opUndo, bey, ful, knd, non, sta, mis, siz] <;> grind)) dX3_undo_55
      ·
        refine gx_aload_n C dX3_undo_41 (by rfl) (by rfl) ?_
        refine gx_iload_n C dX3_undo_42 (by rfl) (by rfl) ?_
        refine gx_callVI (As := [.int (nI t)]) (rest := []) C (c_X3_isTooLate E σ K hK (nI t)) z_X3_isTooLate ck3 (by rfl) (by rfl) ml_X3_163 (by rfl) (Nat.le_of_ble_eq_true rfl) ⟨Nat.le_of_ble_eq_true rfl, Nat.le_of_ble_eq_true rfl⟩ dX3_undo_43 (fun r8 σ8 w8 => ?_)
        obtain ⟨u1, u2⟩ := w8; rw [u1, u2]; clear u1 u2
        refine gx_if_eq (tgt := 56) C dX3_undo_46 (by decide) (fun h9 => ?_) (fun h9 => ?_)
        ·
          have h9 := b2_z.mp h9
          refine gx_iconst (v := 0) C dX3_undo_56 (by decide) ?_
          refine gx_istore_n (lv2 := [(3, .int 0), (0, .ref (eA E 0)), (1, .int (nI k)), (2, .int (nI t))]) C dX3_undo_57 (by rfl) (by decide) rfl ?_
          refine gx_iconst (v := 0) C dX3_undo_58 (by decide) ?_
          refine gx_istore (lv2 := [(4, .int 0), (3, .int 0), (0, .ref (eA E 0)), (1, .int (nI k)), (2, .int (nI t))]) C dX3_undo_59 (by decide) rfl ?_
          have loop61 : ∀ (kf i : Nat), i ≤ nn K → nn K < i + kf → ∀ τ : Mm, (Fr 37 σ τ) → Gx E p e0 (rmF 6 137) s m ([.ref (eA E 0), .int (nI k), .int (nI t)] : List Value).toArray below meth c (MQ below (va_Qi (fun rr σ2 => rr = (opUndo (K, L, g, F, tl, Bt, W, Z, N) (nI k) (nI t)).1 ∧ CR σ2 (opUndo (K, L, g, F, tl, Bt, W, Z, N) (nI k) (nI t)).2 ∧ FC σ σ2) (WQ E) (AA E s.heap.size)) ([.ref (eA E 0), .int (nI k), .int (nI t)] : List Value).toArray s 0 0 (AA E s.heap.size)) 5 61 [(0, .ref (eA E 0)), (1, .int (nI k)), (2, .int (nI t)), (3, .int (bset i (unP K k t))), (4, .int (nI i))] [] τ := by
            intro kf
            induction kf with
            | zero => intro i q1 q2; exact absurd q2 (by omega)
            | succ kf ih61 =>
              intro i a61 b61 τ hFt
              have hKn := Emp.fr (e2 := 37) hK hFt (by decide)
              refine gx_iload C dX3_undo_61 (by rfl) ?_
              refine gx_aload_n C dX3_undo_63 (by rfl) (by rfl) ?_
              refine gx_getr (j := 13) (k := 0) C ck3 (by rfl) (by rfl) (by decide) fl_X3_10 dX3_undo_64 ?_
              refine gx_geti (k := 11) C ck0 (by rfl) (by rfl) (by decide) fl_X3_90 dX3_undo_67 ?_
              refine gx_st (st' := [.int (nI (nn K)), .int (nI i)]) (by rw [hKn.n, hn]) ?_
              refine gx_icmp_ge (tgt := 139) C dX3_undo_70 (by decide) (fun h10 => ?_) (fun h10 => ?_)
              ·
                have h10 := (nI_leI (a := (nn K)) (b := i) (by omega) (by omega)).mp h10
                refine gx_iload_n C dX3_undo_139 (by rfl) (by rfl) ?_
                exact gx_iret C hr hlk rfl (fin_try hC hFt (by have q1 : i = nn K := (by omega); subst q1; simp only [opUndo, ck, ct, bey, sta] <;> grind)) dX3_undo_140
              ·
                have h10 := (not_congr (nI_leI (a := (nn K)) (b := i) (by omega) (by omega))).mp h10
                refine gx_iload C dX3_undo_73 (by rfl) ?_
                refine gx_iload_n C dX3_undo_75 (by rfl) (by rfl) ?_
                refine gx_icmp_eq (tgt := 133) C dX3_undo_76 (by decide) (fun h11 => ?_) (fun h11 => ?_)
                ·
                  have h11 := (nI_eq (a := i) (b := k) (by omega) (by omega)).mp h11
                  refine gx_iinc (v := nI (i + 1)) (lv2 := [(4, .int (nI (i + 1))), (0, .ref (eA E 0)), (1, .int (nI k)), (2, .int (nI t)), (3, .int (bset i (unP K k t)))]) C dX3_undo_133 (by rfl) (by exact nI_p1 _) (by decide) rfl ?_
                  refine gx_goto (tgt := 61) C dX3_undo_136 (by decide) ?_
                  refine gx_sub [1, 2, 3, 4, 0] (lv' := [(0, .ref (eA E 0)), (1, .int (nI k)), (2, .int (nI t)), (3, .int (bset i (unP K k t))), (4, .int (nI (i + 1)))]) rfl ?_
                  refine gx_lv (lv' := [(0, .ref (eA E 0)), (1, .int (nI k)), (2, .int (nI t)), (3, .int (bset (i + 1) (unP K k t))), (4, .int (nI (i + 1)))]) (by rw [bset_f (n := i) (P := unP K k t) (by omega) (by simp only [unP]; grind)]) ?_
                  exact ih61 (i + 1) (by omega) (by omega) τ hFt
                ·
                  have h11 := (not_congr (nI_eq (a := i) (b := k) (by omega) (by omega))).mp h11
                  refine gx_aload_n C dX3_undo_79 (by rfl) (by rfl) ?_
                  refine gx_getr (j := 13) (k := 0) C ck3 (by rfl) (by rfl) (by decide) fl_X3_10 dX3_undo_80 ?_
                  refine gx_getr (j := 15) (k := 1) C ck0 (by rfl) (by rfl) (by decide) fl_X3_105 dX3_undo_83 ?_
                  refine gx_iload C dX3_undo_86 (by rfl) ?_
                  refine gx_ialdN (k := i) C (by rfl) rfl (by omega) (by decide) dX3_undo_88 ?_
                  refine gx_st (st' := [.int (K 2 i)]) (by rw [hKn.r2 (p := i) (by omega)]) ?_
                  refine gx_iconst (v := (-1)) C dX3_undo_89 (by decide) ?_
                  refine gx_icmp_eq (tgt := 133) C dX3_undo_90 (by decide) (fun h12 => ?_) (fun h12 => ?_)
                  ·
                    refine gx_iinc (v := nI (i + 1)) (lv2 := [(4, .int (nI (i + 1))), (0, .ref (eA E 0)), (1, .int (nI k)), (2, .int (nI t)), (3, .int (bset i (unP K k t)))]) C dX3_undo_133 (by rfl) (by exact nI_p1 _) (by decide) rfl ?_
                    refine gx_goto (tgt := 61) C dX3_undo_136 (by decide) ?_
                    refine gx_sub [1, 2, 3, 4, 0] (lv' := [(0, .ref (eA E 0)), (1, .int (nI k)), (2, .int (nI t)), (3, .int (bset i (unP K k t))), (4, .int (nI (i + 1)))]) rfl ?_
                    refine gx_lv (lv' := [(0, .ref (eA E 0)), (1, .int (nI k)), (2, .int (nI t)), (3, .int (bset (i + 1) (unP K k t))), (4, .int (nI (i + 1)))]) (by rw [bset_f (n := i) (P := unP K k t) (by omega) (by simp only [unP]; grind)]) ?_
                    exact ih61 (i + 1) (by omega) (by omega) τ hFt
                  ·
                    refine gx_aload_n C dX3_undo_93 (by rfl) (by rfl) ?_
                    refine gx_getr (j := 37) (k := 3) C ck3 (by rfl) (by rfl) (by decide) fl_X3_19 dX3_undo_94 ?_
                    refine gx_aload_n C dX3_undo_97 (by rfl) (by rfl) ?_
                    refine gx_getr (j := 13) (k := 0) C ck3 (by rfl) (by rfl) (by decide) fl_X3_10 dX3_undo_98 ?_
                    refine gx_callVV (As := [.ref (eA E 13)]) (rest := []) C (c_X0_becomeLike E τ 37 isE_37 13 isE_13 (by decide) K hKn) z_X0_becomeLike ck0 (by rfl) (by rfl) ml_X3_169 (by rfl) (Nat.le_of_ble_eq_true rfl) ⟨Nat.le_of_ble_eq_true rfl, Nat.le_of_ble_eq_true rfl⟩ dX3_undo_101 (fun σ13 w13 => ?_)
                    obtain ⟨hK13, hF13⟩ := w13
                    have hK13_13 := Emp.fr (e := 13) (e2 := 37) hKn hF13 (by decide)
                    refine gx_aload_n C dX3_undo_104 (by rfl) (by rfl) ?_
                    refine gx_getr (j := 37) (k := 3) C ck3 (by rfl) (by rfl) (by decide) fl_X3_19 dX3_undo_105 ?_
                    refine gx_iload C dX3_undo_108 (by rfl) ?_
                    refine gx_iconst (v := (-1)) C dX3_undo_110 (by decide) ?_
                    refine gx_callVV (As := [.int (nI i), .int (-1)]) (rest := []) C (c_X0_moveTo E σ13 37 isE_37 K hK13 hO i (by omega) (-1) ⟨by decide, by decide⟩) z_X0_moveTo ck0 (by rfl) (by rfl) ml_X3_134 (by rfl) (Nat.le_of_ble_eq_true rfl) ⟨Nat.le_of_ble_eq_true rfl, Nat.le_of_ble_eq_true rfl⟩ dX3_undo_111 (fun σ14 w14 => ?_)
                    obtain ⟨hK14, hF14⟩ := w14
                    have hO14 := Ok.rank (v := (-1)) (p := i) hO (by omega) ⟨by decide, by decide⟩
                    have hK14_13 := Emp.fr (e := 13) (e2 := 37) hK13_13 hF14 (by decide)
                    refine gx_aload_n C dX3_undo_114 (by rfl) (by rfl) ?_
                    refine gx_getr (j := 37) (k := 3) C ck3 (by rfl) (by rfl) (by decide) fl_X3_19 dX3_undo_115 ?_
                    refine gx_iload_n C dX3_undo_118 (by rfl) (by rfl) ?_
                    refine gx_iload_n C dX3_undo_119 (by rfl) (by rfl) ?_
                    refine gx_callVI (As := [.int (nI k), .int (nI t)]) (rest := []) C (c_X0_keeps E σ14 37 isE_37 (up2 K 2 i (-1)) hK14 hO14 k (by omega) t (by omega)) z_X0_keeps ck0 (by rfl) (by rfl) ml_X3_190 (by rfl) (Nat.le_of_ble_eq_true rfl) ⟨Nat.le_of_ble_eq_true rfl, Nat.le_of_ble_eq_true rfl⟩ dX3_undo_120 (fun r15 σ15 w15 => ?_)
                    obtain ⟨er15, -, hF15⟩ := w15
                    have hK15_13 := Emp.fr (e := 13) (e2 := 37) hK14_13 hF15 (by decide)
                    refine gx_st (st' := [.int (b2 (¬ mos t (up2 K 2 i (-1)) 2 k = -1))]) (by rw [er15]) ?_
                    refine gx_if_eq (tgt := 133) C dX3_undo_123 (by decide) (fun h16 => ?_) (fun h16 => ?_)
                    ·
                      have h16 := b2_z.mp h16
                      refine gx_iinc (v := nI (i + 1)) (lv2 := [(4, .int (nI (i + 1))), (0, .ref (eA E 0)), (1, .int (nI k)), (2, .int (nI t)), (3, .int (bset i (unP K k t)))]) C dX3_undo_133 (by rfl) (by exact nI_p1 _) (by decide) rfl ?_
                      refine gx_goto (tgt := 61) C dX3_undo_136 (by decide) ?_
                      refine gx_sub [1, 2, 3, 4, 0] (lv' := [(0, .ref (eA E 0)), (1, .int (nI k)), (2, .int (nI t)), (3, .int (bset i (unP K k t))), (4, .int (nI (i + 1)))]) rfl ?_
                      refine gx_lv (lv' := [(0, .ref (eA E 0)), (1, .int (nI k)), (2, .int (nI t)), (3, .int (bset (i + 1) (unP K k t))), (4, .int (nI (i + 1)))]) (by rw [bset_f (n := i) (P := unP K k t) (by omega) (by simp only [unP]; grind)]) ?_
                      exact ih61 (i + 1) (by omega) (by omega) σ15 ((((hFt).tr hF13).tr hF14).tr hF15)
                    ·
                      have h16 := b2_nz.mp h16
                      refine gx_iload_n C dX3_undo_126 (by rfl) (by rfl) ?_
                      refine gx_iconst (v := 1) C dX3_undo_127 (by decide) ?_
                      refine gx_iload C dX3_undo_128 (by rfl) ?_
                      refine gx_ishl C dX3_undo_130 ?_
                      refine gx_ior C dX3_undo_131 ?_
                      refine gx_istore_n (lv2 := [(3, .int ((bset i (unP K k t)) ||| (1 <<< ((nI i) &&& 31)))), (0, .ref (eA E 0)), (1, .int (nI k)), (2, .int (nI t)), (4, .int (nI i))]) C dX3_undo_132 (by rfl) (by decide) rfl ?_
                      refine gx_iinc (v := nI (i + 1)) (lv2 := [(4, .int (nI (i + 1))), (3, .int ((bset i (unP K k t)) ||| (1 <<< ((nI i) &&& 31)))), (0, .ref (eA E 0)), (1, .int (nI k)), (2, .int (nI t))]) C dX3_undo_133 (by rfl) (by exact nI_p1 _) (by decide) rfl ?_
                      refine gx_goto (tgt := 61) C dX3_undo_136 (by decide) ?_
                      refine gx_sub [2, 3, 4, 1, 0] (lv' := [(0, .ref (eA E 0)), (1, .int (nI k)), (2, .int (nI t)), (3, .int ((bset i (unP K k t)) ||| (1 <<< ((nI i) &&& 31)))), (4, .int (nI (i + 1)))]) rfl ?_
                      refine gx_lv (lv' := [(0, .ref (eA E 0)), (1, .int (nI k)), (2, .int (nI t)), (3, .int (bset (i + 1) (unP K k t))), (4, .int (nI (i + 1)))]) (by rw [bset_t (n := i) (P := unP K k t) (by omega) (by simp only [unP]; grind)]) ?_
                      exact ih61 (i + 1) (by omega) (by omega) σ15 ((((hFt).tr hF13).tr hF14).tr hF15)
          refine gx_sub [2, 3, 4, 1, 0] (lv' := [(0, .ref (eA E 0)), (1, .int (nI k)), (2, .int (nI t)), (3, .int 0), (4, .int 0)]) rfl ?_
          refine gx_lv (lv' := [(0, .ref (eA E 0)), (1, .int (nI k)), (2, .int (nI t)), (3, .int (bset 0 (unP K k t))), (4, .int (nI 0))]) (by rfl) ?_
          exact loop61 (nn K + 1) 0 (by omega) (by omega) σ Fr.rf
        ·
          have h9 := b2_nz.mp h9
          refine gx_aload_n C dX3_undo_49 (by rfl) (by rfl) ?_
          refine gx_ldc C kc_X3_56 dX3_undo_50 ?_
          refine gx_callVI (As := [.int (-1000005)]) (rest := []) C (c_X3_found E σ (-1000005) 4 (by decide) (by decide)) z_X3_found ck3 (by rfl) (by rfl) ml_X3_49 (by rfl) (Nat.le_of_ble_eq_true rfl) ⟨Nat.le_of_ble_eq_true rfl, Nat.le_of_ble_eq_true rfl⟩ dX3_undo_52 (fun r17 σ17 w17 => ?_)
          obtain ⟨u1, u2⟩ := w17; rw [u1, u2]; clear u1 u2
          exact gx_iret C hr hlk rfl (fin_fd hC (by decide) (by simp only [opUndo, bey, ful, knd, non, sta, mis, siz] <;> grind)) dX3_undo_55
    ·
      have h5 := b2_z.mp h5
      refine gx_aload_n C dX3_undo_21 (by rfl) (by rfl) ?_
      refine gx_ldc C kc_X3_48 dX3_undo_22 ?_
      refine gx_callVI (As := [.int (-1000001)]) (rest := []) C (c_X3_found E σ (-1000001) 0 (by decide) (by decide)) z_X3_found ck3 (by rfl) (by rfl) ml_X3_49 (by rfl) (Nat.le_of_ble_eq_true rfl) ⟨Nat.le_of_ble_eq_true rfl, Nat.le_of_ble_eq_true rfl⟩ dX3_undo_24 (fun r18 σ18 w18 => ?_)
      obtain ⟨u1, u2⟩ := w18; rw [u1, u2]; clear u1 u2
      exact gx_iret C hr hlk rfl (fin_fd hC (by decide) (by simp only [opUndo, bey, ful, knd, non, sta, mis, siz] <;> grind)) dX3_undo_27
