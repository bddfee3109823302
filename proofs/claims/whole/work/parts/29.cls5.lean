theorem cp_nat {z : Nat} {Zk fx nx : Int32} (h1 : z ≤ 40) (h2 : Zk = nI z) (h : 0 ≤ fx ∧ 0 ≤ nx ∧ fx ≤ Zk ∧ nx ≤ Zk - fx) : ∃ f n, f + n ≤ z ∧ fx = nI f ∧ nx = nI n := by
  obtain ⟨a, b, c, d⟩ := h
  obtain ⟨f, hf, rfl⟩ := nI_of (fun h9 => Int32.not_le.mpr h9 a : ¬ fx < 0)
  obtain ⟨n, hn, rfl⟩ := nI_of (fun h9 => Int32.not_le.mpr h9 b : ¬ nx < 0)
  rw [h2] at c d
  have c2 := (nI_leI hf (by omega)).mp c
  rw [pk_sub c2] at d
  have d2 := (nI_leI hn (by omega)).mp d
  exact ⟨f, n, by omega, rfl, rfl⟩
theorem cp_nat2 {z n : Nat} {Zk fx : Int32} (h1 : z ≤ 40) (h2 : Zk = nI z) (hn : n ≤ 40) (h : 0 ≤ fx ∧ 0 ≤ nI n ∧ fx ≤ Zk ∧ nI n ≤ Zk - fx) : ∃ f, f + n ≤ z ∧ fx = nI f := by
  obtain ⟨f, n2, a, b, c⟩ := cp_nat h1 h2 h
  exact ⟨f, by have := (nI_eq (by omega) (by omega)).mp c; omega, b⟩
theorem cpy_c {f f' g g' : Nat → Int32} {sp dp n q : Nat} (hf : ∀ i, i < 40 → f i = f' i) (hg : ∀ i, i < 40 → g i = g' i) (h : sp + n ≤ 40) (hq : q < 40) : va_cpy f g sp dp n q = va_cpy f' g' sp dp n q := by
  unfold va_cpy
  split
  · exact hf _ (by omega)
  · exact hg q hq
set_option maxHeartbeats 4000000 in
set_option maxRecDepth 100000 in
theorem c_X3_copy (E : En) (σ : Mm) (K L : Mm) (g : Int32) (F : Nat → Int32) (tl : Int32) (Bt W Z : Nat → Int32) (N : Mm) (hC : CR σ (K, L, g, F, tl, Bt, W, Z, N)) (x fx y ux nx : Int32) : CtI E yX3_copy cX3_copy 8 (some .int) 2 60 [.ref (eA E 0), .int x, .int fx, .int y, .int ux, .int nx] σ (fun rr σ2 => rr = (opCopy (K, L, g, F, tl, Bt, W, Z, N) x fx y ux nx).1 ∧ CR σ2 (opCopy (K, L, g, F, tl, Bt, W, Z, N) x fx y ux nx).2 ∧ FC σ σ2) := by
  obtain ⟨⟨hK, hO⟩, ⟨hg1, hg2, hg3⟩, hFd, ⟨⟨htl, htl2⟩, hBt⟩, hSh⟩ := id hC
  obtain ⟨⟨hn, h12⟩, hpp, hlw, hsp, hz0⟩ := id hO
  refine CtI.of (by decide +kernel) (Nat.le_of_ble_eq_true rfl) (fun p e0 s m below meth c C hr hlk => ?_)
  refine gx_lv (lv' := [(0, .ref (eA E 0)), (1, .int x), (2, .int fx), (3, .int y), (4, .int ux), (5, .int nx)]) rfl ?_
  refine gx_aload_n C dX3_copy_0 (by rfl) (by rfl) ?_
  refine gx_iload_n C dX3_copy_1 (by rfl) (by rfl) ?_
  by_cases hsk : 0 ≤ x ∧ x ≤ 3
  ·
    obtain ⟨k, hk, rfl⟩ := s_nat hsk
    have ck : (nI k).toNatClampNeg = k := nI_clamp (by omega)
    obtain ⟨⟨hw1, hw2⟩, ⟨hz1, z, hz2, hz3⟩, hnm⟩ := hSh k (by omega)
    have cz : (Z k).toNatClampNeg = z := by rw [hz3]; exact nI_clamp (by omega)
    refine gx_callVR (As := [.int (nI k)]) (rest := []) C (c_X3_sheetAt_k E σ k (by omega)) z_X3_sheetAt ck3 (by rfl) (by rfl) ml_X3_234 (by rfl) (Nat.le_of_ble_eq_true rfl) ⟨Nat.le_of_ble_eq_true rfl, Nat.le_of_ble_eq_true rfl⟩ dX3_copy_2 (fun r1 σ1 w1 => ?_)
    obtain ⟨u1, u2⟩ := w1; rw [u1, u2]; clear u1 u2
    refine gx_st (st' := [.ref (eA E (5 + k))]) rfl ?_
    refine gx_astore (lv2 := [(6, .ref (eA E (5 + k))), (0, .ref (eA E 0)), (1, .int (nI k)), (2, .int fx), (3, .int y), (4, .int ux), (5, .int nx)]) C dX3_copy_5 (by decide) rfl ?_
    refine gx_aload_n C dX3_copy_7 (by rfl) (by rfl) ?_
    refine gx_iload_n C dX3_copy_8 (by rfl) (by rfl) ?_
    by_cases hsj : 0 ≤ y ∧ y ≤ 3
    ·
      obtain ⟨j, hj, rfl⟩ := s_nat hsj
      have cj : (nI j).toNatClampNeg = j := nI_clamp (by omega)
      obtain ⟨⟨hw1j, hw2j⟩, ⟨hz1j, zj, hz2j, hz3j⟩, hnmj⟩ := hSh j (by omega)
      have czj : (Z j).toNatClampNeg = zj := by rw [hz3j]; exact nI_clamp (by omega)
      refine gx_callVR (As := [.int (nI j)]) (rest := []) C (c_X3_sheetAt_k E σ j (by omega)) z_X3_sheetAt ck3 (by rfl) (by rfl) ml_X3_234 (by rfl) (Nat.le_of_ble_eq_true rfl) ⟨Nat.le_of_ble_eq_true rfl, Nat.le_of_ble_eq_true rfl⟩ dX3_copy_9 (fun r2 σ2 w2 => ?_)
      obtain ⟨u1, u2⟩ := w2; rw [u1, u2]; clear u1 u2
      refine gx_st (st' := [.ref (eA E (5 + j))]) rfl ?_
      refine gx_astore (lv2 := [(7, .ref (eA E (5 + j))), (6, .ref (eA E (5 + k))), (0, .ref (eA E 0)), (1, .int (nI k)), (2, .int fx), (3, .int (nI j)), (4, .int ux), (5, .int nx)]) C dX3_copy_12 (by decide) rfl ?_
      refine gx_aload C dX3_copy_14 (by rfl) ?_
      refine gx_ifnull C dX3_copy_16 ?_
      refine gx_aload C dX3_copy_19 (by rfl) ?_
      refine gx_ifnonnull (tgt := 31) C dX3_copy_21 (by decide) ?_
      refine gx_aload C dX3_copy_31 (by rfl) ?_
      refine gx_callVI (As := []) (rest := []) C (c_X1_isMissing E σ k (by omega) (W k) (by first | exact hw1 | (rw [hFt (5 + k) (by omega)]; exact hw1))) z_X1_isMissing ck1 (sh_s hk) (by rfl) ml_X3_244 (by rfl) (Nat.le_of_ble_eq_true rfl) ⟨Nat.le_of_ble_eq_true rfl, Nat.le_of_ble_eq_true rfl⟩ dX3_copy_33 (fun r3 σ3 w3 => ?_)
      obtain ⟨u1, u2⟩ := w3; rw [u1, u2]; clear u1 u2
      refine gx_if_ne (tgt := 47) C dX3_copy_36 (by decide) (fun h4 => ?_) (fun h4 => ?_)
      ·
        have h4 := b2_nz.mp h4
        refine gx_aload_n C dX3_copy_47 (by rfl) (by rfl) ?_
        refine gx_ldc C kc_X3_229 dX3_copy_48 ?_
        refine gx_callVI (As := [.int (-1000006)]) (rest := []) C (c_X3_found E σ (-1000006) 5 (by decide) (by decide)) z_X3_found ck3 (by rfl) (by rfl) ml_X3_49 (by rfl) (Nat.le_of_ble_eq_true rfl) ⟨Nat.le_of_ble_eq_true rfl, Nat.le_of_ble_eq_true rfl⟩ dX3_copy_50 (fun r5 σ5 w5 => ?_)
        obtain ⟨u1, u2⟩ := w5; rw [u1, u2]; clear u1 u2
        exact gx_iret C hr hlk rfl (fin_fd hC (by decide) (by first | (simp only [opCopy, ck, cj, bey, mis, knd] <;> grind) | (simp only [opCopy, ck, bey, mis, knd] <;> grind) | (simp only [opCopy, bey, mis, knd] <;> grind))) dX3_copy_53
      ·
        have h4 := b2_z.mp h4
        refine gx_aload C dX3_copy_39 (by rfl) ?_
        refine gx_callVI (As := []) (rest := []) C (c_X1_isMissing E σ j (by omega) (W j) (by first | exact hw1j | (rw [hFt (5 + j) (by omega)]; exact hw1j))) z_X1_isMissing ck1 (sh_s hj) (by rfl) ml_X3_244 (by rfl) (Nat.le_of_ble_eq_true rfl) ⟨Nat.le_of_ble_eq_true rfl, Nat.le_of_ble_eq_true rfl⟩ dX3_copy_41 (fun r6 σ6 w6 => ?_)
        obtain ⟨u1, u2⟩ := w6; rw [u1, u2]; clear u1 u2
        refine gx_if_eq (tgt := 54) C dX3_copy_44 (by decide) (fun h7 => ?_) (fun h7 => ?_)
        ·
          have h7 := b2_z.mp h7
          refine gx_aload C dX3_copy_54 (by rfl) ?_
          refine gx_geti (k := 1) C ck1 (sh_s hk) (by rfl) (by decide) fl_X3_254 dX3_copy_56 ?_
          refine gx_st (st' := [.int (W k)]) (by rw [hw1]) ?_
          refine gx_aload C dX3_copy_59 (by rfl) ?_
          refine gx_geti (k := 1) C ck1 (sh_s hj) (by rfl) (by decide) fl_X3_254 dX3_copy_61 ?_
          refine gx_st (st' := [.int (W j), .int (W k)]) (by rw [hw1j]) ?_
          refine gx_icmp_eq (tgt := 74) C dX3_copy_64 (by decide) (fun h8 => ?_) (fun h8 => ?_)
          ·
            refine gx_aload C dX3_copy_74 (by rfl) ?_
            refine gx_iload_n C dX3_copy_76 (by rfl) (by rfl) ?_
            refine gx_iload C dX3_copy_77 (by rfl) ?_
            refine gx_callVI (As := [.int fx, .int nx]) (rest := []) C (c_X1_hasRow E σ k (by omega) (Z k) hz1 fx nx) z_X1_hasRow ck1 (sh_s hk) (by rfl) ml_X3_257 (by rfl) (Nat.le_of_ble_eq_true rfl) ⟨Nat.le_of_ble_eq_true rfl, Nat.le_of_ble_eq_true rfl⟩ dX3_copy_79 (fun r9 σ9 w9 => ?_)
            obtain ⟨u1, u2⟩ := w9; rw [u1, u2]; clear u1 u2
            refine gx_if_eq (tgt := 97) C dX3_copy_82 (by decide) (fun h10 => ?_) (fun h10 => ?_)
            ·
              have h10 := b2_z.mp h10
              refine gx_aload_n C dX3_copy_97 (by rfl) (by rfl) ?_
              refine gx_ldc C kc_X3_48 dX3_copy_98 ?_
              refine gx_callVI (As := [.int (-1000001)]) (rest := []) C (c_X3_found E σ (-1000001) 0 (by decide) (by decide)) z_X3_found ck3 (by rfl) (by rfl) ml_X3_49 (by rfl) (Nat.le_of_ble_eq_true rfl) ⟨Nat.le_of_ble_eq_true rfl, Nat.le_of_ble_eq_true rfl⟩ dX3_copy_100 (fun r11 σ11 w11 => ?_)
              obtain ⟨u1, u2⟩ := w11; rw [u1, u2]; clear u1 u2
              exact gx_iret C hr hlk rfl (fin_fd hC (by decide) (by first | (simp only [opCopy, ck, cj, bey, mis, knd] <;> grind) | (simp only [opCopy, ck, bey, mis, knd] <;> grind) | (simp only [opCopy, bey, mis, knd] <;> grind))) dX3_copy_103
            ·
              have h10 := b2_nz.mp h10
              refine gx_aload C dX3_copy_85 (by rfl) ?_
              refine gx_iload C dX3_copy_87 (by rfl) ?_
              refine gx_iload C dX3_copy_89 (by rfl) ?_
              refine gx_callVI (As := [.int ux, .int nx]) (rest := []) C (c_X1_hasRow E σ j (by omega) (Z j) hz1j ux nx) z_X1_hasRow ck1 (sh_s hj) (by rfl) ml_X3_257 (by rfl) (Nat.le_of_ble_eq_true rfl) ⟨Nat.le_of_ble_eq_true rfl, Nat.le_of_ble_eq_true rfl⟩ dX3_copy_91 (fun r12 σ12 w12 => ?_)
              obtain ⟨u1, u2⟩ := w12; rw [u1, u2]; clear u1 u2
              refine gx_if_ne (tgt := 104) C dX3_copy_94 (by decide) (fun h13 => ?_) (fun h13 => ?_)
              ·
                have h13 := b2_nz.mp h13
                obtain ⟨f1, n1, hfn, rfl, rfl⟩ := cp_nat hz2 hz3 h10
                obtain ⟨u1, hun, rfl⟩ := cp_nat2 hz2j hz3j (by omega) h13
                have cf1 : (nI f1).toNatClampNeg = f1 := nI_clamp (by omega)
                have cn1 : (nI n1).toNatClampNeg = n1 := nI_clamp (by omega)
                have cu1 : (nI u1).toNatClampNeg = u1 := nI_clamp (by omega)
                refine gx_aload C dX3_copy_104 (by rfl) ?_
                refine gx_getr (j := 9 + k) (k := 0) C ck1 (sh_s hk) (by rfl) (by decide) fl_X3_248 dX3_copy_106 ?_
                refine gx_iload_n C dX3_copy_109 (by rfl) (by rfl) ?_
                refine gx_aload C dX3_copy_110 (by rfl) ?_
                refine gx_getr (j := 9 + j) (k := 0) C ck1 (sh_s hj) (by rfl) (by decide) fl_X3_248 dX3_copy_112 ?_
                refine gx_iload C dX3_copy_115 (by rfl) ?_
                refine gx_iload C dX3_copy_117 (by rfl) ?_
                refine gx_copy (i0 := 9 + k) (i1 := 9 + j) (sp := f1) (dp := u1) (n := n1) C (sh_n hk) (sh_n hj) (by omega) (by omega) (by decide) ml_X3_260 (Nat.le_of_ble_eq_true rfl) (Nat.le_of_ble_eq_true rfl) dX3_copy_119 ?_
                refine gx_iload C dX3_copy_122 (by rfl) ?_
                exact gx_iret C hr hlk rfl (fin_nm (row := va_cpy (N k) (N j) f1 u1 n1) hC hj (fun q hq => rw2_o hq) (fun q hq => by rw [rw2_s]; exact cpy_c hnm hnmj (by omega) hq) (by simp only [opCopy, ck, cj, cf1, cu1, cn1, bey, mis, knd]; rw [if_pos (by grind), if_neg (by grind), if_neg (by grind), if_pos (by grind)])) dX3_copy_124
              ·
                have h13 := b2_z.mp h13
                refine gx_aload_n C dX3_copy_97 (by rfl) (by rfl) ?_
                refine gx_ldc C kc_X3_48 dX3_copy_98 ?_
                refine gx_callVI (As := [.int (-1000001)]) (rest := []) C (c_X3_found E σ (-1000001) 0 (by decide) (by decide)) z_X3_found ck3 (by rfl) (by rfl) ml_X3_49 (by rfl) (Nat.le_of_ble_eq_true rfl) ⟨Nat.le_of_ble_eq_true rfl, Nat.le_of_ble_eq_true rfl⟩ dX3_copy_100 (fun r14 σ14 w14 => ?_)
                obtain ⟨u1, u2⟩ := w14; rw [u1, u2]; clear u1 u2
                exact gx_iret C hr hlk rfl (fin_fd hC (by decide) (by first | (simp only [opCopy, ck, cj, bey, mis, knd] <;> grind) | (simp only [opCopy, ck, bey, mis, knd] <;> grind) | (simp only [opCopy, bey, mis, knd] <;> grind))) dX3_copy_103
          ·
            refine gx_aload_n C dX3_copy_67 (by rfl) (by rfl) ?_
            refine gx_ldc C kc_X3_233 dX3_copy_68 ?_
            refine gx_callVI (As := [.int (-1000003)]) (rest := []) C (c_X3_found E σ (-1000003) 2 (by decide) (by decide)) z_X3_found ck3 (by rfl) (by rfl) ml_X3_49 (by rfl) (Nat.le_of_ble_eq_true rfl) ⟨Nat.le_of_ble_eq_true rfl, Nat.le_of_ble_eq_true rfl⟩ dX3_copy_70 (fun r15 σ15 w15 => ?_)
            obtain ⟨u1, u2⟩ := w15; rw [u1, u2]; clear u1 u2
            exact gx_iret C hr hlk rfl (fin_fd hC (by decide) (by first | (simp only [opCopy, ck, cj, bey, mis, knd] <;> grind) | (simp only [opCopy, ck, bey, mis, knd] <;> grind) | (simp only [opCopy, bey, mis, knd] <;> grind))) dX3_copy_73
        ·
          have h7 := b2_nz.mp h7
          refine gx_aload_n C dX3_copy_47 (by rfl) (by rfl) ?_
          refine gx_ldc C kc_X3_229 dX3_copy_48 ?_
          refine gx_callVI (As := [.int (-1000006)]) (rest := []) C (c_X3_found E σ (-1000006) 5 (by decide) (by decide)) z_X3_found ck3 (by rfl) (by rfl) ml_X3_49 (by rfl) (Nat.le_of_ble_eq_true rfl) ⟨Nat.le_of_ble_eq_true rfl, Nat.le_of_ble_eq_true rfl⟩ dX3_copy_50 (fun r16 σ16 w16 => ?_)
          obtain ⟨u1, u2⟩ := w16; rw [u1, u2]; clear u1 u2
          exact gx_iret C hr hlk rfl (fin_fd hC (by decide) (by first | (simp only [opCopy, ck, cj, bey, mis, knd] <;> grind) | (simp only [opCopy, ck, bey, mis, knd] <;> grind) | (simp only [opCopy, bey, mis, knd] <;> grind))) dX3_copy_53
    ·
      refine gx_callVR (As := [.int y]) (rest := []) C (c_X3_sheetAt_n E σ y (by assumption)) z_X3_sheetAt ck3 (by rfl) (by rfl) ml_X3_234 (by rfl) (Nat.le_of_ble_eq_true rfl) ⟨Nat.le_of_ble_eq_true rfl, Nat.le_of_ble_eq_true rfl⟩ dX3_copy_9 (fun r17 σ17 w17 => ?_)
      obtain ⟨u1, u2⟩ := w17; rw [u1, u2]; clear u1 u2
      refine gx_st (st' := [.null]) rfl ?_
      refine gx_astoreN (lv2 := [(7, .null), (6, .ref (eA E (5 + k))), (0, .ref (eA E 0)), (1, .int (nI k)), (2, .int fx), (3, .int y), (4, .int ux), (5, .int nx)]) C dX3_copy_12 (by decide) rfl ?_
      refine gx_aload C dX3_copy_14 (by rfl) ?_
      refine gx_ifnull C dX3_copy_16 ?_
      refine gx_aloadN C dX3_copy_19 (by rfl) ?_
      refine gx_ifnonnullN C dX3_copy_21 ?_
      refine gx_aload_n C dX3_copy_24 (by rfl) (by rfl) ?_
      refine gx_ldc C kc_X3_48 dX3_copy_25 ?_
      refine gx_callVI (As := [.int (-1000001)]) (rest := []) C (c_X3_found E σ (-1000001) 0 (by decide) (by decide)) z_X3_found ck3 (by rfl) (by rfl) ml_X3_49 (by rfl) (Nat.le_of_ble_eq_true rfl) ⟨Nat.le_of_ble_eq_true rfl, Nat.le_of_ble_eq_true rfl⟩ dX3_copy_27 (fun r18 σ18 w18 => ?_)
      obtain ⟨u1, u2⟩ := w18; rw [u1, u2]; clear u1 u2
      exact gx_iret C hr hlk rfl (fin_fd hC (by decide) (by first | (simp only [opCopy, ck, cj, bey, mis, knd] <;> grind) | (simp only [opCopy, ck, bey, mis, knd] <;> grind) | (simp only [opCopy, bey, mis, knd] <;> grind))) dX3_copy_30
  ·
    refine gx_callVR (As := [.int x]) (rest := []) C (c_X3_sheetAt_n E σ x (by assumption)) z_X3_sheetAt ck3 (by rfl) (by rfl) ml_X3_234 (by rfl) (Nat.le_of_ble_eq_true rfl) ⟨Nat.le_of_ble_eq_true rfl, Nat.le_of_ble_eq_true rfl⟩ dX3_copy_2 (fun r19 σ19 w19 => ?_)
    obtain ⟨u1, u2⟩ := w19; rw [u1, u2]; clear u1 u2
    refine gx_st (st' := [.null]) rfl ?_
    refine gx_astoreN (lv2 := [(6, .null), (0, .ref (eA E 0)), (1, .int x), (2, .int fx), (3, .int y), (4, .int ux), (5, .int nx)]) C dX3_copy_5 (by decide) rfl ?_
    refine gx_aload_n C dX3_copy_7 (by rfl) (by rfl) ?_
    refine gx_iload_n C dX3_copy_8 (by rfl) (by rfl) ?_
    by_cases hsj : 0 ≤ y ∧ y ≤ 3
    ·
      obtain ⟨j, hj, rfl⟩ := s_nat hsj
      have cj : (nI j).toNatClampNeg = j := nI_clamp (by omega)
      obtain ⟨⟨hw1j, hw2j⟩, ⟨hz1j, zj, hz2j, hz3j⟩, hnmj⟩ := hSh j (by omega)
      have czj : (Z j).toNatClampNeg = zj := by rw [hz3j]; exact nI_clamp (by omega)
      refine gx_callVR (As := [.int (nI j)]) (rest := []) C (c_X3_sheetAt_k E σ j (by omega)) z_X3_sheetAt ck3 (by rfl) (by rfl) ml_X3_234 (by rfl) (Nat.le_of_ble_eq_true rfl) ⟨Nat.le_of_ble_eq_true rfl, Nat.le_of_ble_eq_true rfl⟩ dX3_copy_9 (fun r20 σ20 w20 => ?_)
      obtain ⟨u1, u2⟩ := w20; rw [u1, u2]; clear u1 u2
      refine gx_st (st' := [.ref (eA E (5 + j))]) rfl ?_
      refine gx_astore (lv2 := [(7, .ref (eA E (5 + j))), (6, .null), (0, .ref (eA E 0)), (1, .int x), (2, .int fx), (3, .int (nI j)), (4, .int ux), (5, .int nx)]) C dX3_copy_12 (by decide) rfl ?_
      refine gx_aloadN C dX3_copy_14 (by rfl) ?_
      refine gx_ifnullN (tgt := 24) C dX3_copy_16 (by decide) ?_
      refine gx_aload_n C dX3_copy_24 (by rfl) (by rfl) ?_
      refine gx_ldc C kc_X3_48 dX3_copy_25 ?_
      refine gx_callVI (As := [.int (-1000001)]) (rest := []) C (c_X3_found E σ (-1000001) 0 (by decide) (by decide)) z_X3_found ck3 (by rfl) (by rfl) ml_X3_49 (by rfl) (Nat.le_of_ble_eq_true rfl) ⟨Nat.le_of_ble_eq_true rfl, Nat.le_of_ble_eq_true rfl⟩ dX3_copy_27 (fun r21 σ21 w21 => ?_)
      obtain ⟨u1, u2⟩ := w21; rw [u1, u2]; clear u1 u2
      exact gx_iret C hr hlk rfl (fin_fd hC (by decide) (by first | (simp only [opCopy, ck, cj, bey, mis, knd] <;> grind) | (simp only [opCopy, ck, bey, mis, knd] <;> grind) | (simp only [opCopy, bey, mis, knd] <;> grind))) dX3_copy_30
    ·
      refine gx_callVR (As := [.int y]) (rest := []) C (c_X3_sheetAt_n E σ y (by assumption)) z_X3_sheetAt ck3 (by rfl) (by rfl) ml_X3_234 (by rfl) (Nat.le_of_ble_eq_true rfl) ⟨Nat.le_of_ble_eq_true rfl, Nat.le_of_ble_eq_true rfl⟩ dX3_copy_9 (fun r22 σ22 w22 => ?_)
      obtain ⟨u1, u2⟩ := w22; rw [u1, u2]; clear u1 u2
      refine gx_st (st' := [.null]) rfl ?_
      refine gx_astoreN (lv2 := [(7, .null), (6, .null), (0, .ref (eA E 0)), (1, .int x), (2, .int fx), (3, .int y), (4, .int ux), (5, .int nx)]) C dX3_copy_12 (by decide) rfl ?_
      refine gx_aloadN C dX3_copy_14 (by rfl) ?_
      refine gx_ifnullN (tgt := 24) C dX3_copy_16 (by decide) ?_
      refine gx_aload_n C dX3_copy_24 (by rfl) (by rfl) ?_
      refine gx_ldc C kc_X3_48 dX3_copy_25 ?_
      refine gx_callVI (As := [.int (-1000001)]) (rest := []) C (c_X3_found E σ (-1000001) 0 (by decide) (by decide)) z_X3_found ck3 (by rfl) (by rfl) ml_X3_49 (by rfl) (Nat.le_of_ble_eq_true rfl) ⟨Nat.le_of_ble_eq_true rfl, Nat.le_of_ble_eq_true rfl⟩ dX3_copy_27 (fun r23 σ23 w23 => ?_)
      obtain ⟨u1, u2⟩ := w23; rw [u1, u2]; clear u1 u2
      exact gx_iret C hr hlk rfl (fin_fd hC (by decide) (by first | (simp only [opCopy, ck, cj, bey, mis, knd] <;> grind) | (simp only [opCopy, ck, bey, mis, knd] <;> grind) | (simp only [opCopy, bey, mis, knd] <;> grind))) dX3_copy_30
set_option maxHeartbeats 4000000 in
set_option maxRecDepth 100000 in
theorem c_X3_load (E : En) (σ : Mm) (K L : Mm) (g : Int32) (F : Nat → Int32) (tl : Int32) (Bt W Z : Nat → Int32) (N : Mm) (hC : CR σ (K, L, g, F, tl, Bt, W, Z, N)) (x : Int32) : CtI E yX3_load cX3_load 5 (some .int) 2 44 [.ref (eA E 0), .int x] σ (fun rr σ2 => rr = (opLoad (K, L, g, F, tl, Bt, W, Z, N) x).1 ∧ CR σ2 (opLoad (K, L, g, F, tl, Bt, W, Z, N) x).2 ∧ FC σ σ2) := by
  obtain ⟨⟨hK, hO⟩, ⟨hg1, hg2, hg3⟩, hFd, ⟨⟨htl, htl2⟩, hBt⟩, hSh⟩ := id hC
  obtain ⟨⟨hn, h12⟩, hpp, hlw, hsp, hz0⟩ := id hO
  refine CtI.of (by decide +kernel) (Nat.le_of_ble_eq_true rfl) (fun p e0 s m below meth c C hr hlk => ?_)
  refine gx_lv (lv' := [(0, .ref (eA E 0)), (1, .int x)]) rfl ?_
  refine gx_aload_n C dX3_load_0 (by rfl) (by rfl) ?_
  refine gx_iload_n C dX3_load_1 (by rfl) (by rfl) ?_
  by_cases hsk : 0 ≤ x ∧ x ≤ 3
  ·
    obtain ⟨k, hk, rfl⟩ := s_nat hsk
    have ck : (nI k).toNatClampNeg = k := nI_clamp (by omega)
    obtain ⟨⟨hw1, hw2⟩, ⟨hz1, z, hz2, hz3⟩, hnm⟩ := hSh k (by omega)
    have cz : (Z k).toNatClampNeg = z := by rw [hz3]; exact nI_clamp (by omega)
    refine gx_callVR (As := [.int (nI k)]) (rest := []) C (c_X3_sheetAt_k E σ k (by omega)) z_X3_sheetAt ck3 (by rfl) (by rfl) ml_X3_234 (by rfl) (Nat.le_of_ble_eq_true rfl) ⟨Nat.le_of_ble_eq_true rfl, Nat.le_of_ble_eq_true rfl⟩ dX3_load_2 (fun r1 σ1 w1 => ?_)
    obtain ⟨u1, u2⟩ := w1; rw [u1, u2]; clear u1 u2
    refine gx_st (st' := [.ref (eA E (5 + k))]) rfl ?_
    refine gx_astore_n (lv2 := [(2, .ref (eA E (5 + k))), (0, .ref (eA E 0)), (1, .int (nI k))]) C dX3_load_5 (by rfl) (by decide) rfl ?_
    refine gx_aload_n C dX3_load_6 (by rfl) (by rfl) ?_
    refine gx_ifnonnull (tgt := 17) C dX3_load_7 (by decide) ?_
    refine gx_aload_n C dX3_load_17 (by rfl) (by rfl) ?_
    refine gx_callVI (As := []) (rest := []) C (c_X1_isMissing E σ k (by omega) (W k) (by first | exact hw1 | (rw [hFt (5 + k) (by omega)]; exact hw1))) z_X1_isMissing ck1 (sh_s hk) (by rfl) ml_X3_244 (by rfl) (Nat.le_of_ble_eq_true rfl) ⟨Nat.le_of_ble_eq_true rfl, Nat.le_of_ble_eq_true rfl⟩ dX3_load_18 (fun r2 σ2 w2 => ?_)
    obtain ⟨u1, u2⟩ := w2; rw [u1, u2]; clear u1 u2
    refine gx_if_eq (tgt := 31) C dX3_load_21 (by decide) (fun h3 => ?_) (fun h3 => ?_)
    ·
      have h3 := b2_z.mp h3
      refine gx_iconst (v := 0) C dX3_load_31 (by decide) ?_
      refine gx_istore_n (lv2 := [(3, .int 0), (2, .ref (eA E (5 + k))), (0, .ref (eA E 0)), (1, .int (nI k))]) C dX3_load_32 (by rfl) (by decide) rfl ?_
      have loop33 : ∀ (f : Nat) (i : Nat) (τ Kc : Mm), f + i = 13 → i ≤ 12 → Emp τ 13 Kc → Ok Kc → nn Kc = nn K → ldF (N k) z f i Kc = ldF (N k) z 13 0 K → Fr 13 σ τ → Gx E p e0 (rmF 2 44) s m ([.ref (eA E 0), .int (nI k)] : List Value).toArray below meth c (MQ below (va_Qi (fun rr σ2 => rr = (opLoad (K, L, g, F, tl, Bt, W, Z, N) (nI k)).1 ∧ CR σ2 (opLoad (K, L, g, F, tl, Bt, W, Z, N) (nI k)).2 ∧ FC σ σ2) (WQ E) (AA E s.heap.size)) ([.ref (eA E 0), .int (nI k)] : List Value).toArray s 0 0 (AA E s.heap.size)) 5 33 [(0, .ref (eA E 0)), (1, .int (nI k)), (2, .ref (eA E (5 + k))), (3, .int (nI i))] [] τ := by
        intro f
        induction f with
        | zero => intro i τ Kc hf hi12 hKc hOc hnc eT hFt; exact absurd hf (by omega)
        | succ f ih33 =>
          intro i τ Kc hf hi12 hKc hOc hnc eT hFt
          have h12c := hOc.1.2
          refine gx_iload_n C dX3_load_33 (by rfl) (by rfl) ?_
          refine gx_aload_n C dX3_load_34 (by rfl) (by rfl) ?_
          refine gx_geti (k := 2) C ck1 (sh_s hk) (by rfl) (by decide) fl_X3_241 dX3_load_35 ?_
          refine gx_st (st' := [.int (nI z), .int (nI i)]) (by rw [hFt (5 + k) (by omega), hz1, hz3]) ?_
          refine gx_icmp_ge (tgt := 97) C dX3_load_38 (by decide) (fun h4 => ?_) (fun h4 => ?_)
          ·
            have h4 := (nI_leI (a := z) (b := i) (by omega) (by omega)).mp h4
            refine gx_iload_n C dX3_load_97 (by rfl) (by rfl) ?_
            exact gx_iret C hr hlk rfl (fin_now hC hKc hOc hFt (by have q1 : ldF (N k) z 13 0 K = (nI i, Kc) := (by rw [← eT, show f + 1 = f + 1 from rfl, ldF, if_neg (by grind)]); simp only [opLoad, ck, cz, q1, bey, mis]; rw [if_pos (by grind), if_neg (by grind)])) dX3_load_98
          ·
            have h4 := (not_congr (nI_leI (a := z) (b := i) (by omega) (by omega))).mp h4
            refine gx_iload_n C dX3_load_41 (by rfl) (by rfl) ?_
            refine gx_aload_n C dX3_load_42 (by rfl) (by rfl) ?_
            refine gx_getr (j := 13) (k := 0) C ck3 (by rfl) (by rfl) (by decide) fl_X3_10 dX3_load_43 ?_
            refine gx_geti (k := 11) C ck0 (by rfl) (by rfl) (by decide) fl_X3_90 dX3_load_46 ?_
            refine gx_st (st' := [.int (nI (nn Kc)), .int (nI i)]) (by rw [hKc.n, hOc.1.1]) ?_
            refine gx_icmp_ge (tgt := 97) C dX3_load_49 (by decide) (fun h5 => ?_) (fun h5 => ?_)
            ·
              have h5 := (nI_leI (a := (nn Kc)) (b := i) (by omega) (by omega)).mp h5
              refine gx_iload_n C dX3_load_97 (by rfl) (by rfl) ?_
              exact gx_iret C hr hlk rfl (fin_now hC hKc hOc hFt (by have q1 : ldF (N k) z 13 0 K = (nI i, Kc) := (by rw [← eT, show f + 1 = f + 1 from rfl, ldF, if_neg (by grind)]); simp only [opLoad, ck, cz, q1, bey, mis]; rw [if_pos (by grind), if_neg (by grind)])) dX3_load_98
            ·
              have h5 := (not_congr (nI_leI (a := (nn Kc)) (b := i) (by omega) (by omega))).mp h5
              refine gx_aload_n C dX3_load_52 (by rfl) (by rfl) ?_
              refine gx_getr (j := 9 + k) (k := 0) C ck1 (sh_s hk) (by rfl) (by decide) fl_X3_248 dX3_load_53 ?_
              refine gx_iload_n C dX3_load_56 (by rfl) (by rfl) ?_
              refine gx_ialdN (k := i) C (sh_n hk) rfl (by omega) (by decide) dX3_load_57 ?_
              refine gx_st (st' := [.int (N k i)]) (by rw [hFt (9 + k) (by omega), hnm i (by omega)]) ?_
              refine gx_istore (lv2 := [(4, .int (N k i)), (0, .ref (eA E 0)), (1, .int (nI k)), (2, .ref (eA E (5 + k))), (3, .int (nI i))]) C dX3_load_58 (by decide) rfl ?_
              refine gx_aload_n C dX3_load_60 (by rfl) (by rfl) ?_
              refine gx_getr (j := 13) (k := 0) C ck3 (by rfl) (by rfl) (by decide) fl_X3_10 dX3_load_61 ?_
              refine gx_iload C dX3_load_64 (by rfl) ?_
              refine gx_callVI (As := [.int (N k i)]) (rest := []) C (k_X0_hasOrNobody E τ 13 isE_13 Kc hKc hOc (N k i)) z_X0_hasOrNobody ck0 (by rfl) (by rfl) ml_X3_127 (by rfl) (Nat.le_of_ble_eq_true rfl) ⟨Nat.le_of_ble_eq_true rfl, Nat.le_of_ble_eq_true rfl⟩ dX3_load_66 (fun r6 σ6 w6 => ?_)
              obtain ⟨u1, u2⟩ := w6; rw [u1, u2]; clear u1 u2
              refine gx_if_eq (tgt := 97) C dX3_load_69 (by decide) (fun h7 => ?_) (fun h7 => ?_)
              ·
                have h7 := b2_z.mp h7
                refine gx_iload_n C dX3_load_97 (by rfl) (by rfl) ?_
                exact gx_iret C hr hlk rfl (fin_now hC hKc hOc hFt (by have q1 : ldF (N k) z 13 0 K = (nI i, Kc) := (by rw [← eT, show f + 1 = f + 1 from rfl, ldF, if_neg (by grind)]); simp only [opLoad, ck, cz, q1, bey, mis]; rw [if_pos (by grind), if_neg (by grind)])) dX3_load_98
              ·
                have h7 := b2_nz.mp h7
                refine gx_iload C dX3_load_72 (by rfl) ?_
                refine gx_iload_n C dX3_load_74 (by rfl) (by rfl) ?_
                refine gx_icmp_ne (tgt := 81) C dX3_load_75 (by decide) (fun h8 => ?_) (fun h8 => ?_)
                ·
                  refine gx_aload_n C dX3_load_81 (by rfl) (by rfl) ?_
                  refine gx_getr (j := 13) (k := 0) C ck3 (by rfl) (by rfl) (by decide) fl_X3_10 dX3_load_82 ?_
                  refine gx_iload_n C dX3_load_85 (by rfl) (by rfl) ?_
                  refine gx_iload C dX3_load_86 (by rfl) ?_
                  have hld := q_rg hOc (by assumption)
                  refine gx_callVV (As := [.int (nI i), .int (N k i)]) (rest := []) C (c_X0_resent E τ 13 isE_13 i (by omega) (N k i)) z_X0_resent ck0 (by rfl) (by rfl) ml_X3_130 (by rfl) (Nat.le_of_ble_eq_true rfl) ⟨Nat.le_of_ble_eq_true rfl, Nat.le_of_ble_eq_true rfl⟩ dX3_load_88 (fun σ9 w9 => ?_)
                  have hK9 : Emp σ9 13 (up2 (up2 Kc 6 i (N k i)) 7 i 0) := by rw [w9]; exact (hKc.u6 (by omega)).u7 (by omega)
                  have hF9 : Fr 13 τ σ9 := by rw [w9]; exact (Fr.rf.up (by omega) (by omega)).up (by omega) (by omega)
                  clear w9
                  refine gx_iinc (v := nI (i + 1)) (lv2 := [(3, .int (nI (i + 1))), (4, .int (N k i)), (0, .ref (eA E 0)), (1, .int (nI k)), (2, .ref (eA E (5 + k)))]) C dX3_load_91 (by rfl) (by exact nI_p1 _) (by decide) rfl ?_
                  refine gx_goto (tgt := 33) C dX3_load_94 (by decide) ?_
                  refine gx_sub [2, 3, 4, 0] (lv' := [(0, .ref (eA E 0)), (1, .int (nI k)), (2, .ref (eA E (5 + k))), (3, .int (nI (i + 1)))]) rfl ?_
                  exact ih33 (i + 1) σ9 (up2 (up2 Kc 6 i (N k i)) 7 i 0) (by omega) (by omega) hK9 ((hOc.grudge (p := i) (v := (N k i)) (by omega) hld).gift (p := i) (v := 0) (by omega)) (by rw [nn_up (Or.inl (by decide)), nn_up (Or.inl (by decide))]; exact hnc) (by rw [← eT, ldF, if_pos ⟨by omega, by omega, by assumption, by assumption⟩]) ((hFt).tr hF9)
                ·
                  refine gx_goto (tgt := 97) C dX3_load_78 (by decide) ?_
                  refine gx_iload_n C dX3_load_97 (by rfl) (by rfl) ?_
                  exact gx_iret C hr hlk rfl (fin_now hC hKc hOc hFt (by have q1 : ldF (N k) z 13 0 K = (nI i, Kc) := (by rw [← eT, show f + 1 = f + 1 from rfl, ldF, if_neg (by grind)]); simp only [opLoad, ck, cz, q1, bey, mis]; rw [if_pos (by grind), if_neg (by grind)])) dX3_load_98
      refine gx_sub [2, 3, 1, 0] (lv' := [(0, .ref (eA E 0)), (1, .int (nI k)), (2, .ref (eA E (5 + k))), (3, .int 0)]) rfl ?_
      exact loop33 13 0 σ K (by omega) (by omega) hK hO rfl rfl Fr.rf
    ·
      have h3 := b2_nz.mp h3
      refine gx_aload_n C dX3_load_24 (by rfl) (by rfl) ?_
      refine gx_ldc C kc_X3_229 dX3_load_25 ?_
      refine gx_callVI (As := [.int (-1000006)]) (rest := []) C (c_X3_found E σ (-1000006) 5 (by decide) (by decide)) z_X3_found ck3 (by rfl) (by rfl) ml_X3_49 (by rfl) (Nat.le_of_ble_eq_true rfl) ⟨Nat.le_of_ble_eq_true rfl, Nat.le_of_ble_eq_true rfl⟩ dX3_load_27 (fun r10 σ10 w10 => ?_)
      obtain ⟨u1, u2⟩ := w10; rw [u1, u2]; clear u1 u2
      exact gx_iret C hr hlk rfl (fin_fd hC (by decide) (by first | (simp only [opLoad, ck, bey, mis] <;> grind) | (simp only [opLoad, bey, mis] <;> grind))) dX3_load_30
  ·
    refine gx_callVR (As := [.int x]) (rest := []) C (c_X3_sheetAt_n E σ x (by assumption)) z_X3_sheetAt ck3 (by rfl) (by rfl) ml_X3_234 (by rfl) (Nat.le_of_ble_eq_true rfl) ⟨Nat.le_of_ble_eq_true rfl, Nat.le_of_ble_eq_true rfl⟩ dX3_load_2 (fun r11 σ11 w11 => ?_)
    obtain ⟨u1, u2⟩ := w11; rw [u1, u2]; clear u1 u2
    refine gx_st (st' := [.null]) rfl ?_
    refine gx_astore_nN (lv2 := [(2, .null), (0, .ref (eA E 0)), (1, .int x)]) C dX3_load_5 (by rfl) (by decide) rfl ?_
    refine gx_aload_nN C dX3_load_6 (by rfl) (by rfl) ?_
    refine gx_ifnonnullN C dX3_load_7 ?_
    refine gx_aload_n C dX3_load_10 (by rfl) (by rfl) ?_
    refine gx_ldc C kc_X3_48 dX3_load_11 ?_
    refine gx_callVI (As := [.int (-1000001)]) (rest := []) C (c_X3_found E σ (-1000001) 0 (by decide) (by decide)) z_X3_found ck3 (by rfl) (by rfl) ml_X3_49 (by rfl) (Nat.le_of_ble_eq_true rfl) ⟨Nat.le_of_ble_eq_true rfl, Nat.le_of_ble_eq_true rfl⟩ dX3_load_13 (fun r12 σ12 w12 => ?_)
    obtain ⟨u1, u2⟩ := w12; rw [u1, u2]; clear u1 u2
    exact gx_iret C hr hlk rfl (fin_fd hC (by decide) (by first | (simp only [opLoad, ck, bey, mis] <;> grind) | (simp only [opLoad, bey, mis] <;> grind))) dX3_load_16
theorem jd_f {K : Mm} {row : Nat → Int32} {i : Nat} (h : row i = bset (nn (mos (i + 1) K)) (inP (mos (i + 1) K) (nI 0))) (hn : nn (mos (i + 1) K) = nn K) : jdP K row i = false := by
  rw [hn] at h
  unfold jdP
  rw [h]
  rw [show nI 0 = (0 : Int32) from rfl]
  simp
theorem jd_t {K : Mm} {row : Nat → Int32} {i : Nat} (h : ¬ row i = bset (nn (mos (i + 1) K)) (inP (mos (i + 1) K) (nI 0))) (hn : nn (mos (i + 1) K) = nn K) : jdP K row i = true := by
  rw [hn] at h
  unfold jdP
  have h2 : ¬ row i = bset (nn K) (inP (mos (i + 1) K) 0) := h
  simp [h2]
set_option maxHeartbeats 4000000 in
set_option maxRecDepth 100000 in
theorem c_X3_judge (E : En) (σ : Mm) (K L : Mm) (g : Int32) (F : Nat → Int32) (tl : Int32) (Bt W Z : Nat → Int32) (N : Mm) (hC : CR σ (K, L, g, F, tl, Bt, W, Z, N)) (x : Int32) : CtI E yX3_judge cX3_judge 4 (some .int) 5 114 [.ref (eA E 0), .int x] σ (fun rr σ2 => rr = (opJudge (K, L, g, F, tl, Bt, W, Z, N) x).1 ∧ CR σ2 (opJudge (K, L, g, F, tl, Bt, W, Z, N) x).2 ∧ FC σ σ2) := by
  obtain ⟨⟨hK, hO⟩, ⟨hg1, hg2, hg3⟩, hFd, ⟨⟨htl, htl2⟩, hBt⟩, hSh⟩ := id hC
  obtain ⟨⟨hn, h12⟩, hpp, hlw, hsp, hz0⟩ := id hO
  refine CtI.of (by decide +kernel) (Nat.le_of_ble_eq_true rfl) (fun p e0 s m below meth c C hr hlk => ?_)
  refine gx_lv (lv' := [(0, .ref (eA E 0)), (1, .int x)]) rfl ?_
  refine gx_aload_n C dX3_judge_0 (by rfl) (by rfl) ?_
  refine gx_iload_n C dX3_judge_1 (by rfl) (by rfl) ?_
  by_cases hsk : 0 ≤ x ∧ x ≤ 3
  ·
    obtain ⟨k, hk, rfl⟩ := s_nat hsk
    have ck : (nI k).toNatClampNeg = k := nI_clamp (by omega)
    obtain ⟨⟨hw1, hw2⟩, ⟨hz1, z, hz2, hz3⟩, hnm⟩ := hSh k (by omega)
    have cz : (Z k).toNatClampNeg = z := by rw [hz3]; exact nI_clamp (by omega)
    refine gx_callVR (As := [.int (nI k)]) (rest := []) C (c_X3_sheetAt_k E σ k (by omega)) z_X3_sheetAt ck3 (by rfl) (by rfl) ml_X3_234 (by rfl) (Nat.le_of_ble_eq_true rfl) ⟨Nat.le_of_ble_eq_true rfl, Nat.le_of_ble_eq_true rfl⟩ dX3_judge_2 (fun r1 σ1 w1 => ?_)
    obtain ⟨u1, u2⟩ := w1; rw [u1, u2]; clear u1 u2
    refine gx_st (st' := [.ref (eA E (5 + k))]) rfl ?_
    refine gx_astore_n (lv2 := [(2, .ref (eA E (5 + k))), (0, .ref (eA E 0)), (1, .int (nI k))]) C dX3_judge_5 (by rfl) (by decide) rfl ?_
    refine gx_aload_n C dX3_judge_6 (by rfl) (by rfl) ?_
    refine gx_ifnonnull (tgt := 17) C dX3_judge_7 (by decide) ?_
    refine gx_aload_n C dX3_judge_17 (by rfl) (by rfl) ?_
    refine gx_callVI (As := []) (rest := []) C (c_X1_isMissing E σ k (by omega) (W k) (by first | exact hw1 | (rw [hFt (5 + k) (by omega)]; exact hw1))) z_X1_isMissing ck1 (sh_s hk) (by rfl) ml_X3_244 (by rfl) (Nat.le_of_ble_eq_true rfl) ⟨Nat.le_of_ble_eq_true rfl, Nat.le_of_ble_eq_true rfl⟩ dX3_judge_18 (fun r2 σ2 w2 => ?_)
    obtain ⟨u1, u2⟩ := w2; rw [u1, u2]; clear u1 u2
    refine gx_if_eq (tgt := 31) C dX3_judge_21 (by decide) (fun h3 => ?_) (fun h3 => ?_)
    ·
      have h3 := b2_z.mp h3
      refine gx_aload_n C dX3_judge_31 (by rfl) (by rfl) ?_
      refine gx_aload_n C dX3_judge_32 (by rfl) (by rfl) ?_
      refine gx_geti (k := 2) C ck1 (sh_s hk) (by rfl) (by decide) fl_X3_241 dX3_judge_33 ?_
      refine gx_st (st' := [.int (nI z), .ref (eA E 0)]) (by rw [hz1, hz3]) ?_
      refine gx_callVI (As := [.int (nI z)]) (rest := []) C (c_X3_isTooLate E σ K hK (nI z)) z_X3_isTooLate ck3 (by rfl) (by rfl) ml_X3_163 (by rfl) (Nat.le_of_ble_eq_true rfl) ⟨Nat.le_of_ble_eq_true rfl, Nat.le_of_ble_eq_true rfl⟩ dX3_judge_36 (fun r4 σ4 w4 => ?_)
      obtain ⟨u1, u2⟩ := w4; rw [u1, u2]; clear u1 u2
      refine gx_if_eq (tgt := 49) C dX3_judge_39 (by decide) (fun h5 => ?_) (fun h5 => ?_)
      ·
        have h5 := b2_z.mp h5
        refine gx_aload_n C dX3_judge_49 (by rfl) (by rfl) ?_
        refine gx_getr (j := 37) (k := 3) C ck3 (by rfl) (by rfl) (by decide) fl_X3_19 dX3_judge_50 ?_
        refine gx_aload_n C dX3_judge_53 (by rfl) (by rfl) ?_
        refine gx_getr (j := 13) (k := 0) C ck3 (by rfl) (by rfl) (by decide) fl_X3_10 dX3_judge_54 ?_
        refine gx_callVV (As := [.ref (eA E 13)]) (rest := []) C (c_X0_becomeLike E σ 37 isE_37 13 isE_13 (by decide) K hK) z_X0_becomeLike ck0 (by rfl) (by rfl) ml_X3_169 (by rfl) (Nat.le_of_ble_eq_true rfl) ⟨Nat.le_of_ble_eq_true rfl, Nat.le_of_ble_eq_true rfl⟩ dX3_judge_57 (fun σ6 w6 => ?_)
        obtain ⟨hK6, hF6⟩ := w6
        have hK6_13 := Emp.fr (e := 13) (e2 := 37) hK hF6 (by decide)
        refine gx_iconst (v := 0) C dX3_judge_60 (by decide) ?_
        refine gx_istore_n (lv2 := [(3, .int 0), (2, .ref (eA E (5 + k))), (0, .ref (eA E 0)), (1, .int (nI k))]) C dX3_judge_61 (by rfl) (by decide) rfl ?_
        have loop62 : ∀ (kf i : Nat), i ≤ z → z < i + kf → ∀ τ : Mm, (Emp τ 37 (mos i K)) → (Fr 37 σ τ) → (∀ b, b < i → jdP K (N k) b = false) → Gx E p e0 (rmF 5 114) s m ([.ref (eA E 0), .int (nI k)] : List Value).toArray below meth c (MQ below (va_Qi (fun rr σ2 => rr = (opJudge (K, L, g, F, tl, Bt, W, Z, N) (nI k)).1 ∧ CR σ2 (opJudge (K, L, g, F, tl, Bt, W, Z, N) (nI k)).2 ∧ FC σ σ2) (WQ E) (AA E s.heap.size)) ([.ref (eA E 0), .int (nI k)] : List Value).toArray s 0 0 (AA E s.heap.size)) 4 62 [(0, .ref (eA E 0)), (1, .int (nI k)), (2, .ref (eA E (5 + k))), (3, .int (nI i))] [] τ := by
          intro kf
          induction kf with
          | zero => intro i q1 q2; exact absurd q2 (by omega)
          | succ kf ih62 =>
            intro i a62 b62 τ hKt hFt hno
            refine gx_iload_n C dX3_judge_62 (by rfl) (by rfl) ?_
            refine gx_aload_n C dX3_judge_63 (by rfl) (by rfl) ?_
            refine gx_geti (k := 2) C ck1 (sh_s hk) (by rfl) (by decide) fl_X3_241 dX3_judge_64 ?_
            refine gx_st (st' := [.int (nI z), .int (nI i)]) (by rw [hFt (5 + k) (by omega), hz1, hz3]) ?_
            refine gx_icmp_ge (tgt := 105) C dX3_judge_67 (by decide) (fun h7 => ?_) (fun h7 => ?_)
            ·
              have h7 := (nI_leI (a := z) (b := i) (by omega) (by omega)).mp h7
              refine gx_iconst (v := 0) C dX3_judge_105 (by decide) ?_
              exact gx_iret C hr hlk rfl (fin_try hC hFt (by have q1 : frst (jdP K (N k)) z 0 = -1 := frst_no z 0 (fun b x1 x2 => hno b (by omega)); simp only [opJudge, ck, cz, q1, bey, mis, sta]; rw [if_pos (by grind), if_neg (by grind), if_neg (by grind)]; rfl)) dX3_judge_106
            ·
              have h7 := (not_congr (nI_leI (a := z) (b := i) (by omega) (by omega))).mp h7
              refine gx_aload_n C dX3_judge_70 (by rfl) (by rfl) ?_
              refine gx_getr (j := 37) (k := 3) C ck3 (by rfl) (by rfl) (by decide) fl_X3_19 dX3_judge_71 ?_
              refine gx_callVV (As := []) (rest := []) C (c_X0_goMonth E τ 37 isE_37 (mos i K) hKt ((mos_keep hO i).1)) z_X0_goMonth ck0 (by rfl) (by rfl) ml_X3_179 (by rfl) (Nat.le_of_ble_eq_true rfl) ⟨Nat.le_of_ble_eq_true rfl, Nat.le_of_ble_eq_true rfl⟩ dX3_judge_74 (fun σ8 w8 => ?_)
              obtain ⟨hK8, hF8⟩ := w8
              obtain ⟨X8, eX8⟩ : ∃ X, X = mo (mos i K) := ⟨_, rfl⟩
              rw [← eX8] at hK8
              have hO8 : Ok X8 := by rw [eX8]; exact (mo_keep ((mos_keep hO i).1)).1
              have h128 := hO8.1.2
              refine gx_aload_n C dX3_judge_77 (by rfl) (by rfl) ?_
              refine gx_getr (j := 9 + k) (k := 0) C ck1 (sh_s hk) (by rfl) (by decide) fl_X3_248 dX3_judge_78 ?_
              refine gx_iload_n C dX3_judge_81 (by rfl) (by rfl) ?_
              refine gx_ialdN (k := i) C (sh_n hk) rfl (by omega) (by decide) dX3_judge_82 ?_
              refine gx_st (st' := [.int (N k i)]) (by rw [((hFt).tr hF8) (9 + k) (by omega), hnm i (by omega)]) ?_
              refine gx_aload_n C dX3_judge_83 (by rfl) (by rfl) ?_
              refine gx_getr (j := 37) (k := 3) C ck3 (by rfl) (by rfl) (by decide) fl_X3_19 dX3_judge_84 ?_
              refine gx_getr (j := 46) (k := 8) C ck0 (by rfl) (by rfl) (by decide) fl_X3_60 dX3_judge_87 ?_
              refine gx_iconst (v := 0) C dX3_judge_90 (by decide) ?_
              refine gx_ialdN (k := 0) C (by rfl) (by rfl) (by decide) (by decide) dX3_judge_91 ?_
              refine gx_st (st' := [.int (bset (nn X8) (inP X8 (nI 0))), .int (N k i)]) (by rw [hK8.in (r := 0) (by omega)]) ?_
              refine gx_icmp_eq (tgt := 99) C dX3_judge_92 (by decide) (fun h9 => ?_) (fun h9 => ?_)
              ·
                refine gx_iinc (v := nI (i + 1)) (lv2 := [(3, .int (nI (i + 1))), (0, .ref (eA E 0)), (1, .int (nI k)), (2, .ref (eA E (5 + k)))]) C dX3_judge_99 (by rfl) (by exact nI_p1 _) (by decide) rfl ?_
                refine gx_goto (tgt := 62) C dX3_judge_102 (by decide) ?_
                refine gx_sub [1, 2, 3, 0] (lv' := [(0, .ref (eA E 0)), (1, .int (nI k)), (2, .ref (eA E (5 + k))), (3, .int (nI (i + 1)))]) rfl ?_
                exact ih62 (i + 1) (by omega) (by omega) σ8 (by rw [mos, ← eX8]; exact hK8) ((hFt).tr hF8) (lt_s hno (jd_f (by rw [mos, ← eX8]; assumption) (mos_keep hO (i + 1)).2))
              ·
                refine gx_iconst (v := 1) C dX3_judge_95 (by decide) ?_
                refine gx_iload_n C dX3_judge_96 (by rfl) (by rfl) ?_
                refine gx_iadd C dX3_judge_97 ?_
                exact gx_iret C hr hlk rfl (fin_try hC ((hFt).tr hF8) (by have q0 : jdP K (N k) i = true := jd_t (by rw [mos, ← eX8]; assumption) (mos_keep hO (i + 1)).2; have q1 : frst (jdP K (N k)) z 0 = nI i := frst_at q0 z 0 (by omega) (by omega) (fun b x1 x2 => hno b x2); simp only [opJudge, ck, cz, q1, bey, mis, sta]; rw [if_pos (by grind), if_neg (by grind), if_neg (by grind), if_neg (nI_m1 (by omega))])) dX3_judge_98
        refine gx_sub [2, 3, 1, 0] (lv' := [(0, .ref (eA E 0)), (1, .int (nI k)), (2, .ref (eA E (5 + k))), (3, .int 0)]) rfl ?_
        refine gx_lv (lv' := [(0, .ref (eA E 0)), (1, .int (nI k)), (2, .ref (eA E (5 + k))), (3, .int (nI 0))]) (by rfl) ?_
        exact loop62 (z + 1) 0 (by omega) (by omega) σ6 hK6 hF6 (fun b h1 => absurd h1 (by omega))
      ·
        have h5 := b2_nz.mp h5
        refine gx_aload_n C dX3_judge_42 (by rfl) (by rfl) ?_
        refine gx_ldc C kc_X3_56 dX3_judge_43 ?_
        refine gx_callVI (As := [.int (-1000005)]) (rest := []) C (c_X3_found E σ (-1000005) 4 (by decide) (by decide)) z_X3_found ck3 (by rfl) (by rfl) ml_X3_49 (by rfl) (Nat.le_of_ble_eq_true rfl) ⟨Nat.le_of_ble_eq_true rfl, Nat.le_of_ble_eq_true rfl⟩ dX3_judge_45 (fun r10 σ10 w10 => ?_)
        obtain ⟨u1, u2⟩ := w10; rw [u1, u2]; clear u1 u2
        exact gx_iret C hr hlk rfl (fin_fd hC (by decide) (by first | (simp only [opJudge, ck, bey, mis, sta] <;> grind) | (simp only [opJudge, bey, mis, sta] <;> grind))) dX3_judge_48
    ·
      have h3 := b2_nz.mp h3
      refine gx_aload_n C dX3_judge_24 (by rfl) (by rfl) ?_
      refine gx_ldc C kc_X3_229 dX3_judge_25 ?_
      refine gx_callVI (As := [.int (-1000006)]) (rest := []) C (c_X3_found E σ (-1000006) 5 (by decide) (by decide)) z_X3_found ck3 (by rfl) (by rfl) ml_X3_49 (by rfl) (Nat.le_of_ble_eq_true rfl) ⟨Nat.le_of_ble_eq_true rfl, Nat.le_of_ble_eq_true rfl⟩ dX3_judge_27 (fun r11 σ11 w11 => ?_)
      obtain ⟨u1, u2⟩ := w11; rw [u1, u2]; clear u1 u2
      exact gx_iret C hr hlk rfl (fin_fd hC (by decide) (by first | (simp only [opJudge, ck, bey, mis, sta] <;> grind) | (simp only [opJudge, bey, mis, sta] <;> grind))) dX3_judge_30
  ·
    refine gx_callVR (As := [.int x]) (rest := []) C (c_X3_sheetAt_n E σ x (by assumption)) z_X3_sheetAt ck3 (by rfl) (by rfl) ml_X3_234 (by rfl) (Nat.le_of_ble_eq_true rfl) ⟨Nat.le_of_ble_eq_true rfl, Nat.le_of_ble_eq_true rfl⟩ dX3_judge_2 (fun r12 σ12 w12 => ?_)
    obtain ⟨u1, u2⟩ := w12; rw [u1, u2]; clear u1 u2
    refine gx_st (st' := [.null]) rfl ?_
    refine gx_astore_nN (lv2 := [(2, .null), (0, .ref (eA E 0)), (1, .int x)]) C dX3_judge_5 (by rfl) (by decide) rfl ?_
    refine gx_aload_nN C dX3_judge_6 (by rfl) (by rfl) ?_
    refine gx_ifnonnullN C dX3_judge_7 ?_
    refine gx_aload_n C dX3_judge_10 (by rfl) (by rfl) ?_
    refine gx_ldc C kc_X3_48 dX3_judge_11 ?_
    refine gx_callVI (As := [.int (-1000001)]) (rest := []) C (c_X3_found E σ (-1000001) 0 (by decide) (by decide)) z_X3_found ck3 (by rfl) (by rfl) ml_X3_49 (by rfl) (Nat.le_of_ble_eq_true rfl) ⟨Nat.le_of_ble_eq_true rfl, Nat.le_of_ble_eq_true rfl⟩ dX3_judge_13 (fun r13 σ13 w13 => ?_)
    obtain ⟨u1, u2⟩ := w13; rw [u1, u2]; clear u1 u2
    exact gx_iret C hr hlk rfl (fin_fd hC (by decide) (by first | (simp only [opJudge, ck, bey, mis, sta] <;> grind) | (simp only [opJudge, bey, mis, sta] <;> grind))) dX3_judge_16
theorem add_m1 (x : Int32) : x + (-1) = x - 1 := by
  apply Int32.toBitVec_inj.mp
  rw [Int32.toBitVec_add, Int32.toBitVec_sub, BitVec.sub_eq_add_neg]
  congr 1
theorem fin_tp {σ σ' K L : Mm} {g : Int32} {F : Nat → Int32} {tl tl' : Int32} {Bt Bt' W Z : Nat → Int32} {N : Mm} {v : Int32} {x : Int32 × As} (h : CR σ (K, L, g, F, tl, Bt, W, Z, N)) (he : ∀ i, ¬ i = 3 → ¬ i = 4 → σ' i = σ i) (h1 : σ' 3 1 = tl') (h2 : ∃ t, t ≤ 120 ∧ tl' = nI t) (h3 : ∀ i, i < 120 → σ' 4 i = Bt' i) (hx : x = (v, (K, L, g, F, tl', Bt', W, Z, N))) : v = x.1 ∧ CR σ' x.2 ∧ FC σ σ' := by
  subst hx
  exact ⟨rfl, h.tape he h1 h2 h3, fun i hi => he i (by omega) (by omega)⟩
theorem fd_end {t j : Nat} (h1 : j ≤ t) (ht : t ≤ 4) (h : nI (t - j) - 1 < 0) : j = t := by
  rcases Nat.lt_or_ge j t with h2 | h2
  · exfalso
    rw [show t - j = (t - (j + 1)) + 1 by omega, nI_pred] at h
    exact nI_pos (by omega) h
  · omega
theorem fd_go {t j : Nat} (h1 : j ≤ t) (ht : t ≤ 4) (h : ¬ nI (t - j) - 1 < 0) : j < t := by
  rcases Nat.lt_or_ge j t with h2 | h2
  · exact h2
  · exfalso
    rw [show t - j = 0 by omega] at h
    exact h (by decide)
set_option maxHeartbeats 4000000 in
set_option maxRecDepth 100000 in
theorem c_X3_feed (E : En) (σ : Mm) (K L : Mm) (g : Int32) (F : Nat → Int32) (tl : Int32) (Bt W Z : Nat → Int32) (N : Mm) (hC : CR σ (K, L, g, F, tl, Bt, W, Z, N)) (x n : Int32) : CtI E yX3_feed cX3_feed 4 (some .int) 2 44 [.ref (eA E 0), .int x, .int n] σ (fun rr σ2 => rr = (opFeed (K, L, g, F, tl, Bt, W, Z, N) x n).1 ∧ CR σ2 (opFeed (K, L, g, F, tl, Bt, W, Z, N) x n).2 ∧ FC σ σ2) := by
  obtain ⟨⟨hK, hO⟩, ⟨hg1, hg2, hg3⟩, hFd, ⟨⟨htl, htl2⟩, hBt⟩, hSh⟩ := id hC
  obtain ⟨⟨hn, h12⟩, hpp, hlw, hsp, hz0⟩ := id hO
  obtain ⟨t0, ht1, ht0⟩ := htl2
  refine CtI.of (by decide +kernel) (Nat.le_of_ble_eq_true rfl) (fun p e0 s m below meth c C hr hlk => ?_)
  refine gx_lv (lv' := [(0, .ref (eA E 0)), (1, .int x), (2, .int n)]) rfl ?_
  refine gx_iload_n C dX3_feed_0 (by rfl) (by rfl) ?_
  refine gx_iconst (v := 1) C dX3_feed_1 (by decide) ?_
  refine gx_iconst (v := 4) C dX3_feed_2 (by decide) ?_
  refine gx_callSI (As := [.int n, .int 1, .int 4]) (rest := []) C (c_X3_isWithin E σ n 1 4) z_X3_isWithin (by rfl) ml_X3_44 (by rfl) (Nat.le_of_ble_eq_true rfl) ⟨Nat.le_of_ble_eq_true rfl, Nat.le_of_ble_eq_true rfl⟩ dX3_feed_3 (fun r1 σ1 w1 => ?_)
  obtain ⟨u1, u2⟩ := w1; rw [u1, u2]; clear u1 u2
  refine gx_if_ne (tgt := 16) C dX3_feed_6 (by decide) (fun h2 => ?_) (fun h2 => ?_)
  ·
    have h2 := b2_nz.mp h2
    obtain ⟨t, ht, rfl⟩ := i_nat (M := 4) (n := 4) (by decide) ⟨Int32.le_trans (by decide) h2.1, h2.2⟩
    have ct : (nI t).toNatClampNeg = t := nI_clamp (by omega)
    refine gx_aload_n C dX3_feed_16 (by rfl) (by rfl) ?_
    refine gx_getr (j := 3) (k := 4) C ck3 (by rfl) (by rfl) (by decide) fl_X3_25 dX3_feed_17 ?_
    refine gx_geti (k := 1) C ck2 (by rfl) (by rfl) (by decide) fl_X3_216 dX3_feed_20 ?_
    refine gx_st (st' := [.int (nI t0)]) (by rw [htl, ht0]) ?_
    refine gx_iload_n C dX3_feed_23 (by rfl) (by rfl) ?_
    refine gx_iadd C dX3_feed_24 ?_
    refine gx_st (st' := [.int (nI (t0 + t))]) (by rw [show (nI t0) + (nI t) = nI (t0 + t) from nI_add t0 t]) ?_
    refine gx_bipush (v := 120) C dX3_feed_25 (by decide) ?_
    refine gx_icmp_le (tgt := 37) C dX3_feed_27 (by decide) (fun h3 => ?_) (fun h3 => ?_)
    ·
      have h3 := (nI_leI (a := (t0 + t)) (b := 120) (by omega) (by omega)).mp h3
      refine gx_iload_n C dX3_feed_37 (by rfl) (by rfl) ?_
      refine gx_iconst (v := 1) C dX3_feed_38 (by decide) ?_
      refine gx_isub C dX3_feed_39 ?_
      refine gx_istore_n (lv2 := [(3, .int ((nI t) - 1)), (0, .ref (eA E 0)), (1, .int x), (2, .int (nI t))]) C dX3_feed_40 (by rfl) (by decide) rfl ?_
      have loop41 : ∀ (kf j : Nat), j ≤ t → t < j + kf → ∀ τ : Mm, (τ 3 1 = nI (t0 + j)) → (∃ Bc, (∀ q, q < 120 → τ 4 q = Bc q) ∧ fdB x (t - j) (t0 + j) Bc = fdB x t t0 Bt) → (∀ q, ¬ q = 3 → ¬ q = 4 → τ q = σ q) → Gx E p e0 (rmF 2 44) s m ([.ref (eA E 0), .int x, .int (nI t)] : List Value).toArray below meth c (MQ below (va_Qi (fun rr σ2 => rr = (opFeed (K, L, g, F, tl, Bt, W, Z, N) x (nI t)).1 ∧ CR σ2 (opFeed (K, L, g, F, tl, Bt, W, Z, N) x (nI t)).2 ∧ FC σ σ2) (WQ E) (AA E s.heap.size)) ([.ref (eA E 0), .int x, .int (nI t)] : List Value).toArray s 0 0 (AA E s.heap.size)) 4 41 [(0, .ref (eA E 0)), (1, .int x), (2, .int (nI t)), (3, .int (nI (t - j) - 1))] [] τ := by
        intro kf
        induction kf with
        | zero => intro j q1 q2; exact absurd q2 (by omega)
        | succ kf ih41 =>
          intro j a41 b41 τ hl1 hl2 hl3
          refine gx_iload_n C dX3_feed_41 (by rfl) (by rfl) ?_
          refine gx_if_lt (tgt := 89) C dX3_feed_42 (by decide) (fun h4 => ?_) (fun h4 => ?_)
          ·
            have hjt : j = t := fd_end (by omega) (by omega) h4
            refine gx_aload_n C dX3_feed_89 (by rfl) (by rfl) ?_
            refine gx_getr (j := 3) (k := 4) C ck3 (by rfl) (by rfl) (by decide) fl_X3_25 dX3_feed_90 ?_
            refine gx_geti (k := 1) C ck2 (by rfl) (by rfl) (by decide) fl_X3_216 dX3_feed_93 ?_
            refine gx_st (st' := [.int (nI (t0 + j))]) (by rw [hl1]) ?_
            exact gx_iret C hr hlk rfl (by obtain ⟨Bc, y1, y2⟩ := hl2; subst hjt; rw [Nat.sub_self, fdB] at y2; subst y2; exact fin_tp hC hl3 hl1 ⟨_, by omega, rfl⟩ y1 (by simp only [opFeed, ct, ht0, show nI t0 + nI j = nI (t0 + j) from nI_add t0 j, nI_clamp (show t0 < 2 ^ 31 by omega)]; rw [if_pos (by grind), if_neg (fun q => Int32.not_le.mpr q (by assumption))])) dX3_feed_96
          ·
            have hjt : j < t := fd_go (by omega) (by omega) h4
            refine gx_lv (lv' := [(0, .ref (eA E 0)), (1, .int x), (2, .int (nI t)), (3, .int (nI (t - (j + 1))))]) (by rw [show nI (t - j) - 1 = nI (t - (j + 1)) from by rw [show t - j = (t - (j + 1)) + 1 by omega]; exact nI_pred _]) ?_
            refine gx_aload_n C dX3_feed_45 (by rfl) (by rfl) ?_
            refine gx_getr (j := 3) (k := 4) C ck3 (by rfl) (by rfl) (by decide) fl_X3_25 dX3_feed_46 ?_
            refine gx_getr (j := 4) (k := 0) C ck2 (by rfl) (by rfl) (by decide) fl_X3_219 dX3_feed_49 ?_
            refine gx_aload_n C dX3_feed_52 (by rfl) (by rfl) ?_
            refine gx_getr (j := 3) (k := 4) C ck3 (by rfl) (by rfl) (by decide) fl_X3_25 dX3_feed_53 ?_
            refine gx_geti (k := 1) C ck2 (by rfl) (by rfl) (by decide) fl_X3_216 dX3_feed_56 ?_
            refine gx_st (st' := [.int (nI (t0 + j)), .ref (eA E 4)]) (by rw [hl1]) ?_
            refine gx_iload_n C dX3_feed_59 (by rfl) (by rfl) ?_
            refine gx_bipush (v := 8) C dX3_feed_60 (by decide) ?_
            refine gx_iload_n C dX3_feed_62 (by rfl) (by rfl) ?_
            refine gx_imul C dX3_feed_63 ?_
            refine gx_iushr C rfl dX3_feed_64 ?_
            refine gx_sipush (v := 255) C dX3_feed_65 (by decide) ?_
            refine gx_iand C dX3_feed_68 ?_
            refine gx_iastN (k := (t0 + j)) C (by rfl) rfl (by omega) (by decide) dX3_feed_69 ?_
            refine gx_aload_n C dX3_feed_70 (by rfl) (by rfl) ?_
            refine gx_getr (j := 3) (k := 4) C ck3 (by rfl) (by rfl) (by decide) fl_X3_25 dX3_feed_71 ?_
            refine gx_dup C (by rfl) dX3_feed_74 ?_
            refine gx_geti (k := 1) C ck2 (by rfl) (by rfl) (by decide) fl_X3_216 dX3_feed_75 ?_
            refine gx_st (st' := [.int (nI (t0 + j)), .ref (eA E 3)]) (by rw [up2_o (show (3 : Nat) ≠ 4 by omega), hl1]) ?_
            refine gx_iconst (v := 1) C dX3_feed_78 (by decide) ?_
            refine gx_iadd C dX3_feed_79 ?_
            refine gx_st (st' := [.int (nI (t0 + j + 1)), .ref (eA E 3)]) (by rw [show (nI (t0 + j)) + 1 = nI (t0 + j + 1) from nI_add (t0 + j) 1]) ?_
            refine gx_puti (k := 1) C ck2 (by rfl) (by rfl) (by decide) (by rfl) rfl rfl fl_X3_216 dX3_feed_80 ?_
            refine gx_iinc (v := (nI (t - (j + 1))) + (-1)) (lv2 := [(3, .int ((nI (t - (j + 1))) + (-1))), (0, .ref (eA E 0)), (1, .int x), (2, .int (nI t))]) C dX3_feed_83 (by rfl) rfl (by decide) rfl ?_
            refine gx_goto (tgt := 41) C dX3_feed_86 (by decide) ?_
            refine gx_sub [1, 2, 3, 0] (lv' := [(0, .ref (eA E 0)), (1, .int x), (2, .int (nI t)), (3, .int ((nI (t - (j + 1))) + (-1)))]) rfl ?_
            refine gx_lv (lv' := [(0, .ref (eA E 0)), (1, .int x), (2, .int (nI t)), (3, .int (nI (t - (j + 1)) - 1))]) (by rw [add_m1]) ?_
            exact ih41 (j + 1) (by omega) (by omega) (up2 (up2 τ 4 (t0 + j) (((x.toUInt32 >>> ((8 * (nI (t - (j + 1))) : Int32).toUInt32 &&& Int32.toUInt32 31)).toInt32) &&& 255)) 3 1 (nI (t0 + j + 1))) (by rw [up2_s, pk_us]; rfl) (by obtain ⟨Bc, y1, y2⟩ := hl2; exact ⟨upd Bc (t0 + j) (ush x (8 * nI (t - (j + 1))) &&& 255), fun q hq => by rw [up2_o (show (4 : Nat) ≠ 3 by omega), up2_s]; exact (if hh : q = t0 + j then by rw [hh, pk_us, pk_us]; rfl else by rw [pk_un hh, pk_un hh]; exact y1 q hq), by rw [← y2, show t - j = (t - (j + 1)) + 1 by omega, fdB]; rfl⟩) (fun q y1 y2 => by rw [up2_o y1, up2_o y2]; exact hl3 q y1 y2)
      refine gx_sub [1, 2, 3, 0] (lv' := [(0, .ref (eA E 0)), (1, .int x), (2, .int (nI t)), (3, .int ((nI t) - 1))]) rfl ?_
      refine gx_lv (lv' := [(0, .ref (eA E 0)), (1, .int x), (2, .int (nI t)), (3, .int (nI (t - 0) - 1))]) (by rw [Nat.sub_zero]) ?_
      exact loop41 (t + 1) 0 (by omega) (by omega) σ (by rw [htl, ht0]; rfl) (⟨Bt, hBt, by rw [Nat.sub_zero, Nat.add_zero]⟩) (fun q _ _ => rfl)
    ·
      have h3 := (not_congr (nI_leI (a := (t0 + t)) (b := 120) (by omega) (by omega))).mp h3
      refine gx_aload_n C dX3_feed_30 (by rfl) (by rfl) ?_
      refine gx_ldc C kc_X3_94 dX3_feed_31 ?_
      refine gx_callVI (As := [.int (-1000002)]) (rest := []) C (c_X3_found E σ (-1000002) 1 (by decide) (by decide)) z_X3_found ck3 (by rfl) (by rfl) ml_X3_49 (by rfl) (Nat.le_of_ble_eq_true rfl) ⟨Nat.le_of_ble_eq_true rfl, Nat.le_of_ble_eq_true rfl⟩ dX3_feed_33 (fun r5 σ5 w5 => ?_)
      obtain ⟨u1, u2⟩ := w5; rw [u1, u2]; clear u1 u2
      exact gx_iret C hr hlk rfl (fin_fd hC (by decide) (by first | (simp only [opFeed, ct, bey, ful, ht0, show nI t0 + nI t = nI (t0 + t) from nI_add t0 t] <;> grind) | (simp only [opFeed, bey, ful] <;> grind))) dX3_feed_36
  ·
    have h2 := b2_z.mp h2
    refine gx_aload_n C dX3_feed_9 (by rfl) (by rfl) ?_
    refine gx_ldc C kc_X3_48 dX3_feed_10 ?_
    refine gx_callVI (As := [.int (-1000001)]) (rest := []) C (c_X3_found E σ (-1000001) 0 (by decide) (by decide)) z_X3_found ck3 (by rfl) (by rfl) ml_X3_49 (by rfl) (Nat.le_of_ble_eq_true rfl) ⟨Nat.le_of_ble_eq_true rfl, Nat.le_of_ble_eq_true rfl⟩ dX3_feed_12 (fun r6 σ6 w6 => ?_)
    obtain ⟨u1, u2⟩ := w6; rw [u1, u2]; clear u1 u2
    exact gx_iret C hr hlk rfl (fin_fd hC (by decide) (by first | (simp only [opFeed, ct, bey, ful, ht0, show nI t0 + nI t = nI (t0 + t) from nI_add t0 t] <;> grind) | (simp only [opFeed, bey, ful] <;> grind))) dX3_feed_15
