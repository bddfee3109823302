theorem cq_le {z : Nat} {fx nx : Int32} (hz : z ≤ 40) (h1 : 0 ≤ fx) (h2 : 0 ≤ nx) (h : nx ≤ nI z - fx) : fx ≤ nI z := by
  obtain ⟨a, ha, rfl⟩ := nI_of (fun h9 => Int32.not_le.mpr h9 h1 : ¬ fx < 0)
  obtain ⟨b, hb, rfl⟩ := nI_of (fun h9 => Int32.not_le.mpr h9 h2 : ¬ nx < 0)
  have e : (nI z - nI a).toInt = (z : Int) - a := by
    rw [Int32.toInt_sub, nI_toInt (by omega), nI_toInt (by omega)]
    exact Int.bmod_eq_of_le (by omega) (by omega)
  rw [Int32.le_iff_toInt_le, e, nI_toInt hb] at h
  exact nI_le (by omega) (by omega)
theorem sub2 {n i : Nat} (h : i < n) : nI n - 1 - nI i = nI (n - 1 - i) := by
  rw [show nI n - 1 = nI (n - 1) from pk_sub (a := n) (b := 1) (by omega), pk_sub (by omega)]
theorem ifc {c d : Prop} [Decidable c] [Decidable d] {a b : Int32} (h : c ↔ d) : (if c then a else b) = if d then a else b := by simp [h]
def cpI (N : Mm) (s t f u a b : Nat) : Mm := fun s' q => if s' = t ∧ u + a ≤ q ∧ q < u + b then N s (f + (q - u)) else N s' q
theorem cpI_end (N : Mm) (s t f u n : Nat) : cpI N s t f u 0 n = rw2 N t (va_cpy (N s) (N t) f u n) := by
  funext s' q
  unfold cpI rw2 va_cpy
  by_cases h : s' = t
  · subst h
    rw [if_pos rfl]
    by_cases h2 : u ≤ q ∧ q < u + n
    · rw [if_pos ⟨rfl, by omega⟩, if_pos h2]
    · rw [if_neg (by omega), if_neg h2]
  · rw [if_neg (fun q => h q.1), if_neg h]
theorem cpI_0 (N : Mm) (s t f u a : Nat) : cpI N s t f u a a = N := by
  funext s' q
  unfold cpI
  rw [if_neg (by omega)]
set_option maxHeartbeats 4000000 in
set_option maxRecDepth 100000 in
theorem c_X4_copy (E : En) (σ : Mm) (K L : Mm) (g : Int32) (F : Nat → Int32) (tl : Int32) (Bt W Z : Nat → Int32) (N : Mm) (hR : MR σ (K, L, g, F, tl, Bt, W, Z, N)) (x fx y ux nx : Int32) : CtI E yX4_copy cX4_copy 9 (some .int) 2 45 [.ref (eA E 49), .int x, .int fx, .int y, .int ux, .int nx] σ (fun rr σ2 => rr = (opCopy (K, L, g, F, tl, Bt, W, Z, N) x fx y ux nx).1 ∧ MR σ2 (opCopy (K, L, g, F, tl, Bt, W, Z, N) x fx y ux nx).2 ∧ FM σ σ2) := by
  obtain ⟨⟨hM, hO⟩, ⟨hg1, hg2, hg3⟩, hFd, ⟨⟨htl, htl2⟩, hBt⟩, hSh⟩ := id hR
  obtain ⟨⟨hn, h12⟩, hpp, hlw, hsp, hz0⟩ := id hO
  refine CtI.of (by decide +kernel) (Nat.le_of_ble_eq_true rfl) (fun p e0 s m below meth c C hr hlk => ?_)
  refine gx_lv (lv' := [(0, .ref (eA E 49)), (1, .int x), (2, .int fx), (3, .int y), (4, .int ux), (5, .int nx)]) rfl ?_
  refine gx_iload_n C dX4_copy_0 (by rfl) (by rfl) ?_
  refine gx_callSI (As := [.int x]) (rest := []) C (c_X4_isSheet E σ x) z_X4_isSheet (by rfl) ml_X4_306 (by rfl) (Nat.le_of_ble_eq_true rfl) ⟨Nat.le_of_ble_eq_true rfl, Nat.le_of_ble_eq_true rfl⟩ dX4_copy_1 (fun r1 σ1 w1 => ?_)
  obtain ⟨u1, u2⟩ := w1; rw [u1, u2]; clear u1 u2
  refine gx_if_eq (tgt := 14) C dX4_copy_4 (by decide) (fun h2 => ?_) (fun h2 => ?_)
  ·
    have h2 := b2_z.mp h2
    refine gx_aload_n C dX4_copy_14 (by rfl) (by rfl) ?_
    refine gx_ldc C kc_X4_37 dX4_copy_15 ?_
    refine gx_callVI (As := [.int (-1000001)]) (rest := []) C (c_X4_finds E σ (-1000001) 0 (by decide) (by decide)) z_X4_finds ck4 (by rfl) (by rfl) ml_X4_39 (by rfl) (Nat.le_of_ble_eq_true rfl) ⟨Nat.le_of_ble_eq_true rfl, Nat.le_of_ble_eq_true rfl⟩ dX4_copy_17 (fun r3 σ3 w3 => ?_)
    obtain ⟨u1, u2⟩ := w3; rw [u1, u2]; clear u1 u2
    exact gx_iret C hr hlk rfl (fim_fd hR (by decide) (by first | (simp only [opCopy, ck, cj, hz3, hz3j, bey, mis, knd] <;> grind) | (simp only [opCopy, ck, bey, mis, knd] <;> grind) | (simp only [opCopy, bey, mis, knd] <;> grind))) dX4_copy_20
  ·
    have h2 := b2_nz.mp h2
    obtain ⟨k, hk, rfl⟩ := s_nat h2
    have ck : (nI k).toNatClampNeg = k := nI_clamp (by omega)
    obtain ⟨⟨hw1, hw2⟩, ⟨hz1, z, hz2, hz3⟩, hnm⟩ := hSh k (by omega)
    have cz : (Z k).toNatClampNeg = z := by rw [hz3]; exact nI_clamp (by omega)
    refine gx_iload_n C dX4_copy_7 (by rfl) (by rfl) ?_
    refine gx_callSI (As := [.int y]) (rest := []) C (c_X4_isSheet E σ y) z_X4_isSheet (by rfl) ml_X4_306 (by rfl) (Nat.le_of_ble_eq_true rfl) ⟨Nat.le_of_ble_eq_true rfl, Nat.le_of_ble_eq_true rfl⟩ dX4_copy_8 (fun r4 σ4 w4 => ?_)
    obtain ⟨u1, u2⟩ := w4; rw [u1, u2]; clear u1 u2
    refine gx_if_ne (tgt := 21) C dX4_copy_11 (by decide) (fun h5 => ?_) (fun h5 => ?_)
    ·
      have h5 := b2_nz.mp h5
      obtain ⟨j, hj, rfl⟩ := s_nat h5
      have cj : (nI j).toNatClampNeg = j := nI_clamp (by omega)
      obtain ⟨⟨hw1j, hw2j⟩, ⟨hz1j, zj, hz2j, hz3j⟩, hnmj⟩ := hSh j (by omega)
      have czj : (Z j).toNatClampNeg = zj := by rw [hz3j]; exact nI_clamp (by omega)
      refine gx_aload_n C dX4_copy_21 (by rfl) (by rfl) ?_
      refine gx_getr (j := 56) (k := 13) C ck4 (by rfl) (by rfl) (by decide) fl_X4_28 dX4_copy_22 ?_
      refine gx_iload_n C dX4_copy_25 (by rfl) (by rfl) ?_
      refine gx_ialdN (k := k) C (by rfl) rfl (by omega) (by decide) dX4_copy_26 ?_
      refine gx_st (st' := [.int (W k)]) (by rw [hw1]) ?_
      refine gx_if_eq (tgt := 39) C dX4_copy_27 (by decide) (fun h6 => ?_) (fun h6 => ?_)
      ·
        refine gx_aload_n C dX4_copy_39 (by rfl) (by rfl) ?_
        refine gx_ldcw C kc_X4_301 dX4_copy_40 ?_
        refine gx_callVI (As := [.int (-1000006)]) (rest := []) C (c_X4_finds E σ (-1000006) 5 (by decide) (by decide)) z_X4_finds ck4 (by rfl) (by rfl) ml_X4_39 (by rfl) (Nat.le_of_ble_eq_true rfl) ⟨Nat.le_of_ble_eq_true rfl, Nat.le_of_ble_eq_true rfl⟩ dX4_copy_43 (fun r7 σ7 w7 => ?_)
        obtain ⟨u1, u2⟩ := w7; rw [u1, u2]; clear u1 u2
        exact gx_iret C hr hlk rfl (fim_fd hR (by decide) (by first | (simp only [opCopy, ck, cj, hz3, hz3j, bey, mis, knd] <;> grind) | (simp only [opCopy, ck, bey, mis, knd] <;> grind) | (simp only [opCopy, bey, mis, knd] <;> grind))) dX4_copy_46
      ·
        refine gx_aload_n C dX4_copy_30 (by rfl) (by rfl) ?_
        refine gx_getr (j := 56) (k := 13) C ck4 (by rfl) (by rfl) (by decide) fl_X4_28 dX4_copy_31 ?_
        refine gx_iload_n C dX4_copy_34 (by rfl) (by rfl) ?_
        refine gx_ialdN (k := j) C (by rfl) rfl (by omega) (by decide) dX4_copy_35 ?_
        refine gx_st (st' := [.int (W j)]) (by rw [hw1j]) ?_
        refine gx_if_ne (tgt := 47) C dX4_copy_36 (by decide) (fun h8 => ?_) (fun h8 => ?_)
        ·
          refine gx_aload_n C dX4_copy_47 (by rfl) (by rfl) ?_
          refine gx_getr (j := 56) (k := 13) C ck4 (by rfl) (by rfl) (by decide) fl_X4_28 dX4_copy_48 ?_
          refine gx_iload_n C dX4_copy_51 (by rfl) (by rfl) ?_
          refine gx_ialdN (k := k) C (by rfl) rfl (by omega) (by decide) dX4_copy_52 ?_
          refine gx_st (st' := [.int (W k)]) (by rw [hw1]) ?_
          refine gx_aload_n C dX4_copy_53 (by rfl) (by rfl) ?_
          refine gx_getr (j := 56) (k := 13) C ck4 (by rfl) (by rfl) (by decide) fl_X4_28 dX4_copy_54 ?_
          refine gx_iload_n C dX4_copy_57 (by rfl) (by rfl) ?_
          refine gx_ialdN (k := j) C (by rfl) rfl (by omega) (by decide) dX4_copy_58 ?_
          refine gx_st (st' := [.int (W j), .int (W k)]) (by rw [hw1j]) ?_
          refine gx_icmp_eq (tgt := 70) C dX4_copy_59 (by decide) (fun h9 => ?_) (fun h9 => ?_)
          ·
            refine gx_iload C dX4_copy_70 (by rfl) ?_
            refine gx_if_lt (tgt := 111) C dX4_copy_72 (by decide) (fun h10 => ?_) (fun h10 => ?_)
            ·
              have gh10 := Int32.not_le.mpr h10
              refine gx_aload_n C dX4_copy_111 (by rfl) (by rfl) ?_
              refine gx_ldc C kc_X4_37 dX4_copy_112 ?_
              refine gx_callVI (As := [.int (-1000001)]) (rest := []) C (c_X4_finds E σ (-1000001) 0 (by decide) (by decide)) z_X4_finds ck4 (by rfl) (by rfl) ml_X4_39 (by rfl) (Nat.le_of_ble_eq_true rfl) ⟨Nat.le_of_ble_eq_true rfl, Nat.le_of_ble_eq_true rfl⟩ dX4_copy_114 (fun r11 σ11 w11 => ?_)
              obtain ⟨u1, u2⟩ := w11; rw [u1, u2]; clear u1 u2
              exact gx_iret C hr hlk rfl (fim_fd hR (by decide) (by first | (simp only [opCopy, ck, cj, hz3, hz3j, bey, mis, knd] <;> grind) | (simp only [opCopy, ck, bey, mis, knd] <;> grind) | (simp only [opCopy, bey, mis, knd] <;> grind))) dX4_copy_117
            ·
              refine gx_iload_n C dX4_copy_75 (by rfl) (by rfl) ?_
              refine gx_if_lt (tgt := 111) C dX4_copy_76 (by decide) (fun h14 => ?_) (fun h14 => ?_)
              ·
                have gh14 := Int32.not_le.mpr h14
                refine gx_aload_n C dX4_copy_111 (by rfl) (by rfl) ?_
                refine gx_ldc C kc_X4_37 dX4_copy_112 ?_
                refine gx_callVI (As := [.int (-1000001)]) (rest := []) C (c_X4_finds E σ (-1000001) 0 (by decide) (by decide)) z_X4_finds ck4 (by rfl) (by rfl) ml_X4_39 (by rfl) (Nat.le_of_ble_eq_true rfl) ⟨Nat.le_of_ble_eq_true rfl, Nat.le_of_ble_eq_true rfl⟩ dX4_copy_114 (fun r15 σ15 w15 => ?_)
                obtain ⟨u1, u2⟩ := w15; rw [u1, u2]; clear u1 u2
                exact gx_iret C hr hlk rfl (fim_fd hR (by decide) (by first | (simp only [opCopy, ck, cj, hz3, hz3j, bey, mis, knd] <;> grind) | (simp only [opCopy, ck, bey, mis, knd] <;> grind) | (simp only [opCopy, bey, mis, knd] <;> grind))) dX4_copy_117
              ·
                refine gx_iload C dX4_copy_79 (by rfl) ?_
                refine gx_if_lt (tgt := 111) C dX4_copy_81 (by decide) (fun h16 => ?_) (fun h16 => ?_)
                ·
                  have gh16 := Int32.not_le.mpr h16
                  refine gx_aload_n C dX4_copy_111 (by rfl) (by rfl) ?_
                  refine gx_ldc C kc_X4_37 dX4_copy_112 ?_
                  refine gx_callVI (As := [.int (-1000001)]) (rest := []) C (c_X4_finds E σ (-1000001) 0 (by decide) (by decide)) z_X4_finds ck4 (by rfl) (by rfl) ml_X4_39 (by rfl) (Nat.le_of_ble_eq_true rfl) ⟨Nat.le_of_ble_eq_true rfl, Nat.le_of_ble_eq_true rfl⟩ dX4_copy_114 (fun r17 σ17 w17 => ?_)
                  obtain ⟨u1, u2⟩ := w17; rw [u1, u2]; clear u1 u2
                  exact gx_iret C hr hlk rfl (fim_fd hR (by decide) (by first | (simp only [opCopy, ck, cj, hz3, hz3j, bey, mis, knd] <;> grind) | (simp only [opCopy, ck, bey, mis, knd] <;> grind) | (simp only [opCopy, bey, mis, knd] <;> grind))) dX4_copy_117
                ·
                  refine gx_iload C dX4_copy_84 (by rfl) ?_
                  refine gx_aload_n C dX4_copy_86 (by rfl) (by rfl) ?_
                  refine gx_getr (j := 57) (k := 14) C ck4 (by rfl) (by rfl) (by decide) fl_X4_31 dX4_copy_87 ?_
                  refine gx_iload_n C dX4_copy_90 (by rfl) (by rfl) ?_
                  refine gx_ialdN (k := k) C (by rfl) rfl (by omega) (by decide) dX4_copy_91 ?_
                  refine gx_st (st' := [.int (nI z), .int nx]) (by rw [hz1, hz3]) ?_
                  refine gx_iload_n C dX4_copy_92 (by rfl) (by rfl) ?_
                  refine gx_isub C dX4_copy_93 ?_
                  refine gx_icmp_gt (tgt := 111) C dX4_copy_94 (by decide) (fun h18 => ?_) (fun h18 => ?_)
                  ·
                    have gh18 := Int32.not_le.mpr h18
                    refine gx_aload_n C dX4_copy_111 (by rfl) (by rfl) ?_
                    refine gx_ldc C kc_X4_37 dX4_copy_112 ?_
                    refine gx_callVI (As := [.int (-1000001)]) (rest := []) C (c_X4_finds E σ (-1000001) 0 (by decide) (by decide)) z_X4_finds ck4 (by rfl) (by rfl) ml_X4_39 (by rfl) (Nat.le_of_ble_eq_true rfl) ⟨Nat.le_of_ble_eq_true rfl, Nat.le_of_ble_eq_true rfl⟩ dX4_copy_114 (fun r19 σ19 w19 => ?_)
                    obtain ⟨u1, u2⟩ := w19; rw [u1, u2]; clear u1 u2
                    exact gx_iret C hr hlk rfl (fim_fd hR (by decide) (by first | (simp only [opCopy, ck, cj, hz3, hz3j, bey, mis, knd] <;> grind) | (simp only [opCopy, ck, bey, mis, knd] <;> grind) | (simp only [opCopy, bey, mis, knd] <;> grind))) dX4_copy_117
                  ·
                    refine gx_iload C dX4_copy_97 (by rfl) ?_
                    refine gx_aload_n C dX4_copy_99 (by rfl) (by rfl) ?_
                    refine gx_getr (j := 57) (k := 14) C ck4 (by rfl) (by rfl) (by decide) fl_X4_31 dX4_copy_100 ?_
                    refine gx_iload_n C dX4_copy_103 (by rfl) (by rfl) ?_
                    refine gx_ialdN (k := j) C (by rfl) rfl (by omega) (by decide) dX4_copy_104 ?_
                    refine gx_st (st' := [.int (nI zj), .int nx]) (by rw [hz1j, hz3j]) ?_
                    refine gx_iload C dX4_copy_105 (by rfl) ?_
                    refine gx_isub C dX4_copy_107 ?_
                    refine gx_icmp_le (tgt := 118) C dX4_copy_108 (by decide) (fun h20 => ?_) (fun h20 => ?_)
                    ·
                      have hcp1 : 0 ≤ fx ∧ 0 ≤ nx ∧ fx ≤ nI z ∧ nx ≤ nI z - fx := ⟨Int32.not_lt.mp h14, Int32.not_lt.mp h10, cq_le hz2 (Int32.not_lt.mp h14) (Int32.not_lt.mp h10) (Int32.not_lt.mp h18), Int32.not_lt.mp h18⟩
                      have hcp2 : 0 ≤ ux ∧ 0 ≤ nx ∧ ux ≤ nI zj ∧ nx ≤ nI zj - ux := ⟨Int32.not_lt.mp h16, Int32.not_lt.mp h10, cq_le hz2j (Int32.not_lt.mp h16) (Int32.not_lt.mp h10) h20, h20⟩
                      obtain ⟨f1, n1, hfn, rfl, rfl⟩ := cp_nat hz2 rfl hcp1
                      obtain ⟨u1, hun, rfl⟩ := cp_nat2 hz2j rfl (by omega) hcp2
                      have cf1 : (nI f1).toNatClampNeg = f1 := nI_clamp (by omega)
                      have cn1 : (nI n1).toNatClampNeg = n1 := nI_clamp (by omega)
                      have cu1 : (nI u1).toNatClampNeg = u1 := nI_clamp (by omega)
                      refine gx_iload_n C dX4_copy_118 (by rfl) (by rfl) ?_
                      refine gx_iload_n C dX4_copy_119 (by rfl) (by rfl) ?_
                      refine gx_icmp_ne (tgt := 133) C dX4_copy_120 (by decide) (fun h21 => ?_) (fun h21 => ?_)
                      ·
                        have h21 := (not_congr (nI_eq (a := k) (b := j) (by omega) (by omega))).mp h21
                        refine gx_iconst (v := 0) C dX4_copy_133 (by decide) ?_
                        refine gx_istore (lv2 := [(6, .int 0), (0, .ref (eA E 49)), (1, .int (nI k)), (2, .int (nI f1)), (3, .int (nI j)), (4, .int (nI u1)), (5, .int (nI n1))]) C dX4_copy_134 (by decide) rfl ?_
                        refine gx_iconst (v := 0) C dX4_copy_136 (by decide) ?_
                        refine gx_istore (lv2 := [(7, .int 0), (6, .int 0), (0, .ref (eA E 49)), (1, .int (nI k)), (2, .int (nI f1)), (3, .int (nI j)), (4, .int (nI u1)), (5, .int (nI n1))]) C dX4_copy_137 (by decide) rfl ?_
                        have loop139 : ∀ (kf i : Nat), i ≤ n1 → n1 < i + kf → ∀ τ : Mm, (∀ s9 q9, s9 < 4 → q9 < 40 → τ 58 (40 * s9 + q9) = cpI N k j f1 u1 0 i s9 q9) → (∀ q, ¬ q = 58 → τ q = σ q) → Gx E p e0 (rmF 2 45) s m ([.ref (eA E 49), .int (nI k), .int (nI f1), .int (nI j), .int (nI u1), .int (nI n1)] : List Value).toArray below meth c (MQ below (va_Qi (fun rr σ2 => rr = (opCopy (K, L, g, F, tl, Bt, W, Z, N) (nI k) (nI f1) (nI j) (nI u1) (nI n1)).1 ∧ MR σ2 (opCopy (K, L, g, F, tl, Bt, W, Z, N) (nI k) (nI f1) (nI j) (nI u1) (nI n1)).2 ∧ FM σ σ2) (WQ E) (AA E s.heap.size)) ([.ref (eA E 49), .int (nI k), .int (nI f1), .int (nI j), .int (nI u1), .int (nI n1)] : List Value).toArray s 0 0 (AA E s.heap.size)) 9 139 [(0, .ref (eA E 49)), (1, .int (nI k)), (2, .int (nI f1)), (3, .int (nI j)), (4, .int (nI u1)), (5, .int (nI n1)), (6, .int 0), (7, .int (nI i))] [] τ := by
                          intro kf
                          induction kf with
                          | zero => intro i q1 q2; exact absurd q2 (by omega)
                          | succ kf ih139 =>
                            intro i a139 b139 τ hcp hE
                            refine gx_iload C dX4_copy_139 (by rfl) ?_
                            refine gx_iload C dX4_copy_141 (by rfl) ?_
                            refine gx_icmp_ge (tgt := 200) C dX4_copy_143 (by decide) (fun h22 => ?_) (fun h22 => ?_)
                            ·
                              have h22 := (nI_leI (a := n1) (b := i) (by omega) (by omega)).mp h22
                              refine gx_iload C dX4_copy_200 (by rfl) ?_
                              exact gx_iret C hr hlk rfl (fim_nm (N' := rw2 N j (va_cpy (N k) (N j) f1 u1 n1)) hR hE (fun s9 hs9 q hq => by rw [hcp s9 q hs9 hq, show i = n1 by omega, cpI_end]) (by simp only [opCopy, ck, cj, cf1, cu1, cn1, hz3, hz3j, bey, mis, knd]; rw [if_pos (by grind), if_neg (by grind), if_neg (by grind), if_pos ⟨hcp1, hcp2⟩])) dX4_copy_202
                            ·
                              have h22 := (not_congr (nI_leI (a := n1) (b := i) (by omega) (by omega))).mp h22
                              refine gx_iload C dX4_copy_146 (by rfl) ?_
                              refine gx_if_eq (tgt := 161) C dX4_copy_148 (by decide) (fun h23 => ?_) (fun h23 => ?_)
                              ·
                                clear h23
                                refine gx_iload C dX4_copy_161 (by rfl) ?_
                                refine gx_istore (lv2 := [(8, .int (nI i)), (0, .ref (eA E 49)), (1, .int (nI k)), (2, .int (nI f1)), (3, .int (nI j)), (4, .int (nI u1)), (5, .int (nI n1)), (6, .int 0), (7, .int (nI i))]) C dX4_copy_163 (by decide) rfl ?_
                                refine gx_aload_n C dX4_copy_165 (by rfl) (by rfl) ?_
                                refine gx_getr (j := 58) (k := 15) C ck4 (by rfl) (by rfl) (by decide) fl_X4_34 dX4_copy_166 ?_
                                refine gx_bipush (v := 40) C dX4_copy_169 (by decide) ?_
                                refine gx_iload_n C dX4_copy_171 (by rfl) (by rfl) ?_
                                refine gx_imul C dX4_copy_172 ?_
                                refine gx_st (st' := [.int (nI (40 * j)), .ref (eA E 58)]) (by rw [show 40 * (nI j) = nI (40 * j) from pk_mul 40 j]) ?_
                                refine gx_iload C dX4_copy_173 (by rfl) ?_
                                refine gx_iadd C dX4_copy_175 ?_
                                refine gx_st (st' := [.int (nI (40 * j + u1)), .ref (eA E 58)]) (by rw [show (nI (40 * j)) + (nI u1) = nI (40 * j + u1) from nI_add (40 * j) u1]) ?_
                                refine gx_iload C dX4_copy_176 (by rfl) ?_
                                refine gx_iadd C dX4_copy_178 ?_
                                refine gx_st (st' := [.int (nI (40 * j + u1 + i)), .ref (eA E 58)]) (by rw [show (nI (40 * j + u1)) + (nI i) = nI (40 * j + u1 + i) from nI_add (40 * j + u1) i]) ?_
                                refine gx_aload_n C dX4_copy_179 (by rfl) (by rfl) ?_
                                refine gx_getr (j := 58) (k := 15) C ck4 (by rfl) (by rfl) (by decide) fl_X4_34 dX4_copy_180 ?_
                                refine gx_bipush (v := 40) C dX4_copy_183 (by decide) ?_
                                refine gx_iload_n C dX4_copy_185 (by rfl) (by rfl) ?_
                                refine gx_imul C dX4_copy_186 ?_
                                refine gx_st (st' := [.int (nI (40 * k)), .ref (eA E 58), .int (nI (40 * j + u1 + i)), .ref (eA E 58)]) (by rw [show 40 * (nI k) = nI (40 * k) from pk_mul 40 k]) ?_
                                refine gx_iload_n C dX4_copy_187 (by rfl) (by rfl) ?_
                                refine gx_iadd C dX4_copy_188 ?_
                                refine gx_st (st' := [.int (nI (40 * k + f1)), .ref (eA E 58), .int (nI (40 * j + u1 + i)), .ref (eA E 58)]) (by rw [show (nI (40 * k)) + (nI f1) = nI (40 * k + f1) from nI_add (40 * k) f1]) ?_
                                refine gx_iload C dX4_copy_189 (by rfl) ?_
                                refine gx_iadd C dX4_copy_191 ?_
                                refine gx_st (st' := [.int (nI (40 * k + f1 + i)), .ref (eA E 58), .int (nI (40 * j + u1 + i)), .ref (eA E 58)]) (by rw [show (nI (40 * k + f1)) + (nI i) = nI (40 * k + f1 + i) from nI_add (40 * k + f1) i]) ?_
                                refine gx_ialdN (k := (40 * k + f1 + i)) C (by rfl) rfl (by omega) (by decide) dX4_copy_192 ?_
                                refine gx_st (st' := [.int (N k (f1 + i)), .int (nI (40 * j + u1 + i)), .ref (eA E 58)]) (by rw [show τ 58 (40 * k + f1 + i) = N k (f1 + i) from by rw [show 40 * k + f1 + i = 40 * k + (f1 + i) by omega, hcp k (f1 + i) (by omega) (by omega)]; unfold cpI; rw [if_neg (by omega)]]) ?_
                                refine gx_iastN (k := (40 * j + u1 + i)) C (by rfl) rfl (by omega) (by decide) dX4_copy_193 ?_
                                refine gx_iinc (v := nI (i + 1)) (lv2 := [(7, .int (nI (i + 1))), (8, .int (nI i)), (0, .ref (eA E 49)), (1, .int (nI k)), (2, .int (nI f1)), (3, .int (nI j)), (4, .int (nI u1)), (5, .int (nI n1)), (6, .int 0)]) C dX4_copy_194 (by rfl) (by exact nI_p1 _) (by decide) rfl ?_
                                refine gx_goto (tgt := 139) C dX4_copy_197 (by decide) ?_
                                refine gx_sub [2, 3, 4, 5, 6, 7, 8, 0] (lv' := [(0, .ref (eA E 49)), (1, .int (nI k)), (2, .int (nI f1)), (3, .int (nI j)), (4, .int (nI u1)), (5, .int (nI n1)), (6, .int 0), (7, .int (nI (i + 1)))]) rfl ?_
                                exact ih139 (i + 1) (by omega) (by omega) (up2 τ 58 (40 * j + u1 + i) (N k (f1 + i))) (fun s9 q9 y1 y2 => by rw [up2_s]; exact (if hh : s9 = j ∧ q9 = u1 + i then (by rw [hh.1, hh.2, show 40 * j + u1 + i = 40 * j + (u1 + i) by omega, pk_us]; unfold cpI; rw [if_pos ⟨rfl, by omega, by omega⟩, show f1 + (u1 + i - u1) = f1 + i by omega]) else (by rw [pk_un (by omega), hcp s9 q9 y1 y2]; unfold cpI; exact ifc (by omega)))) (fun q y1 => by rw [up2_o y1]; exact hE q y1)
                              ·
                                exact absurd h23 (by decide)
                        refine gx_sub [2, 3, 4, 5, 6, 7, 1, 0] (lv' := [(0, .ref (eA E 49)), (1, .int (nI k)), (2, .int (nI f1)), (3, .int (nI j)), (4, .int (nI u1)), (5, .int (nI n1)), (6, .int 0), (7, .int 0)]) rfl ?_
                        refine gx_lv (lv' := [(0, .ref (eA E 49)), (1, .int (nI k)), (2, .int (nI f1)), (3, .int (nI j)), (4, .int (nI u1)), (5, .int (nI n1)), (6, .int 0), (7, .int (nI 0))]) (by rfl) ?_
                        exact loop139 (n1 + 1) 0 (by omega) (by omega) σ (fun s9 q9 y1 y2 => by rw [cpI_0]; exact (hSh s9 y1).2.2 q9 y2) (fun q _ => rfl)
                      ·
                        have h21 := (nI_eq (a := k) (b := j) (by omega) (by omega)).mp h21
                        refine gx_iload_n C dX4_copy_123 (by rfl) (by rfl) ?_
                        refine gx_iload C dX4_copy_124 (by rfl) ?_
                        refine gx_icmp_ge (tgt := 133) C dX4_copy_126 (by decide) (fun h24 => ?_) (fun h24 => ?_)
                        ·
                          have h24 := (nI_leI (a := u1) (b := f1) (by omega) (by omega)).mp h24
                          refine gx_iconst (v := 0) C dX4_copy_133 (by decide) ?_
                          refine gx_istore (lv2 := [(6, .int 0), (0, .ref (eA E 49)), (1, .int (nI k)), (2, .int (nI f1)), (3, .int (nI j)), (4, .int (nI u1)), (5, .int (nI n1))]) C dX4_copy_134 (by decide) rfl ?_
                          refine gx_iconst (v := 0) C dX4_copy_136 (by decide) ?_
                          refine gx_istore (lv2 := [(7, .int 0), (6, .int 0), (0, .ref (eA E 49)), (1, .int (nI k)), (2, .int (nI f1)), (3, .int (nI j)), (4, .int (nI u1)), (5, .int (nI n1))]) C dX4_copy_137 (by decide) rfl ?_
                          have loop139 : ∀ (kf i : Nat), i ≤ n1 → n1 < i + kf → ∀ τ : Mm, (∀ s9 q9, s9 < 4 → q9 < 40 → τ 58 (40 * s9 + q9) = cpI N k j f1 u1 0 i s9 q9) → (∀ q, ¬ q = 58 → τ q = σ q) → Gx E p e0 (rmF 2 45) s m ([.ref (eA E 49), .int (nI k), .int (nI f1), .int (nI j), .int (nI u1), .int (nI n1)] : List Value).toArray below meth c (MQ below (va_Qi (fun rr σ2 => rr = (opCopy (K, L, g, F, tl, Bt, W, Z, N) (nI k) (nI f1) (nI j) (nI u1) (nI n1)).1 ∧ MR σ2 (opCopy (K, L, g, F, tl, Bt, W, Z, N) (nI k) (nI f1) (nI j) (nI u1) (nI n1)).2 ∧ FM σ σ2) (WQ E) (AA E s.heap.size)) ([.ref (eA E 49), .int (nI k), .int (nI f1), .int (nI j), .int (nI u1), .int (nI n1)] : List Value).toArray s 0 0 (AA E s.heap.size)) 9 139 [(0, .ref (eA E 49)), (1, .int (nI k)), (2, .int (nI f1)), (3, .int (nI j)), (4, .int (nI u1)), (5, .int (nI n1)), (6, .int 0), (7, .int (nI i))] [] τ := by
                            intro kf
                            induction kf with
                            | zero => intro i q1 q2; exact absurd q2 (by omega)
                            | succ kf ih139 =>
                              intro i a139 b139 τ hcp hE
                              refine gx_iload C dX4_copy_139 (by rfl) ?_
                              refine gx_iload C dX4_copy_141 (by rfl) ?_
                              refine gx_icmp_ge (tgt := 200) C dX4_copy_143 (by decide) (fun h26 => ?_) (fun h26 => ?_)
                              ·
                                have h26 := (nI_leI (a := n1) (b := i) (by omega) (by omega)).mp h26
                                refine gx_iload C dX4_copy_200 (by rfl) ?_
                                exact gx_iret C hr hlk rfl (fim_nm (N' := rw2 N j (va_cpy (N k) (N j) f1 u1 n1)) hR hE (fun s9 hs9 q hq => by rw [hcp s9 q hs9 hq, show i = n1 by omega, cpI_end]) (by simp only [opCopy, ck, cj, cf1, cu1, cn1, hz3, hz3j, bey, mis, knd]; rw [if_pos (by grind), if_neg (by grind), if_neg (by grind), if_pos ⟨hcp1, hcp2⟩])) dX4_copy_202
                              ·
                                have h26 := (not_congr (nI_leI (a := n1) (b := i) (by omega) (by omega))).mp h26
                                refine gx_iload C dX4_copy_146 (by rfl) ?_
                                refine gx_if_eq (tgt := 161) C dX4_copy_148 (by decide) (fun h27 => ?_) (fun h27 => ?_)
                                ·
                                  clear h27
                                  refine gx_iload C dX4_copy_161 (by rfl) ?_
                                  refine gx_istore (lv2 := [(8, .int (nI i)), (0, .ref (eA E 49)), (1, .int (nI k)), (2, .int (nI f1)), (3, .int (nI j)), (4, .int (nI u1)), (5, .int (nI n1)), (6, .int 0), (7, .int (nI i))]) C dX4_copy_163 (by decide) rfl ?_
                                  refine gx_aload_n C dX4_copy_165 (by rfl) (by rfl) ?_
                                  refine gx_getr (j := 58) (k := 15) C ck4 (by rfl) (by rfl) (by decide) fl_X4_34 dX4_copy_166 ?_
                                  refine gx_bipush (v := 40) C dX4_copy_169 (by decide) ?_
                                  refine gx_iload_n C dX4_copy_171 (by rfl) (by rfl) ?_
                                  refine gx_imul C dX4_copy_172 ?_
                                  refine gx_st (st' := [.int (nI (40 * j)), .ref (eA E 58)]) (by rw [show 40 * (nI j) = nI (40 * j) from pk_mul 40 j]) ?_
                                  refine gx_iload C dX4_copy_173 (by rfl) ?_
                                  refine gx_iadd C dX4_copy_175 ?_
                                  refine gx_st (st' := [.int (nI (40 * j + u1)), .ref (eA E 58)]) (by rw [show (nI (40 * j)) + (nI u1) = nI (40 * j + u1) from nI_add (40 * j) u1]) ?_
                                  refine gx_iload C dX4_copy_176 (by rfl) ?_
                                  refine gx_iadd C dX4_copy_178 ?_
                                  refine gx_st (st' := [.int (nI (40 * j + u1 + i)), .ref (eA E 58)]) (by rw [show (nI (40 * j + u1)) + (nI i) = nI (40 * j + u1 + i) from nI_add (40 * j + u1) i]) ?_
                                  refine gx_aload_n C dX4_copy_179 (by rfl) (by rfl) ?_
                                  refine gx_getr (j := 58) (k := 15) C ck4 (by rfl) (by rfl) (by decide) fl_X4_34 dX4_copy_180 ?_
                                  refine gx_bipush (v := 40) C dX4_copy_183 (by decide) ?_
                                  refine gx_iload_n C dX4_copy_185 (by rfl) (by rfl) ?_
                                  refine gx_imul C dX4_copy_186 ?_
                                  refine gx_st (st' := [.int (nI (40 * k)), .ref (eA E 58), .int (nI (40 * j + u1 + i)), .ref (eA E 58)]) (by rw [show 40 * (nI k) = nI (40 * k) from pk_mul 40 k]) ?_
                                  refine gx_iload_n C dX4_copy_187 (by rfl) (by rfl) ?_
                                  refine gx_iadd C dX4_copy_188 ?_
                                  refine gx_st (st' := [.int (nI (40 * k + f1)), .ref (eA E 58), .int (nI (40 * j + u1 + i)), .ref (eA E 58)]) (by rw [show (nI (40 * k)) + (nI f1) = nI (40 * k + f1) from nI_add (40 * k) f1]) ?_
                                  refine gx_iload C dX4_copy_189 (by rfl) ?_
                                  refine gx_iadd C dX4_copy_191 ?_
                                  refine gx_st (st' := [.int (nI (40 * k + f1 + i)), .ref (eA E 58), .int (nI (40 * j + u1 + i)), .ref (eA E 58)]) (by rw [show (nI (40 * k + f1)) + (nI i) = nI (40 * k + f1 + i) from nI_add (40 * k + f1) i]) ?_
                                  refine gx_ialdN (k := (40 * k + f1 + i)) C (by rfl) rfl (by omega) (by decide) dX4_copy_192 ?_
                                  refine gx_st (st' := [.int (N k (f1 + i)), .int (nI (40 * j + u1 + i)), .ref (eA E 58)]) (by rw [show τ 58 (40 * k + f1 + i) = N k (f1 + i) from by rw [show 40 * k + f1 + i = 40 * k + (f1 + i) by omega, hcp k (f1 + i) (by omega) (by omega)]; unfold cpI; rw [if_neg (by omega)]]) ?_
                                  refine gx_iastN (k := (40 * j + u1 + i)) C (by rfl) rfl (by omega) (by decide) dX4_copy_193 ?_
                                  refine gx_iinc (v := nI (i + 1)) (lv2 := [(7, .int (nI (i + 1))), (8, .int (nI i)), (0, .ref (eA E 49)), (1, .int (nI k)), (2, .int (nI f1)), (3, .int (nI j)), (4, .int (nI u1)), (5, .int (nI n1)), (6, .int 0)]) C dX4_copy_194 (by rfl) (by exact nI_p1 _) (by decide) rfl ?_
                                  refine gx_goto (tgt := 139) C dX4_copy_197 (by decide) ?_
                                  refine gx_sub [2, 3, 4, 5, 6, 7, 8, 0] (lv' := [(0, .ref (eA E 49)), (1, .int (nI k)), (2, .int (nI f1)), (3, .int (nI j)), (4, .int (nI u1)), (5, .int (nI n1)), (6, .int 0), (7, .int (nI (i + 1)))]) rfl ?_
                                  exact ih139 (i + 1) (by omega) (by omega) (up2 τ 58 (40 * j + u1 + i) (N k (f1 + i))) (fun s9 q9 y1 y2 => by rw [up2_s]; exact (if hh : s9 = j ∧ q9 = u1 + i then (by rw [hh.1, hh.2, show 40 * j + u1 + i = 40 * j + (u1 + i) by omega, pk_us]; unfold cpI; rw [if_pos ⟨rfl, by omega, by omega⟩, show f1 + (u1 + i - u1) = f1 + i by omega]) else (by rw [pk_un (by omega), hcp s9 q9 y1 y2]; unfold cpI; exact ifc (by omega)))) (fun q y1 => by rw [up2_o y1]; exact hE q y1)
                                ·
                                  exact absurd h27 (by decide)
                          refine gx_sub [2, 3, 4, 5, 6, 7, 1, 0] (lv' := [(0, .ref (eA E 49)), (1, .int (nI k)), (2, .int (nI f1)), (3, .int (nI j)), (4, .int (nI u1)), (5, .int (nI n1)), (6, .int 0), (7, .int 0)]) rfl ?_
                          refine gx_lv (lv' := [(0, .ref (eA E 49)), (1, .int (nI k)), (2, .int (nI f1)), (3, .int (nI j)), (4, .int (nI u1)), (5, .int (nI n1)), (6, .int 0), (7, .int (nI 0))]) (by rfl) ?_
                          exact loop139 (n1 + 1) 0 (by omega) (by omega) σ (fun s9 q9 y1 y2 => by rw [cpI_0]; exact (hSh s9 y1).2.2 q9 y2) (fun q _ => rfl)
                        ·
                          have h24 := (not_congr (nI_leI (a := u1) (b := f1) (by omega) (by omega))).mp h24
                          refine gx_iconst (v := 1) C dX4_copy_129 (by decide) ?_
                          refine gx_goto (tgt := 134) C dX4_copy_130 (by decide) ?_
                          refine gx_istore (lv2 := [(6, .int 1), (0, .ref (eA E 49)), (1, .int (nI k)), (2, .int (nI f1)), (3, .int (nI j)), (4, .int (nI u1)), (5, .int (nI n1))]) C dX4_copy_134 (by decide) rfl ?_
                          refine gx_iconst (v := 0) C dX4_copy_136 (by decide) ?_
                          refine gx_istore (lv2 := [(7, .int 0), (6, .int 1), (0, .ref (eA E 49)), (1, .int (nI k)), (2, .int (nI f1)), (3, .int (nI j)), (4, .int (nI u1)), (5, .int (nI n1))]) C dX4_copy_137 (by decide) rfl ?_
                          have loop139 : ∀ (kf i : Nat), i ≤ n1 → n1 < i + kf → ∀ τ : Mm, (∀ s9 q9, s9 < 4 → q9 < 40 → τ 58 (40 * s9 + q9) = cpI N k j f1 u1 (n1 - i) n1 s9 q9) → (∀ q, ¬ q = 58 → τ q = σ q) → Gx E p e0 (rmF 2 45) s m ([.ref (eA E 49), .int (nI k), .int (nI f1), .int (nI j), .int (nI u1), .int (nI n1)] : List Value).toArray below meth c (MQ below (va_Qi (fun rr σ2 => rr = (opCopy (K, L, g, F, tl, Bt, W, Z, N) (nI k) (nI f1) (nI j) (nI u1) (nI n1)).1 ∧ MR σ2 (opCopy (K, L, g, F, tl, Bt, W, Z, N) (nI k) (nI f1) (nI j) (nI u1) (nI n1)).2 ∧ FM σ σ2) (WQ E) (AA E s.heap.size)) ([.ref (eA E 49), .int (nI k), .int (nI f1), .int (nI j), .int (nI u1), .int (nI n1)] : List Value).toArray s 0 0 (AA E s.heap.size)) 9 139 [(0, .ref (eA E 49)), (1, .int (nI k)), (2, .int (nI f1)), (3, .int (nI j)), (4, .int (nI u1)), (5, .int (nI n1)), (6, .int 1), (7, .int (nI i))] [] τ := by
                            intro kf
                            induction kf with
                            | zero => intro i q1 q2; exact absurd q2 (by omega)
                            | succ kf ih139 =>
                              intro i a139 b139 τ hcp hE
                              refine gx_iload C dX4_copy_139 (by rfl) ?_
                              refine gx_iload C dX4_copy_141 (by rfl) ?_
                              refine gx_icmp_ge (tgt := 200) C dX4_copy_143 (by decide) (fun h28 => ?_) (fun h28 => ?_)
                              ·
                                have h28 := (nI_leI (a := n1) (b := i) (by omega) (by omega)).mp h28
                                refine gx_iload C dX4_copy_200 (by rfl) ?_
                                exact gx_iret C hr hlk rfl (fim_nm (N' := rw2 N j (va_cpy (N k) (N j) f1 u1 n1)) hR hE (fun s9 hs9 q hq => by rw [hcp s9 q hs9 hq, show i = n1 by omega, Nat.sub_self, cpI_end]) (by simp only [opCopy, ck, cj, cf1, cu1, cn1, hz3, hz3j, bey, mis, knd]; rw [if_pos (by grind), if_neg (by grind), if_neg (by grind), if_pos ⟨hcp1, hcp2⟩])) dX4_copy_202
                              ·
                                have h28 := (not_congr (nI_leI (a := n1) (b := i) (by omega) (by omega))).mp h28
                                refine gx_iload C dX4_copy_146 (by rfl) ?_
                                refine gx_if_eq (tgt := 161) C dX4_copy_148 (by decide) (fun h29 => ?_) (fun h29 => ?_)
                                ·
                                  exact absurd h29 (by decide)
                                ·
                                  clear h29
                                  refine gx_iload C dX4_copy_151 (by rfl) ?_
                                  refine gx_iconst (v := 1) C dX4_copy_153 (by decide) ?_
                                  refine gx_isub C dX4_copy_154 ?_
                                  refine gx_iload C dX4_copy_155 (by rfl) ?_
                                  refine gx_isub C dX4_copy_157 ?_
                                  refine gx_st (st' := [.int (nI (n1 - 1 - i))]) (by rw [show ((nI n1) - 1) - (nI i) = nI (n1 - 1 - i) from sub2 (by omega)]) ?_
                                  refine gx_goto (tgt := 163) C dX4_copy_158 (by decide) ?_
                                  refine gx_istore (lv2 := [(8, .int (nI (n1 - 1 - i))), (0, .ref (eA E 49)), (1, .int (nI k)), (2, .int (nI f1)), (3, .int (nI j)), (4, .int (nI u1)), (5, .int (nI n1)), (6, .int 1), (7, .int (nI i))]) C dX4_copy_163 (by decide) rfl ?_
                                  refine gx_aload_n C dX4_copy_165 (by rfl) (by rfl) ?_
                                  refine gx_getr (j := 58) (k := 15) C ck4 (by rfl) (by rfl) (by decide) fl_X4_34 dX4_copy_166 ?_
                                  refine gx_bipush (v := 40) C dX4_copy_169 (by decide) ?_
                                  refine gx_iload_n C dX4_copy_171 (by rfl) (by rfl) ?_
                                  refine gx_imul C dX4_copy_172 ?_
                                  refine gx_st (st' := [.int (nI (40 * j)), .ref (eA E 58)]) (by rw [show 40 * (nI j) = nI (40 * j) from pk_mul 40 j]) ?_
                                  refine gx_iload C dX4_copy_173 (by rfl) ?_
                                  refine gx_iadd C dX4_copy_175 ?_
                                  refine gx_st (st' := [.int (nI (40 * j + u1)), .ref (eA E 58)]) (by rw [show (nI (40 * j)) + (nI u1) = nI (40 * j + u1) from nI_add (40 * j) u1]) ?_
                                  refine gx_iload C dX4_copy_176 (by rfl) ?_
                                  refine gx_iadd C dX4_copy_178 ?_
                                  refine gx_st (st' := [.int (nI (40 * j + u1 + (n1 - 1 - i))), .ref (eA E 58)]) (by rw [show (nI (40 * j + u1)) + (nI (n1 - 1 - i)) = nI (40 * j + u1 + (n1 - 1 - i)) from nI_add (40 * j + u1) (n1 - 1 - i)]) ?_
                                  refine gx_aload_n C dX4_copy_179 (by rfl) (by rfl) ?_
                                  refine gx_getr (j := 58) (k := 15) C ck4 (by rfl) (by rfl) (by decide) fl_X4_34 dX4_copy_180 ?_
                                  refine gx_bipush (v := 40) C dX4_copy_183 (by decide) ?_
                                  refine gx_iload_n C dX4_copy_185 (by rfl) (by rfl) ?_
                                  refine gx_imul C dX4_copy_186 ?_
                                  refine gx_st (st' := [.int (nI (40 * k)), .ref (eA E 58), .int (nI (40 * j + u1 + (n1 - 1 - i))), .ref (eA E 58)]) (by rw [show 40 * (nI k) = nI (40 * k) from pk_mul 40 k]) ?_
                                  refine gx_iload_n C dX4_copy_187 (by rfl) (by rfl) ?_
                                  refine gx_iadd C dX4_copy_188 ?_
                                  refine gx_st (st' := [.int (nI (40 * k + f1)), .ref (eA E 58), .int (nI (40 * j + u1 + (n1 - 1 - i))), .ref (eA E 58)]) (by rw [show (nI (40 * k)) + (nI f1) = nI (40 * k + f1) from nI_add (40 * k) f1]) ?_
                                  refine gx_iload C dX4_copy_189 (by rfl) ?_
                                  refine gx_iadd C dX4_copy_191 ?_
                                  refine gx_st (st' := [.int (nI (40 * k + f1 + (n1 - 1 - i))), .ref (eA E 58), .int (nI (40 * j + u1 + (n1 - 1 - i))), .ref (eA E 58)]) (by rw [show (nI (40 * k + f1)) + (nI (n1 - 1 - i)) = nI (40 * k + f1 + (n1 - 1 - i)) from nI_add (40 * k + f1) (n1 - 1 - i)]) ?_
                                  refine gx_ialdN (k := (40 * k + f1 + (n1 - 1 - i))) C (by rfl) rfl (by omega) (by decide) dX4_copy_192 ?_
                                  refine gx_st (st' := [.int (N k (f1 + (n1 - 1 - i))), .int (nI (40 * j + u1 + (n1 - 1 - i))), .ref (eA E 58)]) (by rw [show τ 58 (40 * k + f1 + (n1 - 1 - i)) = N k (f1 + (n1 - 1 - i)) from by rw [show 40 * k + f1 + (n1 - 1 - i) = 40 * k + (f1 + (n1 - 1 - i)) by omega, hcp k (f1 + (n1 - 1 - i)) (by omega) (by omega)]; unfold cpI; rw [if_neg (by omega)]]) ?_
                                  refine gx_iastN (k := (40 * j + u1 + (n1 - 1 - i))) C (by rfl) rfl (by omega) (by decide) dX4_copy_193 ?_
                                  refine gx_iinc (v := nI (i + 1)) (lv2 := [(7, .int (nI (i + 1))), (8, .int (nI (n1 - 1 - i))), (0, .ref (eA E 49)), (1, .int (nI k)), (2, .int (nI f1)), (3, .int (nI j)), (4, .int (nI u1)), (5, .int (nI n1)), (6, .int 1)]) C dX4_copy_194 (by rfl) (by exact nI_p1 _) (by decide) rfl ?_
                                  refine gx_goto (tgt := 139) C dX4_copy_197 (by decide) ?_
                                  refine gx_sub [2, 3, 4, 5, 6, 7, 8, 0] (lv' := [(0, .ref (eA E 49)), (1, .int (nI k)), (2, .int (nI f1)), (3, .int (nI j)), (4, .int (nI u1)), (5, .int (nI n1)), (6, .int 1), (7, .int (nI (i + 1)))]) rfl ?_
                                  exact ih139 (i + 1) (by omega) (by omega) (up2 τ 58 (40 * j + u1 + (n1 - 1 - i)) (N k (f1 + (n1 - 1 - i)))) (fun s9 q9 y1 y2 => by rw [up2_s]; exact (if hh : s9 = j ∧ q9 = u1 + (n1 - 1 - i) then (by rw [hh.1, hh.2, show 40 * j + u1 + (n1 - 1 - i) = 40 * j + (u1 + (n1 - 1 - i)) by omega, pk_us]; unfold cpI; rw [if_pos ⟨rfl, by omega, by omega⟩, show f1 + (u1 + (n1 - 1 - i) - u1) = f1 + (n1 - 1 - i) by omega]) else (by rw [pk_un (by omega), hcp s9 q9 y1 y2]; unfold cpI; exact ifc (by omega)))) (fun q y1 => by rw [up2_o y1]; exact hE q y1)
                          refine gx_sub [2, 3, 4, 5, 6, 7, 1, 0] (lv' := [(0, .ref (eA E 49)), (1, .int (nI k)), (2, .int (nI f1)), (3, .int (nI j)), (4, .int (nI u1)), (5, .int (nI n1)), (6, .int 1), (7, .int 0)]) rfl ?_
                          refine gx_lv (lv' := [(0, .ref (eA E 49)), (1, .int (nI k)), (2, .int (nI f1)), (3, .int (nI j)), (4, .int (nI u1)), (5, .int (nI n1)), (6, .int 1), (7, .int (nI 0))]) (by rfl) ?_
                          exact loop139 (n1 + 1) 0 (by omega) (by omega) σ (fun s9 q9 y1 y2 => by rw [Nat.sub_zero, cpI_0]; exact (hSh s9 y1).2.2 q9 y2) (fun q _ => rfl)
                    ·
                      refine gx_aload_n C dX4_copy_111 (by rfl) (by rfl) ?_
                      refine gx_ldc C kc_X4_37 dX4_copy_112 ?_
                      refine gx_callVI (As := [.int (-1000001)]) (rest := []) C (c_X4_finds E σ (-1000001) 0 (by decide) (by decide)) z_X4_finds ck4 (by rfl) (by rfl) ml_X4_39 (by rfl) (Nat.le_of_ble_eq_true rfl) ⟨Nat.le_of_ble_eq_true rfl, Nat.le_of_ble_eq_true rfl⟩ dX4_copy_114 (fun r30 σ30 w30 => ?_)
                      obtain ⟨u1, u2⟩ := w30; rw [u1, u2]; clear u1 u2
                      exact gx_iret C hr hlk rfl (fim_fd hR (by decide) (by first | (simp only [opCopy, ck, cj, hz3, hz3j, bey, mis, knd] <;> grind) | (simp only [opCopy, ck, bey, mis, knd] <;> grind) | (simp only [opCopy, bey, mis, knd] <;> grind))) dX4_copy_117
          ·
            refine gx_aload_n C dX4_copy_62 (by rfl) (by rfl) ?_
            refine gx_ldcw C kc_X4_305 dX4_copy_63 ?_
            refine gx_callVI (As := [.int (-1000003)]) (rest := []) C (c_X4_finds E σ (-1000003) 2 (by decide) (by decide)) z_X4_finds ck4 (by rfl) (by rfl) ml_X4_39 (by rfl) (Nat.le_of_ble_eq_true rfl) ⟨Nat.le_of_ble_eq_true rfl, Nat.le_of_ble_eq_true rfl⟩ dX4_copy_66 (fun r31 σ31 w31 => ?_)
            obtain ⟨u1, u2⟩ := w31; rw [u1, u2]; clear u1 u2
            exact gx_iret C hr hlk rfl (fim_fd hR (by decide) (by first | (simp only [opCopy, ck, cj, hz3, hz3j, bey, mis, knd] <;> grind) | (simp only [opCopy, ck, bey, mis, knd] <;> grind) | (simp only [opCopy, bey, mis, knd] <;> grind))) dX4_copy_69
        ·
          refine gx_aload_n C dX4_copy_39 (by rfl) (by rfl) ?_
          refine gx_ldcw C kc_X4_301 dX4_copy_40 ?_
          refine gx_callVI (As := [.int (-1000006)]) (rest := []) C (c_X4_finds E σ (-1000006) 5 (by decide) (by decide)) z_X4_finds ck4 (by rfl) (by rfl) ml_X4_39 (by rfl) (Nat.le_of_ble_eq_true rfl) ⟨Nat.le_of_ble_eq_true rfl, Nat.le_of_ble_eq_true rfl⟩ dX4_copy_43 (fun r32 σ32 w32 => ?_)
          obtain ⟨u1, u2⟩ := w32; rw [u1, u2]; clear u1 u2
          exact gx_iret C hr hlk rfl (fim_fd hR (by decide) (by first | (simp only [opCopy, ck, cj, hz3, hz3j, bey, mis, knd] <;> grind) | (simp only [opCopy, ck, bey, mis, knd] <;> grind) | (simp only [opCopy, bey, mis, knd] <;> grind))) dX4_copy_46
    ·
      have h5 := b2_z.mp h5
      refine gx_aload_n C dX4_copy_14 (by rfl) (by rfl) ?_
      refine gx_ldc C kc_X4_37 dX4_copy_15 ?_
      refine gx_callVI (As := [.int (-1000001)]) (rest := []) C (c_X4_finds E σ (-1000001) 0 (by decide) (by decide)) z_X4_finds ck4 (by rfl) (by rfl) ml_X4_39 (by rfl) (Nat.le_of_ble_eq_true rfl) ⟨Nat.le_of_ble_eq_true rfl, Nat.le_of_ble_eq_true rfl⟩ dX4_copy_17 (fun r33 σ33 w33 => ?_)
      obtain ⟨u1, u2⟩ := w33; rw [u1, u2]; clear u1 u2
      exact gx_iret C hr hlk rfl (fim_fd hR (by decide) (by first | (simp only [opCopy, ck, cj, hz3, hz3j, bey, mis, knd] <;> grind) | (simp only [opCopy, ck, bey, mis, knd] <;> grind) | (simp only [opCopy, bey, mis, knd] <;> grind))) dX4_copy_20
set_option maxHeartbeats 4000000 in
set_option maxRecDepth 100000 in
theorem c_X4_load (E : En) (σ : Mm) (K L : Mm) (g : Int32) (F : Nat → Int32) (tl : Int32) (Bt W Z : Nat → Int32) (N : Mm) (hR : MR σ (K, L, g, F, tl, Bt, W, Z, N)) (x : Int32) : CtI E yX4_load cX4_load 3 (some .int) 3 68 [.ref (eA E 49), .int x] σ (fun rr σ2 => rr = (opLoad (K, L, g, F, tl, Bt, W, Z, N) x).1 ∧ MR σ2 (opLoad (K, L, g, F, tl, Bt, W, Z, N) x).2 ∧ FM σ σ2) := by
  obtain ⟨⟨hM, hO⟩, ⟨hg1, hg2, hg3⟩, hFd, ⟨⟨htl, htl2⟩, hBt⟩, hSh⟩ := id hR
  obtain ⟨⟨hn, h12⟩, hpp, hlw, hsp, hz0⟩ := id hO
  refine CtI.of (by decide +kernel) (Nat.le_of_ble_eq_true rfl) (fun p e0 s m below meth c C hr hlk => ?_)
  refine gx_lv (lv' := [(0, .ref (eA E 49)), (1, .int x)]) rfl ?_
  refine gx_iload_n C dX4_load_0 (by rfl) (by rfl) ?_
  refine gx_callSI (As := [.int x]) (rest := []) C (c_X4_isSheet E σ x) z_X4_isSheet (by rfl) ml_X4_306 (by rfl) (Nat.le_of_ble_eq_true rfl) ⟨Nat.le_of_ble_eq_true rfl, Nat.le_of_ble_eq_true rfl⟩ dX4_load_1 (fun r1 σ1 w1 => ?_)
  obtain ⟨u1, u2⟩ := w1; rw [u1, u2]; clear u1 u2
  refine gx_if_ne (tgt := 14) C dX4_load_4 (by decide) (fun h2 => ?_) (fun h2 => ?_)
  ·
    have h2 := b2_nz.mp h2
    obtain ⟨k, hk, rfl⟩ := s_nat h2
    have ck : (nI k).toNatClampNeg = k := nI_clamp (by omega)
    obtain ⟨⟨hw1, hw2⟩, ⟨hz1, z, hz2, hz3⟩, hnm⟩ := hSh k (by omega)
    have cz : (Z k).toNatClampNeg = z := by rw [hz3]; exact nI_clamp (by omega)
    refine gx_aload_n C dX4_load_14 (by rfl) (by rfl) ?_
    refine gx_getr (j := 56) (k := 13) C ck4 (by rfl) (by rfl) (by decide) fl_X4_28 dX4_load_15 ?_
    refine gx_iload_n C dX4_load_18 (by rfl) (by rfl) ?_
    refine gx_ialdN (k := k) C (by rfl) rfl (by omega) (by decide) dX4_load_19 ?_
    refine gx_st (st' := [.int (W k)]) (by rw [hw1]) ?_
    refine gx_if_ne (tgt := 31) C dX4_load_20 (by decide) (fun h3 => ?_) (fun h3 => ?_)
    ·
      refine gx_iconst (v := 0) C dX4_load_31 (by decide) ?_
      refine gx_istore_n (lv2 := [(2, .int 0), (0, .ref (eA E 49)), (1, .int (nI k))]) C dX4_load_32 (by rfl) (by decide) rfl ?_
      have loop33 : ∀ (f : Nat) (i : Nat) (τ Kc : Mm), f + i = 13 → i ≤ 12 → vM τ 50 = Kc → Ok Kc → nn Kc = nn K → ldF (N k) z f i Kc = ldF (N k) z 13 0 K → F3 σ τ → Gx E p e0 (rmF 3 68) s m ([.ref (eA E 49), .int (nI k)] : List Value).toArray below meth c (MQ below (va_Qi (fun rr σ2 => rr = (opLoad (K, L, g, F, tl, Bt, W, Z, N) (nI k)).1 ∧ MR σ2 (opLoad (K, L, g, F, tl, Bt, W, Z, N) (nI k)).2 ∧ FM σ σ2) (WQ E) (AA E s.heap.size)) ([.ref (eA E 49), .int (nI k)] : List Value).toArray s 0 0 (AA E s.heap.size)) 3 33 [(0, .ref (eA E 49)), (1, .int (nI k)), (2, .int (nI i))] [] τ := by
        intro f
        induction f with
        | zero => intro i τ Kc hf hi12 hMc hOc hnc eT hFt; exact absurd hf (by omega)
        | succ f ih33 =>
          intro i τ Kc hf hi12 hMc hOc hnc eT hFt
          have h12c := hOc.1.2
          have hm1 : ¬ nI i = -1 := nI_m1 (by omega)
          refine gx_iload_n C dX4_load_33 (by rfl) (by rfl) ?_
          refine gx_aload_n C dX4_load_34 (by rfl) (by rfl) ?_
          refine gx_getr (j := 57) (k := 14) C ck4 (by rfl) (by rfl) (by decide) fl_X4_31 dX4_load_35 ?_
          refine gx_iload_n C dX4_load_38 (by rfl) (by rfl) ?_
          refine gx_ialdN (k := k) C (by rfl) rfl (by omega) (by decide) dX4_load_39 ?_
          refine gx_st (st' := [.int (nI z), .int (nI i)]) (by rw [hFt 57 (by decide) (by decide) (by decide), hz1, hz3]) ?_
          refine gx_icmp_ge (tgt := 93) C dX4_load_40 (by decide) (fun h4 => ?_) (fun h4 => ?_)
          ·
            have h4 := (nI_leI (a := z) (b := i) (by omega) (by omega)).mp h4
            refine gx_iload_n C dX4_load_93 (by rfl) (by rfl) ?_
            exact gx_iret C hr hlk rfl (fim_now hR hMc hOc hFt (by have q1 : ldF (N k) z 13 0 K = (nI i, Kc) := (by rw [← eT, ldF, if_neg (fun ⟨x1, x2, x3, x4⟩ => by first | omega | grind)]); simp only [opLoad, ck, cz, q1, bey, mis]; rw [if_pos (by grind), if_neg (by grind)])) dX4_load_94
          ·
            have h4 := (not_congr (nI_leI (a := z) (b := i) (by omega) (by omega))).mp h4
            refine gx_aload_n C dX4_load_43 (by rfl) (by rfl) ?_
            refine gx_iload_n C dX4_load_44 (by rfl) (by rfl) ?_
            refine gx_callVI (As := [.int (nI i)]) (rest := []) C (c_X4_isPerson E τ Kc hMc hOc (nI i)) z_X4_isPerson ck4 (by rfl) (by rfl) ml_X4_101 (by rfl) (Nat.le_of_ble_eq_true rfl) ⟨Nat.le_of_ble_eq_true rfl, Nat.le_of_ble_eq_true rfl⟩ dX4_load_45 (fun r5 σ5 w5 => ?_)
            obtain ⟨u1, u2⟩ := w5; rw [u1, u2]; clear u1 u2
            refine gx_if_eq (tgt := 93) C dX4_load_48 (by decide) (fun h6 => ?_) (fun h6 => ?_)
            ·
              have h6 := b2_z.mp h6
              have hip : ¬ i < nn Kc := fun q => h6 (nI_has hOc q)
              refine gx_iload_n C dX4_load_93 (by rfl) (by rfl) ?_
              exact gx_iret C hr hlk rfl (fim_now hR hMc hOc hFt (by have q1 : ldF (N k) z 13 0 K = (nI i, Kc) := (by rw [← eT, ldF, if_neg (fun ⟨x1, x2, x3, x4⟩ => by first | omega | grind)]); simp only [opLoad, ck, cz, q1, bey, mis]; rw [if_pos (by grind), if_neg (by grind)])) dX4_load_94
            ·
              have h6 := b2_nz.mp h6
              have hip : i < nn Kc := (nI_ltI (by omega) (by omega)).mp (by rw [← hOc.1.1]; exact h6.2)
              refine gx_aload_n C dX4_load_51 (by rfl) (by rfl) ?_
              refine gx_iload_n C dX4_load_52 (by rfl) (by rfl) ?_
              refine gx_aload_n C dX4_load_53 (by rfl) (by rfl) ?_
              refine gx_getr (j := 58) (k := 15) C ck4 (by rfl) (by rfl) (by decide) fl_X4_34 dX4_load_54 ?_
              refine gx_bipush (v := 40) C dX4_load_57 (by decide) ?_
              refine gx_iload_n C dX4_load_59 (by rfl) (by rfl) ?_
              refine gx_imul C dX4_load_60 ?_
              refine gx_st (st' := [.int (nI (40 * k)), .ref (eA E 58), .int (nI i), .ref (eA E 49)]) (by rw [show 40 * (nI k) = nI (40 * k) from pk_mul 40 k]) ?_
              refine gx_iload_n C dX4_load_61 (by rfl) (by rfl) ?_
              refine gx_iadd C dX4_load_62 ?_
              refine gx_st (st' := [.int (nI (40 * k + i)), .ref (eA E 58), .int (nI i), .ref (eA E 49)]) (by rw [show (nI (40 * k)) + (nI i) = nI (40 * k + i) from nI_add (40 * k) i]) ?_
              refine gx_ialdN (k := (40 * k + i)) C (by rfl) rfl (by omega) (by decide) dX4_load_63 ?_
              refine gx_st (st' := [.int (N k i), .int (nI i), .ref (eA E 49)]) (by rw [hFt 58 (by decide) (by decide) (by decide), hnm i (by omega)]) ?_
              refine gx_callVI (As := [.int (nI i), .int (N k i)]) (rest := []) C (c_X4_mayBear E τ Kc hMc hOc (nI i) (N k i)) z_X4_mayBear ck4 (by rfl) (by rfl) ml_X4_113 (by rfl) (Nat.le_of_ble_eq_true rfl) ⟨Nat.le_of_ble_eq_true rfl, Nat.le_of_ble_eq_true rfl⟩ dX4_load_64 (fun r7 σ7 w7 => ?_)
              obtain ⟨u1, u2⟩ := w7; rw [u1, u2]; clear u1 u2
              refine gx_if_eq (tgt := 93) C dX4_load_67 (by decide) (fun h8 => ?_) (fun h8 => ?_)
              ·
                have h8 := b2_z.mp h8
                refine gx_iload_n C dX4_load_93 (by rfl) (by rfl) ?_
                exact gx_iret C hr hlk rfl (fim_now hR hMc hOc hFt (by have q1 : ldF (N k) z 13 0 K = (nI i, Kc) := (by rw [← eT, ldF, if_neg (fun ⟨x1, x2, x3, x4⟩ => by first | omega | grind)]); simp only [opLoad, ck, cz, q1, bey, mis]; rw [if_pos (by grind), if_neg (by grind)])) dX4_load_94
              ·
                have h8 := b2_nz.mp h8
                refine gx_aload_n C dX4_load_70 (by rfl) (by rfl) ?_
                refine gx_iload_n C dX4_load_71 (by rfl) (by rfl) ?_
                refine gx_aload_n C dX4_load_72 (by rfl) (by rfl) ?_
                refine gx_getr (j := 58) (k := 15) C ck4 (by rfl) (by rfl) (by decide) fl_X4_34 dX4_load_73 ?_
                refine gx_bipush (v := 40) C dX4_load_76 (by decide) ?_
                refine gx_iload_n C dX4_load_78 (by rfl) (by rfl) ?_
                refine gx_imul C dX4_load_79 ?_
                refine gx_st (st' := [.int (nI (40 * k)), .ref (eA E 58), .int (nI i), .ref (eA E 49)]) (by rw [show 40 * (nI k) = nI (40 * k) from pk_mul 40 k]) ?_
                refine gx_iload_n C dX4_load_80 (by rfl) (by rfl) ?_
                refine gx_iadd C dX4_load_81 ?_
                refine gx_st (st' := [.int (nI (40 * k + i)), .ref (eA E 58), .int (nI i), .ref (eA E 49)]) (by rw [show (nI (40 * k)) + (nI i) = nI (40 * k + i) from nI_add (40 * k) i]) ?_
                refine gx_ialdN (k := (40 * k + i)) C (by rfl) rfl (by omega) (by decide) dX4_load_82 ?_
                refine gx_st (st' := [.int (N k i), .int (nI i), .ref (eA E 49)]) (by rw [hFt 58 (by decide) (by decide) (by decide), hnm i (by omega)]) ?_
                refine gx_callVI (As := [.int (nI i), .int (N k i)]) (rest := []) C (c_X4_bears E τ Kc hMc hOc i (by omega) (N k i)) z_X4_bears ck4 (by rfl) (by rfl) ml_X4_116 (by rfl) (Nat.le_of_ble_eq_true rfl) ⟨Nat.le_of_ble_eq_true rfl, Nat.le_of_ble_eq_true rfl⟩ dX4_load_83 (fun r9 σ9 w9 => ?_)
                obtain ⟨er9, hM9, hF9⟩ := w9
                rw [bear_c] at hM9
                refine gx_st (st' := [.int (Kc 6 i)]) (by rw [er9]) ?_
                refine gx_pop C (by rfl) dX4_load_86 ?_
                refine gx_iinc (v := nI (i + 1)) (lv2 := [(2, .int (nI (i + 1))), (0, .ref (eA E 49)), (1, .int (nI k))]) C dX4_load_87 (by rfl) (by exact nI_p1 _) (by decide) rfl ?_
                refine gx_goto (tgt := 33) C dX4_load_90 (by decide) ?_
                refine gx_sub [1, 2, 0] (lv' := [(0, .ref (eA E 49)), (1, .int (nI k)), (2, .int (nI (i + 1)))]) rfl ?_
                exact ih33 (i + 1) σ9 (up2 (up2 Kc 6 i (N k i)) 7 i 0) (by omega) (by omega) hM9 ((hOc.grudge (p := i) (v := (N k i)) (by omega) (q_rg hOc (by grind))).gift (p := i) (v := 0) (by omega)) (by rw [nn_up (Or.inl (by decide)), nn_up (Or.inl (by decide))]; exact hnc) (by rw [← eT, ldF, if_pos ⟨by omega, by omega, by grind, by grind⟩]) ((hFt).f1 hF9 (by decide))
      refine gx_sub [1, 2, 0] (lv' := [(0, .ref (eA E 49)), (1, .int (nI k)), (2, .int 0)]) rfl ?_
      refine gx_lv (lv' := [(0, .ref (eA E 49)), (1, .int (nI k)), (2, .int (nI 0))]) (by rfl) ?_
      exact loop33 13 0 σ K (by omega) (by omega) hM hO rfl rfl F3.rf
    ·
      refine gx_aload_n C dX4_load_23 (by rfl) (by rfl) ?_
      refine gx_ldcw C kc_X4_301 dX4_load_24 ?_
      refine gx_callVI (As := [.int (-1000006)]) (rest := []) C (c_X4_finds E σ (-1000006) 5 (by decide) (by decide)) z_X4_finds ck4 (by rfl) (by rfl) ml_X4_39 (by rfl) (Nat.le_of_ble_eq_true rfl) ⟨Nat.le_of_ble_eq_true rfl, Nat.le_of_ble_eq_true rfl⟩ dX4_load_27 (fun r10 σ10 w10 => ?_)
      obtain ⟨u1, u2⟩ := w10; rw [u1, u2]; clear u1 u2
      exact gx_iret C hr hlk rfl (fim_fd hR (by decide) (by first | (simp only [opLoad, ck, bey, mis] <;> grind) | (simp only [opLoad, bey, mis] <;> grind))) dX4_load_30
  ·
    have h2 := b2_z.mp h2
    refine gx_aload_n C dX4_load_7 (by rfl) (by rfl) ?_
    refine gx_ldc C kc_X4_37 dX4_load_8 ?_
    refine gx_callVI (As := [.int (-1000001)]) (rest := []) C (c_X4_finds E σ (-1000001) 0 (by decide) (by decide)) z_X4_finds ck4 (by rfl) (by rfl) ml_X4_39 (by rfl) (Nat.le_of_ble_eq_true rfl) ⟨Nat.le_of_ble_eq_true rfl, Nat.le_of_ble_eq_true rfl⟩ dX4_load_10 (fun r11 σ11 w11 => ?_)
    obtain ⟨u1, u2⟩ := w11; rw [u1, u2]; clear u1 u2
    exact gx_iret C hr hlk rfl (fim_fd hR (by decide) (by first | (simp only [opLoad, ck, bey, mis] <;> grind) | (simp only [opLoad, bey, mis] <;> grind))) dX4_load_13
theorem jd_f0 {K : Mm} {row : Nat → Int32} {i : Nat} (h : bset (nn (mos (i + 1) K)) (inP (mos (i + 1) K) 0) = row i) (hn : nn (mos (i + 1) K) = nn K) : jdP K row i = false := jd_f h.symm hn
theorem jd_t0 {K : Mm} {row : Nat → Int32} {i : Nat} (h : ¬ bset (nn (mos (i + 1) K)) (inP (mos (i + 1) K) 0) = row i) (hn : nn (mos (i + 1) K) = nn K) : jdP K row i = true := jd_t (fun q => h q.symm) hn
set_option maxHeartbeats 4000000 in
set_option maxRecDepth 100000 in
theorem c_X4_judge (E : En) (σ : Mm) (K L : Mm) (g : Int32) (F : Nat → Int32) (tl : Int32) (Bt W Z : Nat → Int32) (N : Mm) (hR : MR σ (K, L, g, F, tl, Bt, W, Z, N)) (x : Int32) : CtI E yX4_judge cX4_judge 4 (some .int) 6 140 [.ref (eA E 49), .int x] σ (fun rr σ2 => rr = (opJudge (K, L, g, F, tl, Bt, W, Z, N) x).1 ∧ MR σ2 (opJudge (K, L, g, F, tl, Bt, W, Z, N) x).2 ∧ FM σ σ2) := by
  obtain ⟨⟨hM, hO⟩, ⟨hg1, hg2, hg3⟩, hFd, ⟨⟨htl, htl2⟩, hBt⟩, hSh⟩ := id hR
  obtain ⟨⟨hn, h12⟩, hpp, hlw, hsp, hz0⟩ := id hO
  refine CtI.of (by decide +kernel) (Nat.le_of_ble_eq_true rfl) (fun p e0 s m below meth c C hr hlk => ?_)
  refine gx_lv (lv' := [(0, .ref (eA E 49)), (1, .int x)]) rfl ?_
  refine gx_iload_n C dX4_judge_0 (by rfl) (by rfl) ?_
  refine gx_callSI (As := [.int x]) (rest := []) C (c_X4_isSheet E σ x) z_X4_isSheet (by rfl) ml_X4_306 (by rfl) (Nat.le_of_ble_eq_true rfl) ⟨Nat.le_of_ble_eq_true rfl, Nat.le_of_ble_eq_true rfl⟩ dX4_judge_1 (fun r1 σ1 w1 => ?_)
  obtain ⟨u1, u2⟩ := w1; rw [u1, u2]; clear u1 u2
  refine gx_if_ne (tgt := 14) C dX4_judge_4 (by decide) (fun h2 => ?_) (fun h2 => ?_)
  ·
    have h2 := b2_nz.mp h2
    obtain ⟨k, hk, rfl⟩ := s_nat h2
    have ck : (nI k).toNatClampNeg = k := nI_clamp (by omega)
    obtain ⟨⟨hw1, hw2⟩, ⟨hz1, z, hz2, hz3⟩, hnm⟩ := hSh k (by omega)
    have cz : (Z k).toNatClampNeg = z := by rw [hz3]; exact nI_clamp (by omega)
    refine gx_aload_n C dX4_judge_14 (by rfl) (by rfl) ?_
    refine gx_getr (j := 56) (k := 13) C ck4 (by rfl) (by rfl) (by decide) fl_X4_28 dX4_judge_15 ?_
    refine gx_iload_n C dX4_judge_18 (by rfl) (by rfl) ?_
    refine gx_ialdN (k := k) C (by rfl) rfl (by omega) (by decide) dX4_judge_19 ?_
    refine gx_st (st' := [.int (W k)]) (by rw [hw1]) ?_
    refine gx_if_ne (tgt := 31) C dX4_judge_20 (by decide) (fun h3 => ?_) (fun h3 => ?_)
    ·
      refine gx_aload_n C dX4_judge_31 (by rfl) (by rfl) ?_
      refine gx_getr (j := 50) (k := 0) C ck4 (by rfl) (by rfl) (by decide) fl_X4_9 dX4_judge_32 ?_
      refine gx_iconst (v := 0) C dX4_judge_35 (by decide) ?_
      refine gx_ialdN (k := 0) C (by rfl) (by rfl) (by decide) (by decide) dX4_judge_36 ?_
      refine gx_st (st' := [.int (K 0 1)]) (by rw [mp_m hM]) ?_
      refine gx_aload_n C dX4_judge_37 (by rfl) (by rfl) ?_
      refine gx_getr (j := 57) (k := 14) C ck4 (by rfl) (by rfl) (by decide) fl_X4_31 dX4_judge_38 ?_
      refine gx_iload_n C dX4_judge_41 (by rfl) (by rfl) ?_
      refine gx_ialdN (k := k) C (by rfl) rfl (by omega) (by decide) dX4_judge_42 ?_
      refine gx_st (st' := [.int (nI z), .int (K 0 1)]) (by rw [hz1, hz3]) ?_
      refine gx_iadd C dX4_judge_43 ?_
      refine gx_sipush (v := 999) C dX4_judge_44 (by decide) ?_
      refine gx_icmp_le (tgt := 57) C dX4_judge_47 (by decide) (fun h4 => ?_) (fun h4 => ?_)
      ·
        refine gx_aload_n C dX4_judge_57 (by rfl) (by rfl) ?_
        refine gx_getr (j := 50) (k := 0) C ck4 (by rfl) (by rfl) (by decide) fl_X4_9 dX4_judge_58 ?_
        refine gx_aload_n C dX4_judge_61 (by rfl) (by rfl) ?_
        refine gx_getr (j := 52) (k := 2) C ck4 (by rfl) (by rfl) (by decide) fl_X4_16 dX4_judge_62 ?_
        refine gx_callSV (As := [.ref (eA E 50), .ref (eA E 52)]) (rest := []) C (c_X4_row E σ 50 52 (by rfl) (by rfl) (by decide)) z_X4_row (by rfl) ml_X4_165 (by rfl) (Nat.le_of_ble_eq_true rfl) ⟨Nat.le_of_ble_eq_true rfl, Nat.le_of_ble_eq_true rfl⟩ dX4_judge_65 (fun σ5 w5 => ?_)
        obtain ⟨hR5, hF5⟩ := w5
        have hM5 : vM σ5 50 = K := (vM_o (hF5 50 (by decide))).trans hM
        have hW5 : vM σ5 52 = K := hR5.trans hM
        refine gx_iconst (v := 0) C dX4_judge_68 (by decide) ?_
        refine gx_istore_n (lv2 := [(2, .int 0), (0, .ref (eA E 49)), (1, .int (nI k))]) C dX4_judge_69 (by rfl) (by decide) rfl ?_
        refine gx_iconst (v := 1) C dX4_judge_70 (by decide) ?_
        refine gx_istore_n (lv2 := [(3, .int 1), (2, .int 0), (0, .ref (eA E 49)), (1, .int (nI k))]) C dX4_judge_71 (by rfl) (by decide) rfl ?_
        have loop72 : ∀ (kf i : Nat), i ≤ z → z < i + kf → ∀ τ : Mm, (vM τ 50 = mos i K) → (vM τ 52 = K) → (F3 σ τ) → (∀ b, b < i → jdP K (N k) b = false) → Gx E p e0 (rmF 6 140) s m ([.ref (eA E 49), .int (nI k)] : List Value).toArray below meth c (MQ below (va_Qi (fun rr σ2 => rr = (opJudge (K, L, g, F, tl, Bt, W, Z, N) (nI k)).1 ∧ MR σ2 (opJudge (K, L, g, F, tl, Bt, W, Z, N) (nI k)).2 ∧ FM σ σ2) (WQ E) (AA E s.heap.size)) ([.ref (eA E 49), .int (nI k)] : List Value).toArray s 0 0 (AA E s.heap.size)) 4 72 [(0, .ref (eA E 49)), (1, .int (nI k)), (2, .int (nI i)), (3, .int 1)] [] τ := by
          intro kf
          induction kf with
          | zero => intro i q1 q2; exact absurd q2 (by omega)
          | succ kf ih72 =>
            intro i a72 b72 τ hMt hWt hFt hno
            refine gx_iload_n C dX4_judge_72 (by rfl) (by rfl) ?_
            refine gx_aload_n C dX4_judge_73 (by rfl) (by rfl) ?_
            refine gx_getr (j := 57) (k := 14) C ck4 (by rfl) (by rfl) (by decide) fl_X4_31 dX4_judge_74 ?_
            refine gx_iload_n C dX4_judge_77 (by rfl) (by rfl) ?_
            refine gx_ialdN (k := k) C (by rfl) rfl (by omega) (by decide) dX4_judge_78 ?_
            refine gx_st (st' := [.int (nI z), .int (nI i)]) (by rw [hFt 57 (by decide) (by decide) (by decide), hz1, hz3]) ?_
            refine gx_icmp_ge (tgt := 130) C dX4_judge_79 (by decide) (fun h6 => ?_) (fun h6 => ?_)
            ·
              have h6 := (nI_leI (a := z) (b := i) (by omega) (by omega)).mp h6
              refine gx_aload_n C dX4_judge_130 (by rfl) (by rfl) ?_
              refine gx_getr (j := 52) (k := 2) C ck4 (by rfl) (by rfl) (by decide) fl_X4_16 dX4_judge_131 ?_
              refine gx_aload_n C dX4_judge_134 (by rfl) (by rfl) ?_
              refine gx_getr (j := 50) (k := 0) C ck4 (by rfl) (by rfl) (by decide) fl_X4_9 dX4_judge_135 ?_
              refine gx_callSV (As := [.ref (eA E 52), .ref (eA E 50)]) (rest := []) C (c_X4_row E τ 52 50 (by rfl) (by rfl) (by decide)) z_X4_row (by rfl) ml_X4_165 (by rfl) (Nat.le_of_ble_eq_true rfl) ⟨Nat.le_of_ble_eq_true rfl, Nat.le_of_ble_eq_true rfl⟩ dX4_judge_138 (fun σ7 w7 => ?_)
              obtain ⟨hR7, hF7⟩ := w7
              have hN8 : vM σ7 52 = K := (vM_o (hF7 52 (by decide))).trans hWt
              have hM7 : vM σ7 50 = K := hR7.trans hWt
              refine gx_iload_n C dX4_judge_141 (by rfl) (by rfl) ?_
              refine gx_aload_n C dX4_judge_142 (by rfl) (by rfl) ?_
              refine gx_getr (j := 57) (k := 14) C ck4 (by rfl) (by rfl) (by decide) fl_X4_31 dX4_judge_143 ?_
              refine gx_iload_n C dX4_judge_146 (by rfl) (by rfl) ?_
              refine gx_ialdN (k := k) C (by rfl) rfl (by omega) (by decide) dX4_judge_147 ?_
              refine gx_st (st' := [.int (nI z), .int (nI i)]) (by rw [((hFt).f1 hF7 (by decide)) 57 (by decide) (by decide) (by decide), hz1, hz3]) ?_
              refine gx_icmp_ne (tgt := 155) C dX4_judge_148 (by decide) (fun h9 => ?_) (fun h9 => ?_)
              ·
                have h9 := (not_congr (nI_eq (a := i) (b := z) (by omega) (by omega))).mp h9
                refine gx_iconst (v := 1) C dX4_judge_155 (by decide) ?_
                refine gx_iload_n C dX4_judge_156 (by rfl) (by rfl) ?_
                refine gx_iadd C dX4_judge_157 ?_
                refine gx_st (st' := [.int (nI (1 + i))]) (by rw [show 1 + (nI i) = nI (1 + i) from nI_add 1 i]) ?_
                exact gx_iret C hr hlk rfl (fim_try hR hM7 ((hFt).f1 hF7 (by decide)) (by exfalso; omega)) dX4_judge_158
              ·
                have h9 := (nI_eq (a := i) (b := z) (by omega) (by omega)).mp h9
                refine gx_iconst (v := 0) C dX4_judge_151 (by decide) ?_
                refine gx_goto (tgt := 158) C dX4_judge_152 (by decide) ?_
                exact gx_iret C hr hlk rfl (fim_try hR hM7 ((hFt).f1 hF7 (by decide)) (by first | (exfalso; omega) | (have q1 : frst (jdP K (N k)) z 0 = -1 := frst_no z 0 (fun b x1 x2 => hno b (by omega)); simp only [opJudge, ck, cz, q1, bey, mis, sta]; rw [if_pos (by grind), if_neg (by grind), if_neg (by grind)]; rfl))) dX4_judge_158
            ·
              have h6 := (not_congr (nI_leI (a := z) (b := i) (by omega) (by omega))).mp h6
              refine gx_iload_n C dX4_judge_82 (by rfl) (by rfl) ?_
              refine gx_if_eq (tgt := 130) C dX4_judge_83 (by decide) (fun h10 => ?_) (fun h10 => ?_)
              ·
                exact absurd h10 (by decide)
              ·
                clear h10
                refine gx_aload_n C dX4_judge_86 (by rfl) (by rfl) ?_
                refine gx_callVV (As := []) (rest := []) C (c_X4_month E τ (mos i K) hMt ((mos_keep hO i).1)) z_X4_month ck4 (by rfl) (by rfl) ml_X4_154 (by rfl) (Nat.le_of_ble_eq_true rfl) ⟨Nat.le_of_ble_eq_true rfl, Nat.le_of_ble_eq_true rfl⟩ dX4_judge_87 (fun σ11 w11 => ?_)
                obtain ⟨hM11, hF11⟩ := w11
                obtain ⟨X11, eX11⟩ : ∃ X, X = mo (mos i K) := ⟨_, rfl⟩
                rw [← eX11] at hM11
                have hO11 : Ok X11 := by rw [eX11]; exact (mo_keep ((mos_keep hO i).1)).1
                have hnn11 : nn X11 = nn (mos i K) := by rw [eX11]; exact (mo_keep ((mos_keep hO i).1)).2
                have h1211 := hO11.1.2
                have hN14 : vM σ11 52 = K := (vM_o (hF11 52 (by decide))).trans hWt
                refine gx_aload_n C dX4_judge_90 (by rfl) (by rfl) ?_
                refine gx_iconst (v := 0) C dX4_judge_91 (by decide) ?_
                refine gx_callVI (As := [.int 0]) (rest := []) C (c_X4_inRank E σ11 X11 hM11 hO11 0) z_X4_inRank ck4 (by rfl) (by rfl) ml_X4_55 (by rfl) (Nat.le_of_ble_eq_true rfl) ⟨Nat.le_of_ble_eq_true rfl, Nat.le_of_ble_eq_true rfl⟩ dX4_judge_92 (fun r15 σ15 w15 => ?_)
                obtain ⟨u1, u2⟩ := w15; rw [u1, u2]; clear u1 u2
                refine gx_aload_n C dX4_judge_95 (by rfl) (by rfl) ?_
                refine gx_getr (j := 58) (k := 15) C ck4 (by rfl) (by rfl) (by decide) fl_X4_34 dX4_judge_96 ?_
                refine gx_bipush (v := 40) C dX4_judge_99 (by decide) ?_
                refine gx_iload_n C dX4_judge_101 (by rfl) (by rfl) ?_
                refine gx_imul C dX4_judge_102 ?_
                refine gx_st (st' := [.int (nI (40 * k)), .ref (eA E 58), .int (bset (nn X11) (inP X11 0))]) (by rw [show 40 * (nI k) = nI (40 * k) from pk_mul 40 k]) ?_
                refine gx_iload_n C dX4_judge_103 (by rfl) (by rfl) ?_
                refine gx_iadd C dX4_judge_104 ?_
                refine gx_st (st' := [.int (nI (40 * k + i)), .ref (eA E 58), .int (bset (nn X11) (inP X11 0))]) (by rw [show (nI (40 * k)) + (nI i) = nI (40 * k + i) from nI_add (40 * k) i]) ?_
                refine gx_ialdN (k := (40 * k + i)) C (by rfl) rfl (by omega) (by decide) dX4_judge_105 ?_
                refine gx_st (st' := [.int (N k i), .int (bset (nn X11) (inP X11 0))]) (by rw [((hFt).f1 hF11 (by decide)) 58 (by decide) (by decide) (by decide), hnm i (by omega)]) ?_
                refine gx_icmp_ne (tgt := 113) C dX4_judge_106 (by decide) (fun h16 => ?_) (fun h16 => ?_)
                ·
                  refine gx_iconst (v := 0) C dX4_judge_113 (by decide) ?_
                  refine gx_istore_n (lv2 := [(3, .int 0), (0, .ref (eA E 49)), (1, .int (nI k)), (2, .int (nI i))]) C dX4_judge_114 (by rfl) (by decide) rfl ?_
                  refine gx_iload_n C dX4_judge_115 (by rfl) (by rfl) ?_
                  refine gx_iload_n C dX4_judge_116 (by rfl) (by rfl) ?_
                  refine gx_if_eq (tgt := 124) C dX4_judge_117 (by decide) (fun h17 => ?_) (fun h17 => ?_)
                  ·
                    clear h17
                    refine gx_iconst (v := 0) C dX4_judge_124 (by decide) ?_
                    refine gx_iadd C dX4_judge_125 ?_
                    refine gx_st (st' := [.int (nI (i + 0))]) (by rw [show (nI i) + 0 = nI (i + 0) from nI_add i 0]) ?_
                    refine gx_istore_n (lv2 := [(2, .int (nI (i + 0))), (3, .int 0), (0, .ref (eA E 49)), (1, .int (nI k))]) C dX4_judge_126 (by rfl) (by decide) rfl ?_
                    refine gx_goto (tgt := 72) C dX4_judge_127 (by decide) ?_
                    refine gx_iload_n C dX4_judge_72 (by rfl) (by rfl) ?_
                    refine gx_aload_n C dX4_judge_73 (by rfl) (by rfl) ?_
                    refine gx_getr (j := 57) (k := 14) C ck4 (by rfl) (by rfl) (by decide) fl_X4_31 dX4_judge_74 ?_
                    refine gx_iload_n C dX4_judge_77 (by rfl) (by rfl) ?_
                    refine gx_ialdN (k := k) C (by rfl) rfl (by omega) (by decide) dX4_judge_78 ?_
                    refine gx_st (st' := [.int (nI z), .int (nI (i + 0))]) (by rw [((hFt).f1 hF11 (by decide)) 57 (by decide) (by decide) (by decide), hz1, hz3]) ?_
                    refine gx_icmp_ge (tgt := 130) C dX4_judge_79 (by decide) (fun h18 => ?_) (fun h18 => ?_)
                    ·
                      have h18 := (nI_leI (a := z) (b := (i + 0)) (by omega) (by omega)).mp h18
                      refine gx_aload_n C dX4_judge_130 (by rfl) (by rfl) ?_
                      refine gx_getr (j := 52) (k := 2) C ck4 (by rfl) (by rfl) (by decide) fl_X4_16 dX4_judge_131 ?_
                      refine gx_aload_n C dX4_judge_134 (by rfl) (by rfl) ?_
                      refine gx_getr (j := 50) (k := 0) C ck4 (by rfl) (by rfl) (by decide) fl_X4_9 dX4_judge_135 ?_
                      refine gx_callSV (As := [.ref (eA E 52), .ref (eA E 50)]) (rest := []) C (c_X4_row E σ11 52 50 (by rfl) (by rfl) (by decide)) z_X4_row (by rfl) ml_X4_165 (by rfl) (Nat.le_of_ble_eq_true rfl) ⟨Nat.le_of_ble_eq_true rfl, Nat.le_of_ble_eq_true rfl⟩ dX4_judge_138 (fun σ19 w19 => ?_)
                      obtain ⟨hR19, hF19⟩ := w19
                      have hN20 : vM σ19 52 = K := (vM_o (hF19 52 (by decide))).trans hN14
                      have hM19 : vM σ19 50 = K := hR19.trans hN14
                      refine gx_iload_n C dX4_judge_141 (by rfl) (by rfl) ?_
                      refine gx_aload_n C dX4_judge_142 (by rfl) (by rfl) ?_
                      refine gx_getr (j := 57) (k := 14) C ck4 (by rfl) (by rfl) (by decide) fl_X4_31 dX4_judge_143 ?_
                      refine gx_iload_n C dX4_judge_146 (by rfl) (by rfl) ?_
                      refine gx_ialdN (k := k) C (by rfl) rfl (by omega) (by decide) dX4_judge_147 ?_
                      refine gx_st (st' := [.int (nI z), .int (nI (i + 0))]) (by rw [(((hFt).f1 hF11 (by decide)).f1 hF19 (by decide)) 57 (by decide) (by decide) (by decide), hz1, hz3]) ?_
                      refine gx_icmp_ne (tgt := 155) C dX4_judge_148 (by decide) (fun h21 => ?_) (fun h21 => ?_)
                      ·
                        have h21 := (not_congr (nI_eq (a := (i + 0)) (b := z) (by omega) (by omega))).mp h21
                        refine gx_iconst (v := 1) C dX4_judge_155 (by decide) ?_
                        refine gx_iload_n C dX4_judge_156 (by rfl) (by rfl) ?_
                        refine gx_iadd C dX4_judge_157 ?_
                        refine gx_st (st' := [.int (nI (1 + i + 0))]) (by rw [show 1 + (nI (i + 0)) = nI (1 + i + 0) from nI_add 1 (i + 0)]) ?_
                        exact gx_iret C hr hlk rfl (fim_try hR hM19 (((hFt).f1 hF11 (by decide)).f1 hF19 (by decide)) (by first | (exfalso; omega) | (have q0 : jdP K (N k) i = true := jd_t0 (by rw [mos, ← eX11]; assumption) (mos_keep hO (i + 1)).2; have q1 : frst (jdP K (N k)) z 0 = nI i := frst_at q0 z 0 (by omega) (by omega) (fun b x1 x2 => hno b x2); simp only [opJudge, ck, cz, q1, bey, mis, sta]; rw [if_pos (by grind), if_neg (by grind), if_neg (by grind), if_neg (nI_m1 (by omega)), show (1 : Int32) + nI i = nI (1 + i + 0) from nI_add 1 i]))) dX4_judge_158
                      ·
                        have h21 := (nI_eq (a := (i + 0)) (b := z) (by omega) (by omega)).mp h21
                        refine gx_iconst (v := 0) C dX4_judge_151 (by decide) ?_
                        refine gx_goto (tgt := 158) C dX4_judge_152 (by decide) ?_
                        exact gx_iret C hr hlk rfl (fim_try hR hM19 (((hFt).f1 hF11 (by decide)).f1 hF19 (by decide)) (by first | (exfalso; omega) | (have q1 : frst (jdP K (N k)) z 0 = -1 := frst_no z 0 (fun b x1 x2 => hno b (by omega)); simp only [opJudge, ck, cz, q1, bey, mis, sta]; rw [if_pos (by grind), if_neg (by grind), if_neg (by grind)]; rfl))) dX4_judge_158
                    ·
                      have h18 := (not_congr (nI_leI (a := z) (b := (i + 0)) (by omega) (by omega))).mp h18
                      refine gx_iload_n C dX4_judge_82 (by rfl) (by rfl) ?_
                      refine gx_if_eq (tgt := 130) C dX4_judge_83 (by decide) (fun h22 => ?_) (fun h22 => ?_)
                      ·
                        clear h22
                        refine gx_aload_n C dX4_judge_130 (by rfl) (by rfl) ?_
                        refine gx_getr (j := 52) (k := 2) C ck4 (by rfl) (by rfl) (by decide) fl_X4_16 dX4_judge_131 ?_
                        refine gx_aload_n C dX4_judge_134 (by rfl) (by rfl) ?_
                        refine gx_getr (j := 50) (k := 0) C ck4 (by rfl) (by rfl) (by decide) fl_X4_9 dX4_judge_135 ?_
                        refine gx_callSV (As := [.ref (eA E 52), .ref (eA E 50)]) (rest := []) C (c_X4_row E σ11 52 50 (by rfl) (by rfl) (by decide)) z_X4_row (by rfl) ml_X4_165 (by rfl) (Nat.le_of_ble_eq_true rfl) ⟨Nat.le_of_ble_eq_true rfl, Nat.le_of_ble_eq_true rfl⟩ dX4_judge_138 (fun σ23 w23 => ?_)
                        obtain ⟨hR23, hF23⟩ := w23
                        have hN24 : vM σ23 52 = K := (vM_o (hF23 52 (by decide))).trans hN14
                        have hM23 : vM σ23 50 = K := hR23.trans hN14
                        refine gx_iload_n C dX4_judge_141 (by rfl) (by rfl) ?_
                        refine gx_aload_n C dX4_judge_142 (by rfl) (by rfl) ?_
                        refine gx_getr (j := 57) (k := 14) C ck4 (by rfl) (by rfl) (by decide) fl_X4_31 dX4_judge_143 ?_
                        refine gx_iload_n C dX4_judge_146 (by rfl) (by rfl) ?_
                        refine gx_ialdN (k := k) C (by rfl) rfl (by omega) (by decide) dX4_judge_147 ?_
                        refine gx_st (st' := [.int (nI z), .int (nI (i + 0))]) (by rw [(((hFt).f1 hF11 (by decide)).f1 hF23 (by decide)) 57 (by decide) (by decide) (by decide), hz1, hz3]) ?_
                        refine gx_icmp_ne (tgt := 155) C dX4_judge_148 (by decide) (fun h26 => ?_) (fun h26 => ?_)
                        ·
                          have h26 := (not_congr (nI_eq (a := (i + 0)) (b := z) (by omega) (by omega))).mp h26
                          refine gx_iconst (v := 1) C dX4_judge_155 (by decide) ?_
                          refine gx_iload_n C dX4_judge_156 (by rfl) (by rfl) ?_
                          refine gx_iadd C dX4_judge_157 ?_
                          refine gx_st (st' := [.int (nI (1 + i + 0))]) (by rw [show 1 + (nI (i + 0)) = nI (1 + i + 0) from nI_add 1 (i + 0)]) ?_
                          exact gx_iret C hr hlk rfl (fim_try hR hM23 (((hFt).f1 hF11 (by decide)).f1 hF23 (by decide)) (by first | (exfalso; omega) | (have q0 : jdP K (N k) i = true := jd_t0 (by rw [mos, ← eX11]; assumption) (mos_keep hO (i + 1)).2; have q1 : frst (jdP K (N k)) z 0 = nI i := frst_at q0 z 0 (by omega) (by omega) (fun b x1 x2 => hno b x2); simp only [opJudge, ck, cz, q1, bey, mis, sta]; rw [if_pos (by grind), if_neg (by grind), if_neg (by grind), if_neg (nI_m1 (by omega)), show (1 : Int32) + nI i = nI (1 + i + 0) from nI_add 1 i]))) dX4_judge_158
                        ·
                          have h26 := (nI_eq (a := (i + 0)) (b := z) (by omega) (by omega)).mp h26
                          refine gx_iconst (v := 0) C dX4_judge_151 (by decide) ?_
                          refine gx_goto (tgt := 158) C dX4_judge_152 (by decide) ?_
                          exact gx_iret C hr hlk rfl (fim_try hR hM23 (((hFt).f1 hF11 (by decide)).f1 hF23 (by decide)) (by first | (exfalso; omega) | (have q1 : frst (jdP K (N k)) z 0 = -1 := frst_no z 0 (fun b x1 x2 => hno b (by omega)); simp only [opJudge, ck, cz, q1, bey, mis, sta]; rw [if_pos (by grind), if_neg (by grind), if_neg (by grind)]; rfl))) dX4_judge_158
                      ·
                        exact absurd h22 (by decide)
                  ·
                    exact absurd h17 (by decide)
                ·
                  refine gx_iconst (v := 1) C dX4_judge_109 (by decide) ?_
                  refine gx_goto (tgt := 114) C dX4_judge_110 (by decide) ?_
                  refine gx_istore_n (lv2 := [(3, .int 1), (0, .ref (eA E 49)), (1, .int (nI k)), (2, .int (nI i))]) C dX4_judge_114 (by rfl) (by decide) rfl ?_
                  refine gx_iload_n C dX4_judge_115 (by rfl) (by rfl) ?_
                  refine gx_iload_n C dX4_judge_116 (by rfl) (by rfl) ?_
                  refine gx_if_eq (tgt := 124) C dX4_judge_117 (by decide) (fun h27 => ?_) (fun h27 => ?_)
                  ·
                    exact absurd h27 (by decide)
                  ·
                    clear h27
                    refine gx_iconst (v := 1) C dX4_judge_120 (by decide) ?_
                    refine gx_goto (tgt := 125) C dX4_judge_121 (by decide) ?_
                    refine gx_iadd C dX4_judge_125 ?_
                    refine gx_st (st' := [.int (nI (i + 1))]) (by rw [show (nI i) + 1 = nI (i + 1) from nI_add i 1]) ?_
                    refine gx_istore_n (lv2 := [(2, .int (nI (i + 1))), (3, .int 1), (0, .ref (eA E 49)), (1, .int (nI k))]) C dX4_judge_126 (by rfl) (by decide) rfl ?_
                    refine gx_goto (tgt := 72) C dX4_judge_127 (by decide) ?_
                    refine gx_sub [2, 3, 0, 1] (lv' := [(0, .ref (eA E 49)), (1, .int (nI k)), (2, .int (nI (i + 1))), (3, .int 1)]) rfl ?_
                    exact ih72 (i + 1) (by omega) (by omega) σ11 (by rw [mos, ← eX11]; exact hM11) hN14 ((hFt).f1 hF11 (by decide)) (lt_s hno (jd_f0 (by rw [mos, ← eX11]; assumption) (mos_keep hO (i + 1)).2))
        refine gx_sub [2, 3, 1, 0] (lv' := [(0, .ref (eA E 49)), (1, .int (nI k)), (2, .int 0), (3, .int 1)]) rfl ?_
        refine gx_lv (lv' := [(0, .ref (eA E 49)), (1, .int (nI k)), (2, .int (nI 0)), (3, .int 1)]) (by rfl) ?_
        exact loop72 (z + 1) 0 (by omega) (by omega) σ5 hM5 hW5 ((F3.rf).f1 hF5 (by decide)) (fun b h1 => absurd h1 (by omega))
      ·
        refine gx_aload_n C dX4_judge_50 (by rfl) (by rfl) ?_
        refine gx_ldc C kc_X4_67 dX4_judge_51 ?_
        refine gx_callVI (As := [.int (-1000005)]) (rest := []) C (c_X4_finds E σ (-1000005) 4 (by decide) (by decide)) z_X4_finds ck4 (by rfl) (by rfl) ml_X4_39 (by rfl) (Nat.le_of_ble_eq_true rfl) ⟨Nat.le_of_ble_eq_true rfl, Nat.le_of_ble_eq_true rfl⟩ dX4_judge_53 (fun r28 σ28 w28 => ?_)
        obtain ⟨u1, u2⟩ := w28; rw [u1, u2]; clear u1 u2
        exact gx_iret C hr hlk rfl (fim_fd hR (by decide) (by first | (simp only [opJudge, ck, hz3, bey, mis, sta] <;> grind) | (simp only [opJudge, bey, mis, sta] <;> grind))) dX4_judge_56
    ·
      refine gx_aload_n C dX4_judge_23 (by rfl) (by rfl) ?_
      refine gx_ldcw C kc_X4_301 dX4_judge_24 ?_
      refine gx_callVI (As := [.int (-1000006)]) (rest := []) C (c_X4_finds E σ (-1000006) 5 (by decide) (by decide)) z_X4_finds ck4 (by rfl) (by rfl) ml_X4_39 (by rfl) (Nat.le_of_ble_eq_true rfl) ⟨Nat.le_of_ble_eq_true rfl, Nat.le_of_ble_eq_true rfl⟩ dX4_judge_27 (fun r29 σ29 w29 => ?_)
      obtain ⟨u1, u2⟩ := w29; rw [u1, u2]; clear u1 u2
      exact gx_iret C hr hlk rfl (fim_fd hR (by decide) (by first | (simp only [opJudge, ck, hz3, bey, mis, sta] <;> grind) | (simp only [opJudge, bey, mis, sta] <;> grind))) dX4_judge_30
  ·
    have h2 := b2_z.mp h2
    refine gx_aload_n C dX4_judge_7 (by rfl) (by rfl) ?_
    refine gx_ldc C kc_X4_37 dX4_judge_8 ?_
    refine gx_callVI (As := [.int (-1000001)]) (rest := []) C (c_X4_finds E σ (-1000001) 0 (by decide) (by decide)) z_X4_finds ck4 (by rfl) (by rfl) ml_X4_39 (by rfl) (Nat.le_of_ble_eq_true rfl) ⟨Nat.le_of_ble_eq_true rfl, Nat.le_of_ble_eq_true rfl⟩ dX4_judge_10 (fun r30 σ30 w30 => ?_)
    obtain ⟨u1, u2⟩ := w30; rw [u1, u2]; clear u1 u2
    exact gx_iret C hr hlk rfl (fim_fd hR (by decide) (by first | (simp only [opJudge, ck, hz3, bey, mis, sta] <;> grind) | (simp only [opJudge, bey, mis, sta] <;> grind))) dX4_judge_13
