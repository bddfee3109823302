set_option maxHeartbeats 4000000 in
set_option maxRecDepth 100000 in
theorem c_X4_wantsIt (E : En) (σ : Mm) (K : Mm) (hM : vM σ 50 = K) (hO : Ok K) (t : Nat) (ht : t < nn K) (q : Nat) (hq : q < nn K) : CtI E yX4_wantsIt cX4_wantsIt 5 (some .boolean) 2 46 [.ref (eA E 49), .int (nI t), .int (nI q)] σ (fun rr σ2 => σ2 = σ ∧ rr = b2 (wn K t q = true)) := by
  obtain ⟨⟨hn, h12⟩, hpp, hlw, hsp, hz0⟩ := id hO
  have hq3 : K 2 t = -1 → ¬ K 2 q = K 2 t - 2 := fun e1 e2 => by
    have e3 := (hpp q hq).2.1.1
    rw [e2, e1] at e3
    revert e3
    decide
  refine CtI.of (by decide +kernel) (Nat.le_of_ble_eq_true rfl) (fun p e0 s m below meth c C hr hlk => ?_)
  refine gx_lv (lv' := [(0, .ref (eA E 49)), (1, .int (nI t)), (2, .int (nI q))]) rfl ?_
  refine gx_aload_n C dX4_wantsIt_0 (by rfl) (by rfl) ?_
  refine gx_iload_n C dX4_wantsIt_1 (by rfl) (by rfl) ?_
  refine gx_iconst (v := 5) C dX4_wantsIt_2 (by decide) ?_
  refine gx_callVI (As := [.int (nI t), .int 5]) (rest := []) C (c_X4_is E σ t (by omega) 5 (by omega)) z_X4_is ck4 (by rfl) (by rfl) ml_X4_51 (by rfl) (Nat.le_of_ble_eq_true rfl) ⟨Nat.le_of_ble_eq_true rfl, Nat.le_of_ble_eq_true rfl⟩ dX4_wantsIt_3 (fun r1 σ1 w1 => ?_)
  obtain ⟨u1, u2⟩ := w1; rw [u1, u2]; clear u1 u2
  refine gx_st (st' := [.int (K 6 t)]) (by rw [mp_6 hM (p := t) (by omega)]) ?_
  refine gx_iload_n C dX4_wantsIt_6 (by rfl) (by rfl) ?_
  refine gx_icmp_ne (tgt := 14) C dX4_wantsIt_7 (by decide) (fun h2 => ?_) (fun h2 => ?_)
  ·
    refine gx_iconst (v := 0) C dX4_wantsIt_14 (by decide) ?_
    refine gx_istore_n (lv2 := [(3, .int 0), (0, .ref (eA E 49)), (1, .int (nI t)), (2, .int (nI q))]) C dX4_wantsIt_15 (by rfl) (by decide) rfl ?_
    refine gx_iload_n C dX4_wantsIt_16 (by rfl) (by rfl) ?_
    refine gx_if_eq (tgt := 40) C dX4_wantsIt_17 (by decide) (fun h3 => ?_) (fun h3 => ?_)
    ·
      clear h3
      refine gx_iconst (v := 0) C dX4_wantsIt_40 (by decide) ?_
      refine gx_istore (lv2 := [(4, .int 0), (3, .int 0), (0, .ref (eA E 49)), (1, .int (nI t)), (2, .int (nI q))]) C dX4_wantsIt_41 (by decide) rfl ?_
      refine gx_aload_n C dX4_wantsIt_43 (by rfl) (by rfl) ?_
      refine gx_iload_n C dX4_wantsIt_44 (by rfl) (by rfl) ?_
      refine gx_iconst (v := 0) C dX4_wantsIt_45 (by decide) ?_
      refine gx_callVI (As := [.int (nI t), .int 0]) (rest := []) C (c_X4_is E σ t (by omega) 0 (by omega)) z_X4_is ck4 (by rfl) (by rfl) ml_X4_51 (by rfl) (Nat.le_of_ble_eq_true rfl) ⟨Nat.le_of_ble_eq_true rfl, Nat.le_of_ble_eq_true rfl⟩ dX4_wantsIt_46 (fun r4 σ4 w4 => ?_)
      obtain ⟨u1, u2⟩ := w4; rw [u1, u2]; clear u1 u2
      refine gx_st (st' := [.int (K 1 t)]) (by rw [mp_1 hM (p := t) (by omega)]) ?_
      rcases sw_split (K 1 t) (0) 5 6 (by decide) with h5 | h5
      ·
        refine gx_tabOut (tgt := 214) C dX4_wantsIt_49 h5 (by decide) ?_
        have qd5 : ¬ K 1 t = 0 ∧ ¬ K 1 t = 1 ∧ ¬ K 1 t = 2 ∧ ¬ K 1 t = 3 ∧ ¬ K 1 t = 4 ∧ ¬ K 1 t = 5 := by refine ⟨?_, ?_, ?_, ?_, ?_, ?_⟩ <;> (intro q9; rw [q9] at h5; revert h5; decide)
        refine gx_iconst (v := 0) C dX4_wantsIt_214 (by decide) ?_
        exact gx_iret C hr hlk (by first | rfl | exact nb_b2 _) ⟨rfl, by first | exact b2_t (by simp only [wn] at *; grind) | exact b2_f (by simp only [wn] at *; grind)⟩ dX4_wantsIt_215
      ·
        obtain ⟨j5, hj5, ej5⟩ := h5
        have hj5 := hj5
        match j5, hj5, ej5 with
        | 0, _, ej5 =>
          have ex5 : K 1 t = (0 : Int32) := ej5.trans (by decide)
          refine gx_tabIn (off := 39) (tgt := 88) C dX4_wantsIt_49 (by rw [ex5]; decide) (by rw [ex5]; decide) (by rw [ex5]; decide) (by decide) ?_
          refine gx_iload_n C dX4_wantsIt_88 (by rfl) (by rfl) ?_
          exact gx_iret C hr hlk (by first | rfl | exact nb_b2 _) ⟨rfl, by first | exact b2_t (by simp only [wn] at *; grind) | exact b2_f (by simp only [wn] at *; grind)⟩ dX4_wantsIt_89
        | 1, _, ej5 =>
          have ex5 : K 1 t = (1 : Int32) := ej5.trans (by decide)
          refine gx_tabIn (off := 165) (tgt := 214) C dX4_wantsIt_49 (by rw [ex5]; decide) (by rw [ex5]; decide) (by rw [ex5]; decide) (by decide) ?_
          refine gx_iconst (v := 0) C dX4_wantsIt_214 (by decide) ?_
          exact gx_iret C hr hlk (by first | rfl | exact nb_b2 _) ⟨rfl, by first | exact b2_t (by simp only [wn] at *; grind) | exact b2_f (by simp only [wn] at *; grind)⟩ dX4_wantsIt_215
        | 2, _, ej5 =>
          have ex5 : K 1 t = (2 : Int32) := ej5.trans (by decide)
          refine gx_tabIn (off := 41) (tgt := 90) C dX4_wantsIt_49 (by rw [ex5]; decide) (by rw [ex5]; decide) (by rw [ex5]; decide) (by decide) ?_
          refine gx_iload C dX4_wantsIt_90 (by rfl) ?_
          exact gx_iret C hr hlk (by first | rfl | exact nb_b2 _) ⟨rfl, by first | exact b2_t (by simp only [wn] at *; grind) | exact b2_f (by simp only [wn] at *; grind)⟩ dX4_wantsIt_92
        | 3, _, ej5 =>
          have ex5 : K 1 t = (3 : Int32) := ej5.trans (by decide)
          refine gx_tabIn (off := 44) (tgt := 93) C dX4_wantsIt_49 (by rw [ex5]; decide) (by rw [ex5]; decide) (by rw [ex5]; decide) (by decide) ?_
          refine gx_iload C dX4_wantsIt_93 (by rfl) ?_
          refine gx_if_ne (tgt := 125) C dX4_wantsIt_95 (by decide) (fun h6 => ?_) (fun h6 => ?_)
          ·
            exact absurd h6 (by decide)
          ·
            clear h6
            refine gx_aload_n C dX4_wantsIt_98 (by rfl) (by rfl) ?_
            refine gx_iload_n C dX4_wantsIt_99 (by rfl) (by rfl) ?_
            refine gx_callVI (As := [.int (nI q)]) (rest := []) C (c_X4_isOut E σ K hM hO q (by omega)) z_X4_isOut ck4 (by rfl) (by rfl) ml_X4_119 (by rfl) (Nat.le_of_ble_eq_true rfl) ⟨Nat.le_of_ble_eq_true rfl, Nat.le_of_ble_eq_true rfl⟩ dX4_wantsIt_100 (fun r7 σ7 w7 => ?_)
            obtain ⟨u1, u2⟩ := w7; rw [u1, u2]; clear u1 u2
            refine gx_if_ne (tgt := 129) C dX4_wantsIt_103 (by decide) (fun h8 => ?_) (fun h8 => ?_)
            ·
              have h8 := b2_nz.mp h8
              refine gx_iconst (v := 0) C dX4_wantsIt_129 (by decide) ?_
              exact gx_iret C hr hlk (by first | rfl | exact nb_b2 _) ⟨rfl, by first | exact b2_t (by simp only [wn] at *; grind) | exact b2_f (by simp only [wn] at *; grind)⟩ dX4_wantsIt_130
            ·
              have h8 := b2_z.mp h8
              refine gx_aload_n C dX4_wantsIt_106 (by rfl) (by rfl) ?_
              refine gx_aload_n C dX4_wantsIt_107 (by rfl) (by rfl) ?_
              refine gx_aload_n C dX4_wantsIt_108 (by rfl) (by rfl) ?_
              refine gx_iload_n C dX4_wantsIt_109 (by rfl) (by rfl) ?_
              refine gx_iconst (v := 1) C dX4_wantsIt_110 (by decide) ?_
              refine gx_callVI (As := [.int (nI q), .int 1]) (rest := [.ref (eA E 49), .ref (eA E 49)]) C (c_X4_is E σ q (by omega) 1 (by omega)) z_X4_is ck4 (by rfl) (by rfl) ml_X4_51 (by rfl) (Nat.le_of_ble_eq_true rfl) ⟨Nat.le_of_ble_eq_true rfl, Nat.le_of_ble_eq_true rfl⟩ dX4_wantsIt_111 (fun r9 σ9 w9 => ?_)
              obtain ⟨u1, u2⟩ := w9; rw [u1, u2]; clear u1 u2
              refine gx_st (st' := [.int (K 2 q), .ref (eA E 49), .ref (eA E 49)]) (by rw [mp_2 hM (p := q) (by omega)]) ?_
              refine gx_callVI (As := [.int (K 2 q)]) (rest := [.ref (eA E 49)]) C (c_X4_inRank E σ K hM hO (K 2 q)) z_X4_inRank ck4 (by rfl) (by rfl) ml_X4_55 (by rfl) (Nat.le_of_ble_eq_true rfl) ⟨Nat.le_of_ble_eq_true rfl, Nat.le_of_ble_eq_true rfl⟩ dX4_wantsIt_114 (fun r10 σ10 w10 => ?_)
              obtain ⟨u1, u2⟩ := w10; rw [u1, u2]; clear u1 u2
              refine gx_iconst (v := 4) C dX4_wantsIt_117 (by decide) ?_
              refine gx_callVI (As := [.int (bset (nn K) (inP K (K 2 q))), .int 4]) (rest := []) C (c_X4_greatest E σ K hM hO (inP K (K 2 q)) 4 (by decide)) z_X4_greatest ck4 (by rfl) (by rfl) ml_X4_129 (by rfl) (Nat.le_of_ble_eq_true rfl) ⟨Nat.le_of_ble_eq_true rfl, Nat.le_of_ble_eq_true rfl⟩ dX4_wantsIt_118 (fun r11 σ11 w11 => ?_)
              obtain ⟨u1, u2⟩ := w11; rw [u1, u2]; clear u1 u2
              refine gx_iload_n C dX4_wantsIt_121 (by rfl) (by rfl) ?_
              refine gx_icmp_ne (tgt := 129) C dX4_wantsIt_122 (by decide) (fun h14 => ?_) (fun h14 => ?_)
              ·
                refine gx_iconst (v := 0) C dX4_wantsIt_129 (by decide) ?_
                exact gx_iret C hr hlk (by first | rfl | exact nb_b2 _) ⟨rfl, by first | exact b2_t (by simp only [wn] at *; grind) | exact b2_f (by simp only [wn] at *; grind)⟩ dX4_wantsIt_130
              ·
                refine gx_iconst (v := 1) C dX4_wantsIt_125 (by decide) ?_
                refine gx_goto (tgt := 130) C dX4_wantsIt_126 (by decide) ?_
                exact gx_iret C hr hlk (by first | rfl | exact nb_b2 _) ⟨rfl, by first | exact b2_t (by simp only [wn] at *; grind) | exact b2_f (by simp only [wn] at *; grind)⟩ dX4_wantsIt_130
        | 4, _, ej5 =>
          have ex5 : K 1 t = (4 : Int32) := ej5.trans (by decide)
          refine gx_tabIn (off := 82) (tgt := 131) C dX4_wantsIt_49 (by rw [ex5]; decide) (by rw [ex5]; decide) (by rw [ex5]; decide) (by decide) ?_
          refine gx_iload_n C dX4_wantsIt_131 (by rfl) (by rfl) ?_
          refine gx_if_eq (tgt := 154) C dX4_wantsIt_132 (by decide) (fun h15 => ?_) (fun h15 => ?_)
          ·
            clear h15
            refine gx_iconst (v := 0) C dX4_wantsIt_154 (by decide) ?_
            exact gx_iret C hr hlk (by first | rfl | exact nb_b2 _) ⟨rfl, by first | exact b2_t (by simp only [wn] at *; grind) | exact b2_f (by simp only [wn] at *; grind)⟩ dX4_wantsIt_155
          ·
            exact absurd h15 (by decide)
        | 5, _, ej5 =>
          have ex5 : K 1 t = (5 : Int32) := ej5.trans (by decide)
          refine gx_tabIn (off := 107) (tgt := 156) C dX4_wantsIt_49 (by rw [ex5]; decide) (by rw [ex5]; decide) (by rw [ex5]; decide) (by decide) ?_
          refine gx_iload_n C dX4_wantsIt_156 (by rfl) (by rfl) ?_
          refine gx_if_ne (tgt := 208) C dX4_wantsIt_157 (by decide) (fun h16 => ?_) (fun h16 => ?_)
          ·
            exact absurd h16 (by decide)
          ·
            clear h16
            refine gx_aload_n C dX4_wantsIt_160 (by rfl) (by rfl) ?_
            refine gx_iload_n C dX4_wantsIt_161 (by rfl) (by rfl) ?_
            refine gx_callVI (As := [.int (nI q)]) (rest := []) C (c_X4_isOut E σ K hM hO q (by omega)) z_X4_isOut ck4 (by rfl) (by rfl) ml_X4_119 (by rfl) (Nat.le_of_ble_eq_true rfl) ⟨Nat.le_of_ble_eq_true rfl, Nat.le_of_ble_eq_true rfl⟩ dX4_wantsIt_162 (fun r17 σ17 w17 => ?_)
            obtain ⟨u1, u2⟩ := w17; rw [u1, u2]; clear u1 u2
            refine gx_if_ne (tgt := 212) C dX4_wantsIt_165 (by decide) (fun h18 => ?_) (fun h18 => ?_)
            ·
              have h18 := b2_nz.mp h18
              refine gx_iconst (v := 0) C dX4_wantsIt_212 (by decide) ?_
              exact gx_iret C hr hlk (by first | rfl | exact nb_b2 _) ⟨rfl, by first | exact b2_t (by simp only [wn] at *; grind) | exact b2_f (by simp only [wn] at *; grind)⟩ dX4_wantsIt_213
            ·
              have h18 := b2_z.mp h18
              refine gx_aload_n C dX4_wantsIt_168 (by rfl) (by rfl) ?_
              refine gx_iload_n C dX4_wantsIt_169 (by rfl) (by rfl) ?_
              refine gx_callVI (As := [.int (nI t)]) (rest := []) C (c_X4_isOut E σ K hM hO t (by omega)) z_X4_isOut ck4 (by rfl) (by rfl) ml_X4_119 (by rfl) (Nat.le_of_ble_eq_true rfl) ⟨Nat.le_of_ble_eq_true rfl, Nat.le_of_ble_eq_true rfl⟩ dX4_wantsIt_170 (fun r19 σ19 w19 => ?_)
              obtain ⟨u1, u2⟩ := w19; rw [u1, u2]; clear u1 u2
              refine gx_if_ne (tgt := 212) C dX4_wantsIt_173 (by decide) (fun h20 => ?_) (fun h20 => ?_)
              ·
                have h20 := b2_nz.mp h20
                refine gx_iconst (v := 0) C dX4_wantsIt_212 (by decide) ?_
                exact gx_iret C hr hlk (by first | rfl | exact nb_b2 _) ⟨rfl, by first | exact b2_t (by simp only [wn] at *; grind) | exact b2_f (by simp only [wn] at *; grind)⟩ dX4_wantsIt_213
              ·
                have h20 := b2_z.mp h20
                refine gx_aload_n C dX4_wantsIt_176 (by rfl) (by rfl) ?_
                refine gx_iload_n C dX4_wantsIt_177 (by rfl) (by rfl) ?_
                refine gx_iconst (v := 1) C dX4_wantsIt_178 (by decide) ?_
                refine gx_callVI (As := [.int (nI q), .int 1]) (rest := []) C (c_X4_is E σ q (by omega) 1 (by omega)) z_X4_is ck4 (by rfl) (by rfl) ml_X4_51 (by rfl) (Nat.le_of_ble_eq_true rfl) ⟨Nat.le_of_ble_eq_true rfl, Nat.le_of_ble_eq_true rfl⟩ dX4_wantsIt_179 (fun r21 σ21 w21 => ?_)
                obtain ⟨u1, u2⟩ := w21; rw [u1, u2]; clear u1 u2
                refine gx_st (st' := [.int (K 2 q)]) (by rw [mp_2 hM (p := q) (by omega)]) ?_
                refine gx_aload_n C dX4_wantsIt_182 (by rfl) (by rfl) ?_
                refine gx_iload_n C dX4_wantsIt_183 (by rfl) (by rfl) ?_
                refine gx_iconst (v := 1) C dX4_wantsIt_184 (by decide) ?_
                refine gx_callVI (As := [.int (nI t), .int 1]) (rest := [.int (K 2 q)]) C (c_X4_is E σ t (by omega) 1 (by omega)) z_X4_is ck4 (by rfl) (by rfl) ml_X4_51 (by rfl) (Nat.le_of_ble_eq_true rfl) ⟨Nat.le_of_ble_eq_true rfl, Nat.le_of_ble_eq_true rfl⟩ dX4_wantsIt_185 (fun r22 σ22 w22 => ?_)
                obtain ⟨u1, u2⟩ := w22; rw [u1, u2]; clear u1 u2
                refine gx_st (st' := [.int (K 2 t), .int (K 2 q)]) (by rw [mp_2 hM (p := t) (by omega)]) ?_
                refine gx_iconst (v := 2) C dX4_wantsIt_188 (by decide) ?_
                refine gx_isub C dX4_wantsIt_189 ?_
                refine gx_icmp_ne (tgt := 212) C dX4_wantsIt_190 (by decide) (fun h23 => ?_) (fun h23 => ?_)
                ·
                  refine gx_iconst (v := 0) C dX4_wantsIt_212 (by decide) ?_
                  exact gx_iret C hr hlk (by first | rfl | exact nb_b2 _) ⟨rfl, by first | exact b2_t (by simp only [wn] at *; grind) | exact b2_f (by simp only [wn] at *; grind)⟩ dX4_wantsIt_213
                ·
                  refine gx_aload_n C dX4_wantsIt_193 (by rfl) (by rfl) ?_
                  refine gx_iload_n C dX4_wantsIt_194 (by rfl) (by rfl) ?_
                  refine gx_iconst (v := 2) C dX4_wantsIt_195 (by decide) ?_
                  refine gx_callVI (As := [.int (nI q), .int 2]) (rest := []) C (c_X4_is E σ q (by omega) 2 (by omega)) z_X4_is ck4 (by rfl) (by rfl) ml_X4_51 (by rfl) (Nat.le_of_ble_eq_true rfl) ⟨Nat.le_of_ble_eq_true rfl, Nat.le_of_ble_eq_true rfl⟩ dX4_wantsIt_196 (fun r24 σ24 w24 => ?_)
                  obtain ⟨u1, u2⟩ := w24; rw [u1, u2]; clear u1 u2
                  refine gx_st (st' := [.int (K 3 q)]) (by rw [mp_3 hM (p := q) (by omega)]) ?_
                  refine gx_aload_n C dX4_wantsIt_199 (by rfl) (by rfl) ?_
                  refine gx_iload_n C dX4_wantsIt_200 (by rfl) (by rfl) ?_
                  refine gx_iconst (v := 2) C dX4_wantsIt_201 (by decide) ?_
                  refine gx_callVI (As := [.int (nI t), .int 2]) (rest := [.int (K 3 q)]) C (c_X4_is E σ t (by omega) 2 (by omega)) z_X4_is ck4 (by rfl) (by rfl) ml_X4_51 (by rfl) (Nat.le_of_ble_eq_true rfl) ⟨Nat.le_of_ble_eq_true rfl, Nat.le_of_ble_eq_true rfl⟩ dX4_wantsIt_202 (fun r26 σ26 w26 => ?_)
                  obtain ⟨u1, u2⟩ := w26; rw [u1, u2]; clear u1 u2
                  refine gx_st (st' := [.int (K 3 t), .int (K 3 q)]) (by rw [mp_3 hM (p := t) (by omega)]) ?_
                  refine gx_icmp_le (tgt := 212) C dX4_wantsIt_205 (by decide) (fun h27 => ?_) (fun h27 => ?_)
                  ·
                    refine gx_iconst (v := 0) C dX4_wantsIt_212 (by decide) ?_
                    exact gx_iret C hr hlk (by first | rfl | exact nb_b2 _) ⟨rfl, by first | exact b2_t (by simp only [wn] at *; grind) | exact b2_f (by simp only [wn] at *; grind)⟩ dX4_wantsIt_213
                  ·
                    refine gx_iconst (v := 1) C dX4_wantsIt_208 (by decide) ?_
                    refine gx_goto (tgt := 213) C dX4_wantsIt_209 (by decide) ?_
                    exact gx_iret C hr hlk (by first | rfl | exact nb_b2 _) ⟨rfl, by first | exact b2_t (by simp only [wn] at *; grind) | exact b2_f (by simp only [wn] at *; grind)⟩ dX4_wantsIt_213
        | j + 6, hj, _ => exact absurd hj (by omega)
    ·
      exact absurd h3 (by decide)
  ·
    refine gx_iconst (v := 1) C dX4_wantsIt_10 (by decide) ?_
    refine gx_goto (tgt := 15) C dX4_wantsIt_11 (by decide) ?_
    refine gx_istore_n (lv2 := [(3, .int 1), (0, .ref (eA E 49)), (1, .int (nI t)), (2, .int (nI q))]) C dX4_wantsIt_15 (by rfl) (by decide) rfl ?_
    refine gx_iload_n C dX4_wantsIt_16 (by rfl) (by rfl) ?_
    refine gx_if_eq (tgt := 40) C dX4_wantsIt_17 (by decide) (fun h28 => ?_) (fun h28 => ?_)
    ·
      exact absurd h28 (by decide)
    ·
      clear h28
      refine gx_aload_n C dX4_wantsIt_20 (by rfl) (by rfl) ?_
      refine gx_iload_n C dX4_wantsIt_21 (by rfl) (by rfl) ?_
      refine gx_bipush (v := 6) C dX4_wantsIt_22 (by decide) ?_
      refine gx_callVI (As := [.int (nI t), .int 6]) (rest := []) C (c_X4_is E σ t (by omega) 6 (by omega)) z_X4_is ck4 (by rfl) (by rfl) ml_X4_51 (by rfl) (Nat.le_of_ble_eq_true rfl) ⟨Nat.le_of_ble_eq_true rfl, Nat.le_of_ble_eq_true rfl⟩ dX4_wantsIt_24 (fun r29 σ29 w29 => ?_)
      obtain ⟨u1, u2⟩ := w29; rw [u1, u2]; clear u1 u2
      refine gx_st (st' := [.int (K 7 t)]) (by rw [mp_7 hM (p := t) (by omega)]) ?_
      refine gx_aload_n C dX4_wantsIt_27 (by rfl) (by rfl) ?_
      refine gx_getr (j := 50) (k := 0) C ck4 (by rfl) (by rfl) (by decide) fl_X4_9 dX4_wantsIt_28 ?_
      refine gx_iconst (v := 3) C dX4_wantsIt_31 (by decide) ?_
      refine gx_ialdN (k := 3) C (by rfl) (by rfl) (by decide) (by decide) dX4_wantsIt_32 ?_
      refine gx_st (st' := [.int (K 9 2), .int (K 7 t)]) (by rw [mp_9_2 hM]) ?_
      refine gx_icmp_ge (tgt := 40) C dX4_wantsIt_33 (by decide) (fun h30 => ?_) (fun h30 => ?_)
      ·
        refine gx_iconst (v := 0) C dX4_wantsIt_40 (by decide) ?_
        refine gx_istore (lv2 := [(4, .int 0), (3, .int 1), (0, .ref (eA E 49)), (1, .int (nI t)), (2, .int (nI q))]) C dX4_wantsIt_41 (by decide) rfl ?_
        refine gx_aload_n C dX4_wantsIt_43 (by rfl) (by rfl) ?_
        refine gx_iload_n C dX4_wantsIt_44 (by rfl) (by rfl) ?_
        refine gx_iconst (v := 0) C dX4_wantsIt_45 (by decide) ?_
        refine gx_callVI (As := [.int (nI t), .int 0]) (rest := []) C (c_X4_is E σ t (by omega) 0 (by omega)) z_X4_is ck4 (by rfl) (by rfl) ml_X4_51 (by rfl) (Nat.le_of_ble_eq_true rfl) ⟨Nat.le_of_ble_eq_true rfl, Nat.le_of_ble_eq_true rfl⟩ dX4_wantsIt_46 (fun r31 σ31 w31 => ?_)
        obtain ⟨u1, u2⟩ := w31; rw [u1, u2]; clear u1 u2
        refine gx_st (st' := [.int (K 1 t)]) (by rw [mp_1 hM (p := t) (by omega)]) ?_
        rcases sw_split (K 1 t) (0) 5 6 (by decide) with h32 | h32
        ·
          refine gx_tabOut (tgt := 214) C dX4_wantsIt_49 h32 (by decide) ?_
          have qd32 : ¬ K 1 t = 0 ∧ ¬ K 1 t = 1 ∧ ¬ K 1 t = 2 ∧ ¬ K 1 t = 3 ∧ ¬ K 1 t = 4 ∧ ¬ K 1 t = 5 := by refine ⟨?_, ?_, ?_, ?_, ?_, ?_⟩ <;> (intro q9; rw [q9] at h32; revert h32; decide)
          refine gx_iconst (v := 0) C dX4_wantsIt_214 (by decide) ?_
          exact gx_iret C hr hlk (by first | rfl | exact nb_b2 _) ⟨rfl, by first | exact b2_t (by simp only [wn] at *; grind) | exact b2_f (by simp only [wn] at *; grind)⟩ dX4_wantsIt_215
        ·
          obtain ⟨j32, hj32, ej32⟩ := h32
          have hj32 := hj32
          match j32, hj32, ej32 with
          | 0, _, ej32 =>
            have ex32 : K 1 t = (0 : Int32) := ej32.trans (by decide)
            refine gx_tabIn (off := 39) (tgt := 88) C dX4_wantsIt_49 (by rw [ex32]; decide) (by rw [ex32]; decide) (by rw [ex32]; decide) (by decide) ?_
            refine gx_iload_n C dX4_wantsIt_88 (by rfl) (by rfl) ?_
            exact gx_iret C hr hlk (by first | rfl | exact nb_b2 _) ⟨rfl, by first | exact b2_t (by simp only [wn] at *; grind) | exact b2_f (by simp only [wn] at *; grind)⟩ dX4_wantsIt_89
          | 1, _, ej32 =>
            have ex32 : K 1 t = (1 : Int32) := ej32.trans (by decide)
            refine gx_tabIn (off := 165) (tgt := 214) C dX4_wantsIt_49 (by rw [ex32]; decide) (by rw [ex32]; decide) (by rw [ex32]; decide) (by decide) ?_
            refine gx_iconst (v := 0) C dX4_wantsIt_214 (by decide) ?_
            exact gx_iret C hr hlk (by first | rfl | exact nb_b2 _) ⟨rfl, by first | exact b2_t (by simp only [wn] at *; grind) | exact b2_f (by simp only [wn] at *; grind)⟩ dX4_wantsIt_215
          | 2, _, ej32 =>
            have ex32 : K 1 t = (2 : Int32) := ej32.trans (by decide)
            refine gx_tabIn (off := 41) (tgt := 90) C dX4_wantsIt_49 (by rw [ex32]; decide) (by rw [ex32]; decide) (by rw [ex32]; decide) (by decide) ?_
            refine gx_iload C dX4_wantsIt_90 (by rfl) ?_
            exact gx_iret C hr hlk (by first | rfl | exact nb_b2 _) ⟨rfl, by first | exact b2_t (by simp only [wn] at *; grind) | exact b2_f (by simp only [wn] at *; grind)⟩ dX4_wantsIt_92
          | 3, _, ej32 =>
            have ex32 : K 1 t = (3 : Int32) := ej32.trans (by decide)
            refine gx_tabIn (off := 44) (tgt := 93) C dX4_wantsIt_49 (by rw [ex32]; decide) (by rw [ex32]; decide) (by rw [ex32]; decide) (by decide) ?_
            refine gx_iload C dX4_wantsIt_93 (by rfl) ?_
            refine gx_if_ne (tgt := 125) C dX4_wantsIt_95 (by decide) (fun h33 => ?_) (fun h33 => ?_)
            ·
              exact absurd h33 (by decide)
            ·
              clear h33
              refine gx_aload_n C dX4_wantsIt_98 (by rfl) (by rfl) ?_
              refine gx_iload_n C dX4_wantsIt_99 (by rfl) (by rfl) ?_
              refine gx_callVI (As := [.int (nI q)]) (rest := []) C (c_X4_isOut E σ K hM hO q (by omega)) z_X4_isOut ck4 (by rfl) (by rfl) ml_X4_119 (by rfl) (Nat.le_of_ble_eq_true rfl) ⟨Nat.le_of_ble_eq_true rfl, Nat.le_of_ble_eq_true rfl⟩ dX4_wantsIt_100 (fun r34 σ34 w34 => ?_)
              obtain ⟨u1, u2⟩ := w34; rw [u1, u2]; clear u1 u2
              refine gx_if_ne (tgt := 129) C dX4_wantsIt_103 (by decide) (fun h35 => ?_) (fun h35 => ?_)
              ·
                have h35 := b2_nz.mp h35
                refine gx_iconst (v := 0) C dX4_wantsIt_129 (by decide) ?_
                exact gx_iret C hr hlk (by first | rfl | exact nb_b2 _) ⟨rfl, by first | exact b2_t (by simp only [wn] at *; grind) | exact b2_f (by simp only [wn] at *; grind)⟩ dX4_wantsIt_130
              ·
                have h35 := b2_z.mp h35
                refine gx_aload_n C dX4_wantsIt_106 (by rfl) (by rfl) ?_
                refine gx_aload_n C dX4_wantsIt_107 (by rfl) (by rfl) ?_
                refine gx_aload_n C dX4_wantsIt_108 (by rfl) (by rfl) ?_
                refine gx_iload_n C dX4_wantsIt_109 (by rfl) (by rfl) ?_
                refine gx_iconst (v := 1) C dX4_wantsIt_110 (by decide) ?_
                refine gx_callVI (As := [.int (nI q), .int 1]) (rest := [.ref (eA E 49), .ref (eA E 49)]) C (c_X4_is E σ q (by omega) 1 (by omega)) z_X4_is ck4 (by rfl) (by rfl) ml_X4_51 (by rfl) (Nat.le_of_ble_eq_true rfl) ⟨Nat.le_of_ble_eq_true rfl, Nat.le_of_ble_eq_true rfl⟩ dX4_wantsIt_111 (fun r36 σ36 w36 => ?_)
                obtain ⟨u1, u2⟩ := w36; rw [u1, u2]; clear u1 u2
                refine gx_st (st' := [.int (K 2 q), .ref (eA E 49), .ref (eA E 49)]) (by rw [mp_2 hM (p := q) (by omega)]) ?_
                refine gx_callVI (As := [.int (K 2 q)]) (rest := [.ref (eA E 49)]) C (c_X4_inRank E σ K hM hO (K 2 q)) z_X4_inRank ck4 (by rfl) (by rfl) ml_X4_55 (by rfl) (Nat.le_of_ble_eq_true rfl) ⟨Nat.le_of_ble_eq_true rfl, Nat.le_of_ble_eq_true rfl⟩ dX4_wantsIt_114 (fun r38 σ38 w38 => ?_)
                obtain ⟨u1, u2⟩ := w38; rw [u1, u2]; clear u1 u2
                refine gx_iconst (v := 4) C dX4_wantsIt_117 (by decide) ?_
                refine gx_callVI (As := [.int (bset (nn K) (inP K (K 2 q))), .int 4]) (rest := []) C (c_X4_greatest E σ K hM hO (inP K (K 2 q)) 4 (by decide)) z_X4_greatest ck4 (by rfl) (by rfl) ml_X4_129 (by rfl) (Nat.le_of_ble_eq_true rfl) ⟨Nat.le_of_ble_eq_true rfl, Nat.le_of_ble_eq_true rfl⟩ dX4_wantsIt_118 (fun r39 σ39 w39 => ?_)
                obtain ⟨u1, u2⟩ := w39; rw [u1, u2]; clear u1 u2
                refine gx_iload_n C dX4_wantsIt_121 (by rfl) (by rfl) ?_
                refine gx_icmp_ne (tgt := 129) C dX4_wantsIt_122 (by decide) (fun h40 => ?_) (fun h40 => ?_)
                ·
                  refine gx_iconst (v := 0) C dX4_wantsIt_129 (by decide) ?_
                  exact gx_iret C hr hlk (by first | rfl | exact nb_b2 _) ⟨rfl, by first | exact b2_t (by simp only [wn] at *; grind) | exact b2_f (by simp only [wn] at *; grind)⟩ dX4_wantsIt_130
                ·
                  refine gx_iconst (v := 1) C dX4_wantsIt_125 (by decide) ?_
                  refine gx_goto (tgt := 130) C dX4_wantsIt_126 (by decide) ?_
                  exact gx_iret C hr hlk (by first | rfl | exact nb_b2 _) ⟨rfl, by first | exact b2_t (by simp only [wn] at *; grind) | exact b2_f (by simp only [wn] at *; grind)⟩ dX4_wantsIt_130
          | 4, _, ej32 =>
            have ex32 : K 1 t = (4 : Int32) := ej32.trans (by decide)
            refine gx_tabIn (off := 82) (tgt := 131) C dX4_wantsIt_49 (by rw [ex32]; decide) (by rw [ex32]; decide) (by rw [ex32]; decide) (by decide) ?_
            refine gx_iload_n C dX4_wantsIt_131 (by rfl) (by rfl) ?_
            refine gx_if_eq (tgt := 154) C dX4_wantsIt_132 (by decide) (fun h41 => ?_) (fun h41 => ?_)
            ·
              exact absurd h41 (by decide)
            ·
              clear h41
              refine gx_aload_n C dX4_wantsIt_135 (by rfl) (by rfl) ?_
              refine gx_iload_n C dX4_wantsIt_136 (by rfl) (by rfl) ?_
              refine gx_iconst (v := 3) C dX4_wantsIt_137 (by decide) ?_
              refine gx_callVI (As := [.int (nI q), .int 3]) (rest := []) C (c_X4_is E σ q (by omega) 3 (by omega)) z_X4_is ck4 (by rfl) (by rfl) ml_X4_51 (by rfl) (Nat.le_of_ble_eq_true rfl) ⟨Nat.le_of_ble_eq_true rfl, Nat.le_of_ble_eq_true rfl⟩ dX4_wantsIt_138 (fun r42 σ42 w42 => ?_)
              obtain ⟨u1, u2⟩ := w42; rw [u1, u2]; clear u1 u2
              refine gx_st (st' := [.int (K 4 q)]) (by rw [mp_4 hM (p := q) (by omega)]) ?_
              refine gx_aload_n C dX4_wantsIt_141 (by rfl) (by rfl) ?_
              refine gx_iload_n C dX4_wantsIt_142 (by rfl) (by rfl) ?_
              refine gx_iconst (v := 3) C dX4_wantsIt_143 (by decide) ?_
              refine gx_callVI (As := [.int (nI t), .int 3]) (rest := [.int (K 4 q)]) C (c_X4_is E σ t (by omega) 3 (by omega)) z_X4_is ck4 (by rfl) (by rfl) ml_X4_51 (by rfl) (Nat.le_of_ble_eq_true rfl) ⟨Nat.le_of_ble_eq_true rfl, Nat.le_of_ble_eq_true rfl⟩ dX4_wantsIt_144 (fun r43 σ43 w43 => ?_)
              obtain ⟨u1, u2⟩ := w43; rw [u1, u2]; clear u1 u2
              refine gx_st (st' := [.int (K 4 t), .int (K 4 q)]) (by rw [mp_4 hM (p := t) (by omega)]) ?_
              refine gx_icmp_eq (tgt := 154) C dX4_wantsIt_147 (by decide) (fun h44 => ?_) (fun h44 => ?_)
              ·
                refine gx_iconst (v := 0) C dX4_wantsIt_154 (by decide) ?_
                exact gx_iret C hr hlk (by first | rfl | exact nb_b2 _) ⟨rfl, by first | exact b2_t (by simp only [wn] at *; grind) | exact b2_f (by simp only [wn] at *; grind)⟩ dX4_wantsIt_155
              ·
                refine gx_iconst (v := 1) C dX4_wantsIt_150 (by decide) ?_
                refine gx_goto (tgt := 155) C dX4_wantsIt_151 (by decide) ?_
                exact gx_iret C hr hlk (by first | rfl | exact nb_b2 _) ⟨rfl, by first | exact b2_t (by simp only [wn] at *; grind) | exact b2_f (by simp only [wn] at *; grind)⟩ dX4_wantsIt_155
          | 5, _, ej32 =>
            have ex32 : K 1 t = (5 : Int32) := ej32.trans (by decide)
            refine gx_tabIn (off := 107) (tgt := 156) C dX4_wantsIt_49 (by rw [ex32]; decide) (by rw [ex32]; decide) (by rw [ex32]; decide) (by decide) ?_
            refine gx_iload_n C dX4_wantsIt_156 (by rfl) (by rfl) ?_
            refine gx_if_ne (tgt := 208) C dX4_wantsIt_157 (by decide) (fun h45 => ?_) (fun h45 => ?_)
            ·
              clear h45
              refine gx_iconst (v := 1) C dX4_wantsIt_208 (by decide) ?_
              refine gx_goto (tgt := 213) C dX4_wantsIt_209 (by decide) ?_
              exact gx_iret C hr hlk (by first | rfl | exact nb_b2 _) ⟨rfl, by first | exact b2_t (by simp only [wn] at *; grind) | exact b2_f (by simp only [wn] at *; grind)⟩ dX4_wantsIt_213
            ·
              exact absurd h45 (by decide)
          | j + 6, hj, _ => exact absurd hj (by omega)
      ·
        refine gx_iconst (v := 1) C dX4_wantsIt_36 (by decide) ?_
        refine gx_goto (tgt := 41) C dX4_wantsIt_37 (by decide) ?_
        refine gx_istore (lv2 := [(4, .int 1), (3, .int 1), (0, .ref (eA E 49)), (1, .int (nI t)), (2, .int (nI q))]) C dX4_wantsIt_41 (by decide) rfl ?_
        refine gx_aload_n C dX4_wantsIt_43 (by rfl) (by rfl) ?_
        refine gx_iload_n C dX4_wantsIt_44 (by rfl) (by rfl) ?_
        refine gx_iconst (v := 0) C dX4_wantsIt_45 (by decide) ?_
        refine gx_callVI (As := [.int (nI t), .int 0]) (rest := []) C (c_X4_is E σ t (by omega) 0 (by omega)) z_X4_is ck4 (by rfl) (by rfl) ml_X4_51 (by rfl) (Nat.le_of_ble_eq_true rfl) ⟨Nat.le_of_ble_eq_true rfl, Nat.le_of_ble_eq_true rfl⟩ dX4_wantsIt_46 (fun r46 σ46 w46 => ?_)
        obtain ⟨u1, u2⟩ := w46; rw [u1, u2]; clear u1 u2
        refine gx_st (st' := [.int (K 1 t)]) (by rw [mp_1 hM (p := t) (by omega)]) ?_
        rcases sw_split (K 1 t) (0) 5 6 (by decide) with h47 | h47
        ·
          refine gx_tabOut (tgt := 214) C dX4_wantsIt_49 h47 (by decide) ?_
          have qd47 : ¬ K 1 t = 0 ∧ ¬ K 1 t = 1 ∧ ¬ K 1 t = 2 ∧ ¬ K 1 t = 3 ∧ ¬ K 1 t = 4 ∧ ¬ K 1 t = 5 := by refine ⟨?_, ?_, ?_, ?_, ?_, ?_⟩ <;> (intro q9; rw [q9] at h47; revert h47; decide)
          refine gx_iconst (v := 0) C dX4_wantsIt_214 (by decide) ?_
          exact gx_iret C hr hlk (by first | rfl | exact nb_b2 _) ⟨rfl, by first | exact b2_t (by simp only [wn] at *; grind) | exact b2_f (by simp only [wn] at *; grind)⟩ dX4_wantsIt_215
        ·
          obtain ⟨j47, hj47, ej47⟩ := h47
          have hj47 := hj47
          match j47, hj47, ej47 with
          | 0, _, ej47 =>
            have ex47 : K 1 t = (0 : Int32) := ej47.trans (by decide)
            refine gx_tabIn (off := 39) (tgt := 88) C dX4_wantsIt_49 (by rw [ex47]; decide) (by rw [ex47]; decide) (by rw [ex47]; decide) (by decide) ?_
            refine gx_iload_n C dX4_wantsIt_88 (by rfl) (by rfl) ?_
            exact gx_iret C hr hlk (by first | rfl | exact nb_b2 _) ⟨rfl, by first | exact b2_t (by simp only [wn] at *; grind) | exact b2_f (by simp only [wn] at *; grind)⟩ dX4_wantsIt_89
          | 1, _, ej47 =>
            have ex47 : K 1 t = (1 : Int32) := ej47.trans (by decide)
            refine gx_tabIn (off := 165) (tgt := 214) C dX4_wantsIt_49 (by rw [ex47]; decide) (by rw [ex47]; decide) (by rw [ex47]; decide) (by decide) ?_
            refine gx_iconst (v := 0) C dX4_wantsIt_214 (by decide) ?_
            exact gx_iret C hr hlk (by first | rfl | exact nb_b2 _) ⟨rfl, by first | exact b2_t (by simp only [wn] at *; grind) | exact b2_f (by simp only [wn] at *; grind)⟩ dX4_wantsIt_215
          | 2, _, ej47 =>
            have ex47 : K 1 t = (2 : Int32) := ej47.trans (by decide)
            refine gx_tabIn (off := 41) (tgt := 90) C dX4_wantsIt_49 (by rw [ex47]; decide) (by rw [ex47]; decide) (by rw [ex47]; decide) (by decide) ?_
            refine gx_iload C dX4_wantsIt_90 (by rfl) ?_
            exact gx_iret C hr hlk (by first | rfl | exact nb_b2 _) ⟨rfl, by first | exact b2_t (by simp only [wn] at *; grind) | exact b2_f (by simp only [wn] at *; grind)⟩ dX4_wantsIt_92
          | 3, _, ej47 =>
            have ex47 : K 1 t = (3 : Int32) := ej47.trans (by decide)
            refine gx_tabIn (off := 44) (tgt := 93) C dX4_wantsIt_49 (by rw [ex47]; decide) (by rw [ex47]; decide) (by rw [ex47]; decide) (by decide) ?_
            refine gx_iload C dX4_wantsIt_93 (by rfl) ?_
            refine gx_if_ne (tgt := 125) C dX4_wantsIt_95 (by decide) (fun h48 => ?_) (fun h48 => ?_)
            ·
              clear h48
              refine gx_iconst (v := 1) C dX4_wantsIt_125 (by decide) ?_
              refine gx_goto (tgt := 130) C dX4_wantsIt_126 (by decide) ?_
              exact gx_iret C hr hlk (by first | rfl | exact nb_b2 _) ⟨rfl, by first | exact b2_t (by simp only [wn] at *; grind) | exact b2_f (by simp only [wn] at *; grind)⟩ dX4_wantsIt_130
            ·
              exact absurd h48 (by decide)
          | 4, _, ej47 =>
            have ex47 : K 1 t = (4 : Int32) := ej47.trans (by decide)
            refine gx_tabIn (off := 82) (tgt := 131) C dX4_wantsIt_49 (by rw [ex47]; decide) (by rw [ex47]; decide) (by rw [ex47]; decide) (by decide) ?_
            refine gx_iload_n C dX4_wantsIt_131 (by rfl) (by rfl) ?_
            refine gx_if_eq (tgt := 154) C dX4_wantsIt_132 (by decide) (fun h49 => ?_) (fun h49 => ?_)
            ·
              exact absurd h49 (by decide)
            ·
              clear h49
              refine gx_aload_n C dX4_wantsIt_135 (by rfl) (by rfl) ?_
              refine gx_iload_n C dX4_wantsIt_136 (by rfl) (by rfl) ?_
              refine gx_iconst (v := 3) C dX4_wantsIt_137 (by decide) ?_
              refine gx_callVI (As := [.int (nI q), .int 3]) (rest := []) C (c_X4_is E σ q (by omega) 3 (by omega)) z_X4_is ck4 (by rfl) (by rfl) ml_X4_51 (by rfl) (Nat.le_of_ble_eq_true rfl) ⟨Nat.le_of_ble_eq_true rfl, Nat.le_of_ble_eq_true rfl⟩ dX4_wantsIt_138 (fun r50 σ50 w50 => ?_)
              obtain ⟨u1, u2⟩ := w50; rw [u1, u2]; clear u1 u2
              refine gx_st (st' := [.int (K 4 q)]) (by rw [mp_4 hM (p := q) (by omega)]) ?_
              refine gx_aload_n C dX4_wantsIt_141 (by rfl) (by rfl) ?_
              refine gx_iload_n C dX4_wantsIt_142 (by rfl) (by rfl) ?_
              refine gx_iconst (v := 3) C dX4_wantsIt_143 (by decide) ?_
              refine gx_callVI (As := [.int (nI t), .int 3]) (rest := [.int (K 4 q)]) C (c_X4_is E σ t (by omega) 3 (by omega)) z_X4_is ck4 (by rfl) (by rfl) ml_X4_51 (by rfl) (Nat.le_of_ble_eq_true rfl) ⟨Nat.le_of_ble_eq_true rfl, Nat.le_of_ble_eq_true rfl⟩ dX4_wantsIt_144 (fun r51 σ51 w51 => ?_)
              obtain ⟨u1, u2⟩ := w51; rw [u1, u2]; clear u1 u2
              refine gx_st (st' := [.int (K 4 t), .int (K 4 q)]) (by rw [mp_4 hM (p := t) (by omega)]) ?_
              refine gx_icmp_eq (tgt := 154) C dX4_wantsIt_147 (by decide) (fun h52 => ?_) (fun h52 => ?_)
              ·
                refine gx_iconst (v := 0) C dX4_wantsIt_154 (by decide) ?_
                exact gx_iret C hr hlk (by first | rfl | exact nb_b2 _) ⟨rfl, by first | exact b2_t (by simp only [wn] at *; grind) | exact b2_f (by simp only [wn] at *; grind)⟩ dX4_wantsIt_155
              ·
                refine gx_iconst (v := 1) C dX4_wantsIt_150 (by decide) ?_
                refine gx_goto (tgt := 155) C dX4_wantsIt_151 (by decide) ?_
                exact gx_iret C hr hlk (by first | rfl | exact nb_b2 _) ⟨rfl, by first | exact b2_t (by simp only [wn] at *; grind) | exact b2_f (by simp only [wn] at *; grind)⟩ dX4_wantsIt_155
          | 5, _, ej47 =>
            have ex47 : K 1 t = (5 : Int32) := ej47.trans (by decide)
            refine gx_tabIn (off := 107) (tgt := 156) C dX4_wantsIt_49 (by rw [ex47]; decide) (by rw [ex47]; decide) (by rw [ex47]; decide) (by decide) ?_
            refine gx_iload_n C dX4_wantsIt_156 (by rfl) (by rfl) ?_
            refine gx_if_ne (tgt := 208) C dX4_wantsIt_157 (by decide) (fun h53 => ?_) (fun h53 => ?_)
            ·
              clear h53
              refine gx_iconst (v := 1) C dX4_wantsIt_208 (by decide) ?_
              refine gx_goto (tgt := 213) C dX4_wantsIt_209 (by decide) ?_
              exact gx_iret C hr hlk (by first | rfl | exact nb_b2 _) ⟨rfl, by first | exact b2_t (by simp only [wn] at *; grind) | exact b2_f (by simp only [wn] at *; grind)⟩ dX4_wantsIt_213
            ·
              exact absurd h53 (by decide)
          | j + 6, hj, _ => exact absurd hj (by omega)
set_option maxHeartbeats 4000000 in
set_option maxRecDepth 100000 in
theorem c_X4_below (E : En) (σ : Mm) (K : Mm) (hM : vM σ 50 = K) (hO : Ok K) (q : Nat) (hq : q < nn K) (hno : ¬ K 2 q = -1) : CtI E yX4_below cX4_below 2 (some .int) 2 45 [.ref (eA E 49), .int (nI q)] σ (fun rr σ2 => σ2 = σ ∧ rr = bset (nn K) (blP K q)) := by
  obtain ⟨⟨hn, h12⟩, hpp, hlw, hsp, hz0⟩ := id hO
  refine CtI.of (by decide +kernel) (Nat.le_of_ble_eq_true rfl) (fun p e0 s m below meth c C hr hlk => ?_)
  refine gx_lv (lv' := [(0, .ref (eA E 49)), (1, .int (nI q))]) rfl ?_
  refine gx_aload_n C dX4_below_0 (by rfl) (by rfl) ?_
  refine gx_iload_n C dX4_below_1 (by rfl) (by rfl) ?_
  refine gx_iconst (v := 1) C dX4_below_2 (by decide) ?_
  refine gx_callVI (As := [.int (nI q), .int 1]) (rest := []) C (c_X4_is E σ q (by omega) 1 (by omega)) z_X4_is ck4 (by rfl) (by rfl) ml_X4_51 (by rfl) (Nat.le_of_ble_eq_true rfl) ⟨Nat.le_of_ble_eq_true rfl, Nat.le_of_ble_eq_true rfl⟩ dX4_below_3 (fun r1 σ1 w1 => ?_)
  obtain ⟨u1, u2⟩ := w1; rw [u1, u2]; clear u1 u2
  refine gx_st (st' := [.int (K 2 q)]) (by rw [mp_2 hM (p := q) (by omega)]) ?_
  refine gx_bipush (v := 6) C dX4_below_6 (by decide) ?_
  refine gx_icmp_ge (tgt := 26) C dX4_below_8 (by decide) (fun h2 => ?_) (fun h2 => ?_)
  ·
    refine gx_iconst (v := 0) C dX4_below_26 (by decide) ?_
    exact gx_iret C hr hlk rfl ⟨rfl, ((bset_eq0 h12).mpr (fun p hp => by simp only [blP]; grind)).symm⟩ dX4_below_27
  ·
    refine gx_aload_n C dX4_below_11 (by rfl) (by rfl) ?_
    refine gx_aload_n C dX4_below_12 (by rfl) (by rfl) ?_
    refine gx_iload_n C dX4_below_13 (by rfl) (by rfl) ?_
    refine gx_iconst (v := 1) C dX4_below_14 (by decide) ?_
    refine gx_callVI (As := [.int (nI q), .int 1]) (rest := [.ref (eA E 49)]) C (c_X4_is E σ q (by omega) 1 (by omega)) z_X4_is ck4 (by rfl) (by rfl) ml_X4_51 (by rfl) (Nat.le_of_ble_eq_true rfl) ⟨Nat.le_of_ble_eq_true rfl, Nat.le_of_ble_eq_true rfl⟩ dX4_below_15 (fun r3 σ3 w3 => ?_)
    obtain ⟨u1, u2⟩ := w3; rw [u1, u2]; clear u1 u2
    refine gx_st (st' := [.int (K 2 q), .ref (eA E 49)]) (by rw [mp_2 hM (p := q) (by omega)]) ?_
    refine gx_iconst (v := 2) C dX4_below_18 (by decide) ?_
    refine gx_iadd C dX4_below_19 ?_
    refine gx_callVI (As := [.int ((K 2 q) + 2)]) (rest := []) C (c_X4_counting E σ K hM hO ((K 2 q) + 2)) z_X4_counting ck4 (by rfl) (by rfl) ml_X4_75 (by rfl) (Nat.le_of_ble_eq_true rfl) ⟨Nat.le_of_ble_eq_true rfl, Nat.le_of_ble_eq_true rfl⟩ dX4_below_20 (fun r4 σ4 w4 => ?_)
    obtain ⟨u1, u2⟩ := w4; rw [u1, u2]; clear u1 u2
    refine gx_goto (tgt := 27) C dX4_below_23 (by decide) ?_
    exact gx_iret C hr hlk rfl ⟨rfl, bset_c (fun p hp => by have q6 : K 2 q < 6 := Int32.not_le.mp (by assumption); simp [blP, hno, q6])⟩ dX4_below_27
set_option maxHeartbeats 4000000 in
set_option maxRecDepth 100000 in
theorem c_X4_againstIt (E : En) (σ : Mm) (K : Mm) (hM : vM σ 50 = K) (hO : Ok K) (q : Nat) (hq : q < nn K) (hno : ¬ K 2 q = -1) : CtI E yX4_againstIt cX4_againstIt 5 (some .int) 3 70 [.ref (eA E 49), .int (nI q)] σ (fun rr σ2 => σ2 = σ ∧ rr = bset (nn K) (agP K q)) := by
  obtain ⟨⟨hn, h12⟩, hpp, hlw, hsp, hz0⟩ := id hO
  refine CtI.of (by decide +kernel) (Nat.le_of_ble_eq_true rfl) (fun p e0 s m below meth c C hr hlk => ?_)
  refine gx_lv (lv' := [(0, .ref (eA E 49)), (1, .int (nI q))]) rfl ?_
  refine gx_iconst (v := 0) C dX4_againstIt_0 (by decide) ?_
  refine gx_istore_n (lv2 := [(2, .int 0), (0, .ref (eA E 49)), (1, .int (nI q))]) C dX4_againstIt_1 (by rfl) (by decide) rfl ?_
  refine gx_aload_n C dX4_againstIt_2 (by rfl) (by rfl) ?_
  refine gx_iload_n C dX4_againstIt_3 (by rfl) (by rfl) ?_
  refine gx_callVI (As := [.int (nI q)]) (rest := []) C (c_X4_below E σ K hM hO q (by omega) (by assumption)) z_X4_below ck4 (by rfl) (by rfl) ml_X4_135 (by rfl) (Nat.le_of_ble_eq_true rfl) ⟨Nat.le_of_ble_eq_true rfl, Nat.le_of_ble_eq_true rfl⟩ dX4_againstIt_4 (fun r1 σ1 w1 => ?_)
  obtain ⟨u1, u2⟩ := w1; rw [u1, u2]; clear u1 u2
  refine gx_istore_n (lv2 := [(3, .int (bset (nn K) (blP K q))), (2, .int 0), (0, .ref (eA E 49)), (1, .int (nI q))]) C dX4_againstIt_7 (by rfl) (by decide) rfl ?_
  refine gx_iconst (v := 0) C dX4_againstIt_8 (by decide) ?_
  refine gx_istore (lv2 := [(4, .int 0), (3, .int (bset (nn K) (blP K q))), (2, .int 0), (0, .ref (eA E 49)), (1, .int (nI q))]) C dX4_againstIt_9 (by decide) rfl ?_
  have loop11 : ∀ (kf i11 : Nat), i11 ≤ nn K → nn K < i11 + kf → Gx E p e0 (rmF 3 70) s m ([.ref (eA E 49), .int (nI q)] : List Value).toArray below meth c (MQ below (va_Qi (fun rr σ2 => σ2 = σ ∧ rr = bset (nn K) (agP K q)) (WQ E) (AA E s.heap.size)) ([.ref (eA E 49), .int (nI q)] : List Value).toArray s 0 0 (AA E s.heap.size)) 5 11 [(0, .ref (eA E 49)), (1, .int (nI q)), (2, .int (bset i11 (agP K q))), (3, .int (bset (nn K) (blP K q))), (4, .int (nI i11))] [] σ := by
    intro kf
    induction kf with
    | zero => intro i11 q1 q2; exact absurd q2 (by omega)
    | succ kf ih11 =>
      intro i11 a11 b11
      refine gx_iload C dX4_againstIt_11 (by rfl) ?_
      refine gx_aload_n C dX4_againstIt_13 (by rfl) (by rfl) ?_
      refine gx_getr (j := 50) (k := 0) C ck4 (by rfl) (by rfl) (by decide) fl_X4_9 dX4_againstIt_14 ?_
      refine gx_bipush (v := 6) C dX4_againstIt_17 (by decide) ?_
      refine gx_ialdN (k := 6) C (by rfl) (by rfl) (by decide) (by decide) dX4_againstIt_19 ?_
      refine gx_st (st' := [.int (nI (nn K)), .int (nI i11)]) (by rw [mp_n hM, hn]) ?_
      refine gx_icmp_ge (tgt := 59) C dX4_againstIt_20 (by decide) (fun h2 => ?_) (fun h2 => ?_)
      ·
        have h2 := (nI_leI (a := (nn K)) (b := i11) (by omega) (by omega)).mp h2
        refine gx_iload_n C dX4_againstIt_59 (by rfl) (by rfl) ?_
        exact gx_iret C hr hlk rfl ⟨rfl, by rw [show i11 = nn K by omega]⟩ dX4_againstIt_60
      ·
        have h2 := (not_congr (nI_leI (a := (nn K)) (b := i11) (by omega) (by omega))).mp h2
        refine gx_iload_n C dX4_againstIt_23 (by rfl) (by rfl) ?_
        refine gx_iload_n C dX4_againstIt_24 (by rfl) (by rfl) ?_
        refine gx_iload C dX4_againstIt_25 (by rfl) ?_
        refine gx_callSI (As := [.int (bset (nn K) (blP K q)), .int (nI i11)]) (rest := [.int (bset i11 (agP K q))]) C (c_X4_has E σ (nn K) (by omega) (blP K q) i11 (by omega)) z_X4_has (by rfl) ml_X4_71 (by rfl) (Nat.le_of_ble_eq_true rfl) ⟨Nat.le_of_ble_eq_true rfl, Nat.le_of_ble_eq_true rfl⟩ dX4_againstIt_27 (fun r3 σ3 w3 => ?_)
        obtain ⟨u1, u2⟩ := w3; rw [u1, u2]; clear u1 u2
        refine gx_if_eq (tgt := 50) C dX4_againstIt_30 (by decide) (fun h4 => ?_) (fun h4 => ?_)
        ·
          have h4 := b2_z.mp h4
          refine gx_iconst (v := 0) C dX4_againstIt_50 (by decide) ?_
          refine gx_ior C dX4_againstIt_51 ?_
          refine gx_istore_n (lv2 := [(2, .int ((bset i11 (agP K q)) ||| 0)), (0, .ref (eA E 49)), (1, .int (nI q)), (3, .int (bset (nn K) (blP K q))), (4, .int (nI i11))]) C dX4_againstIt_52 (by rfl) (by decide) rfl ?_
          refine gx_iinc (v := nI (i11 + 1)) (lv2 := [(4, .int (nI (i11 + 1))), (2, .int ((bset i11 (agP K q)) ||| 0)), (0, .ref (eA E 49)), (1, .int (nI q)), (3, .int (bset (nn K) (blP K q)))]) C dX4_againstIt_53 (by rfl) (by exact nI_p1 _) (by decide) rfl ?_
          refine gx_goto (tgt := 11) C dX4_againstIt_56 (by decide) ?_
          refine gx_sub [2, 3, 1, 4, 0] (lv' := [(0, .ref (eA E 49)), (1, .int (nI q)), (2, .int ((bset i11 (agP K q)) ||| 0)), (3, .int (bset (nn K) (blP K q))), (4, .int (nI (i11 + 1)))]) rfl ?_
          refine gx_lv (lv' := [(0, .ref (eA E 49)), (1, .int (nI q)), (2, .int (bset (i11 + 1) (agP K q))), (3, .int (bset (nn K) (blP K q))), (4, .int (nI (i11 + 1)))]) (by rw [or0, bset_f (n := i11) (P := agP K q) (by omega) (by simp [agP, *])]) ?_
          exact ih11 (i11 + 1) (by omega) (by omega)
        ·
          have h4 := b2_nz.mp h4
          refine gx_aload_n C dX4_againstIt_33 (by rfl) (by rfl) ?_
          refine gx_iload C dX4_againstIt_34 (by rfl) ?_
          refine gx_iload_n C dX4_againstIt_36 (by rfl) (by rfl) ?_
          refine gx_callVI (As := [.int (nI i11), .int (nI q)]) (rest := [.int (bset i11 (agP K q))]) C (c_X4_wantsIt E σ K hM hO i11 (by omega) q (by omega)) z_X4_wantsIt ck4 (by rfl) (by rfl) ml_X4_132 (by rfl) (Nat.le_of_ble_eq_true rfl) ⟨Nat.le_of_ble_eq_true rfl, Nat.le_of_ble_eq_true rfl⟩ dX4_againstIt_37 (fun r5 σ5 w5 => ?_)
          obtain ⟨u1, u2⟩ := w5; rw [u1, u2]; clear u1 u2
          refine gx_if_eq (tgt := 50) C dX4_againstIt_40 (by decide) (fun h6 => ?_) (fun h6 => ?_)
          ·
            have h6 := b2_z.mp h6
            refine gx_iconst (v := 0) C dX4_againstIt_50 (by decide) ?_
            refine gx_ior C dX4_againstIt_51 ?_
            refine gx_istore_n (lv2 := [(2, .int ((bset i11 (agP K q)) ||| 0)), (0, .ref (eA E 49)), (1, .int (nI q)), (3, .int (bset (nn K) (blP K q))), (4, .int (nI i11))]) C dX4_againstIt_52 (by rfl) (by decide) rfl ?_
            refine gx_iinc (v := nI (i11 + 1)) (lv2 := [(4, .int (nI (i11 + 1))), (2, .int ((bset i11 (agP K q)) ||| 0)), (0, .ref (eA E 49)), (1, .int (nI q)), (3, .int (bset (nn K) (blP K q)))]) C dX4_againstIt_53 (by rfl) (by exact nI_p1 _) (by decide) rfl ?_
            refine gx_goto (tgt := 11) C dX4_againstIt_56 (by decide) ?_
            refine gx_sub [2, 3, 1, 4, 0] (lv' := [(0, .ref (eA E 49)), (1, .int (nI q)), (2, .int ((bset i11 (agP K q)) ||| 0)), (3, .int (bset (nn K) (blP K q))), (4, .int (nI (i11 + 1)))]) rfl ?_
            refine gx_lv (lv' := [(0, .ref (eA E 49)), (1, .int (nI q)), (2, .int (bset (i11 + 1) (agP K q))), (3, .int (bset (nn K) (blP K q))), (4, .int (nI (i11 + 1)))]) (by rw [or0, bset_f (n := i11) (P := agP K q) (by omega) (by simp [agP, *])]) ?_
            exact ih11 (i11 + 1) (by omega) (by omega)
          ·
            have h6 := b2_nz.mp h6
            refine gx_iconst (v := 1) C dX4_againstIt_43 (by decide) ?_
            refine gx_iload C dX4_againstIt_44 (by rfl) ?_
            refine gx_ishl C dX4_againstIt_46 ?_
            refine gx_goto (tgt := 51) C dX4_againstIt_47 (by decide) ?_
            refine gx_ior C dX4_againstIt_51 ?_
            refine gx_istore_n (lv2 := [(2, .int ((bset i11 (agP K q)) ||| (1 <<< ((nI i11) &&& 31)))), (0, .ref (eA E 49)), (1, .int (nI q)), (3, .int (bset (nn K) (blP K q))), (4, .int (nI i11))]) C dX4_againstIt_52 (by rfl) (by decide) rfl ?_
            refine gx_iinc (v := nI (i11 + 1)) (lv2 := [(4, .int (nI (i11 + 1))), (2, .int ((bset i11 (agP K q)) ||| (1 <<< ((nI i11) &&& 31)))), (0, .ref (eA E 49)), (1, .int (nI q)), (3, .int (bset (nn K) (blP K q)))]) C dX4_againstIt_53 (by rfl) (by exact nI_p1 _) (by decide) rfl ?_
            refine gx_goto (tgt := 11) C dX4_againstIt_56 (by decide) ?_
            refine gx_sub [2, 3, 1, 4, 0] (lv' := [(0, .ref (eA E 49)), (1, .int (nI q)), (2, .int ((bset i11 (agP K q)) ||| (1 <<< ((nI i11) &&& 31)))), (3, .int (bset (nn K) (blP K q))), (4, .int (nI (i11 + 1)))]) rfl ?_
            refine gx_lv (lv' := [(0, .ref (eA E 49)), (1, .int (nI q)), (2, .int (bset (i11 + 1) (agP K q))), (3, .int (bset (nn K) (blP K q))), (4, .int (nI (i11 + 1)))]) (by rw [bset_t (n := i11) (P := agP K q) (by omega) (by simp [agP, *])]) ?_
            exact ih11 (i11 + 1) (by omega) (by omega)
  refine gx_sub [3, 4, 2, 1, 0] (lv' := [(0, .ref (eA E 49)), (1, .int (nI q)), (2, .int 0), (3, .int (bset (nn K) (blP K q))), (4, .int 0)]) rfl ?_
  refine gx_lv (lv' := [(0, .ref (eA E 49)), (1, .int (nI q)), (2, .int (bset 0 (agP K q))), (3, .int (bset (nn K) (blP K q))), (4, .int (nI 0))]) (by rfl) ?_
  exact loop11 (nn K + 1) 0 (by omega) (by omega)
set_option maxHeartbeats 4000000 in
set_option maxRecDepth 100000 in
theorem c_X4_isEnough (E : En) (σ : Mm) (K : Mm) (hM : vM σ 50 = K) (hO : Ok K) (x y : Int32) : CtI E yX4_isEnough cX4_isEnough 3 (some .boolean) 0 0 [.ref (eA E 49), .int x, .int y] σ (fun rr σ2 => σ2 = σ ∧ rr = b2 (0 < x ∧ y ≤ x * K 9 1)) := by
  obtain ⟨⟨hn, h12⟩, hpp, hlw, hsp, hz0⟩ := id hO
  refine CtI.of (by decide +kernel) (Nat.le_of_ble_eq_true rfl) (fun p e0 s m below meth c C hr hlk => ?_)
  refine gx_lv (lv' := [(0, .ref (eA E 49)), (1, .int x), (2, .int y)]) rfl ?_
  refine gx_iload_n C dX4_isEnough_0 (by rfl) (by rfl) ?_
  refine gx_if_le (tgt := 20) C dX4_isEnough_1 (by decide) (fun h1 => ?_) (fun h1 => ?_)
  ·
    refine gx_iconst (v := 0) C dX4_isEnough_20 (by decide) ?_
    exact gx_iret C hr hlk (by first | rfl | exact nb_b2 _) ⟨rfl, by first | exact b2_t (by grind) | exact b2_f (by grind)⟩ dX4_isEnough_21
  ·
    refine gx_iload_n C dX4_isEnough_4 (by rfl) (by rfl) ?_
    refine gx_aload_n C dX4_isEnough_5 (by rfl) (by rfl) ?_
    refine gx_getr (j := 50) (k := 0) C ck4 (by rfl) (by rfl) (by decide) fl_X4_9 dX4_isEnough_6 ?_
    refine gx_iconst (v := 2) C dX4_isEnough_9 (by decide) ?_
    refine gx_ialdN (k := 2) C (by rfl) (by rfl) (by decide) (by decide) dX4_isEnough_10 ?_
    refine gx_st (st' := [.int (K 9 1), .int x]) (by rw [mp_9_1 hM]) ?_
    refine gx_imul C dX4_isEnough_11 ?_
    refine gx_iload_n C dX4_isEnough_12 (by rfl) (by rfl) ?_
    refine gx_icmp_lt (tgt := 20) C dX4_isEnough_13 (by decide) (fun h2 => ?_) (fun h2 => ?_)
    ·
      refine gx_iconst (v := 0) C dX4_isEnough_20 (by decide) ?_
      exact gx_iret C hr hlk (by first | rfl | exact nb_b2 _) ⟨rfl, by first | exact b2_t (by grind) | exact b2_f (by grind)⟩ dX4_isEnough_21
    ·
      refine gx_iconst (v := 1) C dX4_isEnough_16 (by decide) ?_
      refine gx_goto (tgt := 21) C dX4_isEnough_17 (by decide) ?_
      exact gx_iret C hr hlk (by first | rfl | exact nb_b2 _) ⟨rfl, by first | exact b2_t (by grind) | exact b2_f (by grind)⟩ dX4_isEnough_21
set_option maxHeartbeats 4000000 in
set_option maxRecDepth 100000 in
theorem c_X4_trembling (E : En) (σ : Mm) (K : Mm) (hM : vM σ 50 = K) (hO : Ok K) : CtI E yX4_trembling cX4_trembling 3 (some .int) 4 94 [.ref (eA E 49)] σ (fun rr σ2 => σ2 = σ ∧ rr = bset (nn K) (trP K)) := by
  obtain ⟨⟨hn, h12⟩, hpp, hlw, hsp, hz0⟩ := id hO
  refine CtI.of (by decide +kernel) (Nat.le_of_ble_eq_true rfl) (fun p e0 s m below meth c C hr hlk => ?_)
  refine gx_lv (lv' := [(0, .ref (eA E 49))]) rfl ?_
  refine gx_iconst (v := 0) C dX4_trembling_0 (by decide) ?_
  refine gx_istore_n (lv2 := [(1, .int 0), (0, .ref (eA E 49))]) C dX4_trembling_1 (by rfl) (by decide) rfl ?_
  refine gx_iconst (v := 0) C dX4_trembling_2 (by decide) ?_
  refine gx_istore_n (lv2 := [(2, .int 0), (1, .int 0), (0, .ref (eA E 49))]) C dX4_trembling_3 (by rfl) (by decide) rfl ?_
  have loop4 : ∀ (kf i4 : Nat), i4 ≤ nn K → nn K < i4 + kf → Gx E p e0 (rmF 4 94) s m ([.ref (eA E 49)] : List Value).toArray below meth c (MQ below (va_Qi (fun rr σ2 => σ2 = σ ∧ rr = bset (nn K) (trP K)) (WQ E) (AA E s.heap.size)) ([.ref (eA E 49)] : List Value).toArray s 0 0 (AA E s.heap.size)) 3 4 [(0, .ref (eA E 49)), (1, .int (bset i4 (trP K))), (2, .int (nI i4))] [] σ := by
    intro kf
    induction kf with
    | zero => intro i4 q1 q2; exact absurd q2 (by omega)
    | succ kf ih4 =>
      intro i4 a4 b4
      refine gx_iload_n C dX4_trembling_4 (by rfl) (by rfl) ?_
      refine gx_aload_n C dX4_trembling_5 (by rfl) (by rfl) ?_
      refine gx_getr (j := 50) (k := 0) C ck4 (by rfl) (by rfl) (by decide) fl_X4_9 dX4_trembling_6 ?_
      refine gx_bipush (v := 6) C dX4_trembling_9 (by decide) ?_
      refine gx_ialdN (k := 6) C (by rfl) (by rfl) (by decide) (by decide) dX4_trembling_11 ?_
      refine gx_st (st' := [.int (nI (nn K)), .int (nI i4)]) (by rw [mp_n hM, hn]) ?_
      refine gx_icmp_ge (tgt := 62) C dX4_trembling_12 (by decide) (fun h1 => ?_) (fun h1 => ?_)
      ·
        have h1 := (nI_leI (a := (nn K)) (b := i4) (by omega) (by omega)).mp h1
        refine gx_iload_n C dX4_trembling_62 (by rfl) (by rfl) ?_
        exact gx_iret C hr hlk rfl ⟨rfl, by rw [show i4 = nn K by omega]⟩ dX4_trembling_63
      ·
        have h1 := (not_congr (nI_leI (a := (nn K)) (b := i4) (by omega) (by omega))).mp h1
        refine gx_iload_n C dX4_trembling_15 (by rfl) (by rfl) ?_
        refine gx_aload_n C dX4_trembling_16 (by rfl) (by rfl) ?_
        refine gx_iload_n C dX4_trembling_17 (by rfl) (by rfl) ?_
        refine gx_callVI (As := [.int (nI i4)]) (rest := [.int (bset i4 (trP K))]) C (c_X4_isOut E σ K hM hO i4 (by omega)) z_X4_isOut ck4 (by rfl) (by rfl) ml_X4_119 (by rfl) (Nat.le_of_ble_eq_true rfl) ⟨Nat.le_of_ble_eq_true rfl, Nat.le_of_ble_eq_true rfl⟩ dX4_trembling_18 (fun r2 σ2 w2 => ?_)
        obtain ⟨u1, u2⟩ := w2; rw [u1, u2]; clear u1 u2
        refine gx_if_ne (tgt := 53) C dX4_trembling_21 (by decide) (fun h3 => ?_) (fun h3 => ?_)
        ·
          have h3 := b2_nz.mp h3
          refine gx_iconst (v := 0) C dX4_trembling_53 (by decide) ?_
          refine gx_ior C dX4_trembling_54 ?_
          refine gx_istore_n (lv2 := [(1, .int ((bset i4 (trP K)) ||| 0)), (0, .ref (eA E 49)), (2, .int (nI i4))]) C dX4_trembling_55 (by rfl) (by decide) rfl ?_
          refine gx_iinc (v := nI (i4 + 1)) (lv2 := [(2, .int (nI (i4 + 1))), (1, .int ((bset i4 (trP K)) ||| 0)), (0, .ref (eA E 49))]) C dX4_trembling_56 (by rfl) (by exact nI_p1 _) (by decide) rfl ?_
          refine gx_goto (tgt := 4) C dX4_trembling_59 (by decide) ?_
          refine gx_sub [2, 1, 0] (lv' := [(0, .ref (eA E 49)), (1, .int ((bset i4 (trP K)) ||| 0)), (2, .int (nI (i4 + 1)))]) rfl ?_
          refine gx_lv (lv' := [(0, .ref (eA E 49)), (1, .int (bset (i4 + 1) (trP K))), (2, .int (nI (i4 + 1)))]) (by rw [or0, bset_f (n := i4) (P := trP K) (by omega) (by simp only [trP]; grind)]) ?_
          exact ih4 (i4 + 1) (by omega) (by omega)
        ·
          have h3 := b2_z.mp h3
          refine gx_aload_n C dX4_trembling_24 (by rfl) (by rfl) ?_
          refine gx_aload_n C dX4_trembling_25 (by rfl) (by rfl) ?_
          refine gx_iload_n C dX4_trembling_26 (by rfl) (by rfl) ?_
          refine gx_callVI (As := [.int (nI i4)]) (rest := [.ref (eA E 49), .int (bset i4 (trP K))]) C (c_X4_againstIt E σ K hM hO i4 (by omega) (by assumption)) z_X4_againstIt ck4 (by rfl) (by rfl) ml_X4_138 (by rfl) (Nat.le_of_ble_eq_true rfl) ⟨Nat.le_of_ble_eq_true rfl, Nat.le_of_ble_eq_true rfl⟩ dX4_trembling_27 (fun r4 σ4 w4 => ?_)
          obtain ⟨u1, u2⟩ := w4; rw [u1, u2]; clear u1 u2
          refine gx_callSI (As := [.int (bset (nn K) (agP K i4))]) (rest := [.ref (eA E 49), .int (bset i4 (trP K))]) C (c_X4_many E σ (nn K) (by omega) (agP K i4)) z_X4_many (by rfl) ml_X4_58 (by rfl) (Nat.le_of_ble_eq_true rfl) ⟨Nat.le_of_ble_eq_true rfl, Nat.le_of_ble_eq_true rfl⟩ dX4_trembling_30 (fun r5 σ5 w5 => ?_)
          obtain ⟨u1, u2⟩ := w5; rw [u1, u2]; clear u1 u2
          refine gx_aload_n C dX4_trembling_33 (by rfl) (by rfl) ?_
          refine gx_iload_n C dX4_trembling_34 (by rfl) (by rfl) ?_
          refine gx_callVI (As := [.int (nI i4)]) (rest := [.int (nI (cnt (agP K i4) (nn K))), .ref (eA E 49), .int (bset i4 (trP K))]) C (c_X4_below E σ K hM hO i4 (by omega) (by assumption)) z_X4_below ck4 (by rfl) (by rfl) ml_X4_135 (by rfl) (Nat.le_of_ble_eq_true rfl) ⟨Nat.le_of_ble_eq_true rfl, Nat.le_of_ble_eq_true rfl⟩ dX4_trembling_35 (fun r6 σ6 w6 => ?_)
          obtain ⟨u1, u2⟩ := w6; rw [u1, u2]; clear u1 u2
          refine gx_callSI (As := [.int (bset (nn K) (blP K i4))]) (rest := [.int (nI (cnt (agP K i4) (nn K))), .ref (eA E 49), .int (bset i4 (trP K))]) C (c_X4_many E σ (nn K) (by omega) (blP K i4)) z_X4_many (by rfl) ml_X4_58 (by rfl) (Nat.le_of_ble_eq_true rfl) ⟨Nat.le_of_ble_eq_true rfl, Nat.le_of_ble_eq_true rfl⟩ dX4_trembling_38 (fun r7 σ7 w7 => ?_)
          obtain ⟨u1, u2⟩ := w7; rw [u1, u2]; clear u1 u2
          refine gx_callVI (As := [.int (nI (cnt (agP K i4) (nn K))), .int (nI (cnt (blP K i4) (nn K)))]) (rest := [.int (bset i4 (trP K))]) C (c_X4_isEnough E σ K hM hO (nI (cnt (agP K i4) (nn K))) (nI (cnt (blP K i4) (nn K)))) z_X4_isEnough ck4 (by rfl) (by rfl) ml_X4_141 (by rfl) (Nat.le_of_ble_eq_true rfl) ⟨Nat.le_of_ble_eq_true rfl, Nat.le_of_ble_eq_true rfl⟩ dX4_trembling_41 (fun r8 σ8 w8 => ?_)
          obtain ⟨u1, u2⟩ := w8; rw [u1, u2]; clear u1 u2
          refine gx_if_eq (tgt := 53) C dX4_trembling_44 (by decide) (fun h9 => ?_) (fun h9 => ?_)
          ·
            have h9 := b2_z.mp h9
            refine gx_iconst (v := 0) C dX4_trembling_53 (by decide) ?_
            refine gx_ior C dX4_trembling_54 ?_
            refine gx_istore_n (lv2 := [(1, .int ((bset i4 (trP K)) ||| 0)), (0, .ref (eA E 49)), (2, .int (nI i4))]) C dX4_trembling_55 (by rfl) (by decide) rfl ?_
            refine gx_iinc (v := nI (i4 + 1)) (lv2 := [(2, .int (nI (i4 + 1))), (1, .int ((bset i4 (trP K)) ||| 0)), (0, .ref (eA E 49))]) C dX4_trembling_56 (by rfl) (by exact nI_p1 _) (by decide) rfl ?_
            refine gx_goto (tgt := 4) C dX4_trembling_59 (by decide) ?_
            refine gx_sub [2, 1, 0] (lv' := [(0, .ref (eA E 49)), (1, .int ((bset i4 (trP K)) ||| 0)), (2, .int (nI (i4 + 1)))]) rfl ?_
            refine gx_lv (lv' := [(0, .ref (eA E 49)), (1, .int (bset (i4 + 1) (trP K))), (2, .int (nI (i4 + 1)))]) (by rw [or0, bset_f (n := i4) (P := trP K) (by omega) (by simp only [trP]; grind)]) ?_
            exact ih4 (i4 + 1) (by omega) (by omega)
          ·
            have h9 := b2_nz.mp h9
            refine gx_iconst (v := 1) C dX4_trembling_47 (by decide) ?_
            refine gx_iload_n C dX4_trembling_48 (by rfl) (by rfl) ?_
            refine gx_ishl C dX4_trembling_49 ?_
            refine gx_goto (tgt := 54) C dX4_trembling_50 (by decide) ?_
            refine gx_ior C dX4_trembling_54 ?_
            refine gx_istore_n (lv2 := [(1, .int ((bset i4 (trP K)) ||| (1 <<< ((nI i4) &&& 31)))), (0, .ref (eA E 49)), (2, .int (nI i4))]) C dX4_trembling_55 (by rfl) (by decide) rfl ?_
            refine gx_iinc (v := nI (i4 + 1)) (lv2 := [(2, .int (nI (i4 + 1))), (1, .int ((bset i4 (trP K)) ||| (1 <<< ((nI i4) &&& 31)))), (0, .ref (eA E 49))]) C dX4_trembling_56 (by rfl) (by exact nI_p1 _) (by decide) rfl ?_
            refine gx_goto (tgt := 4) C dX4_trembling_59 (by decide) ?_
            refine gx_sub [2, 1, 0] (lv' := [(0, .ref (eA E 49)), (1, .int ((bset i4 (trP K)) ||| (1 <<< ((nI i4) &&& 31)))), (2, .int (nI (i4 + 1)))]) rfl ?_
            refine gx_lv (lv' := [(0, .ref (eA E 49)), (1, .int (bset (i4 + 1) (trP K))), (2, .int (nI (i4 + 1)))]) (by rw [bset_t (n := i4) (P := trP K) (by omega) (by simp only [trP]; grind)]) ?_
            exact ih4 (i4 + 1) (by omega) (by omega)
  refine gx_sub [2, 1, 0] (lv' := [(0, .ref (eA E 49)), (1, .int 0), (2, .int 0)]) rfl ?_
  refine gx_lv (lv' := [(0, .ref (eA E 49)), (1, .int (bset 0 (trP K))), (2, .int (nI 0))]) (by rfl) ?_
  exact loop4 (nn K + 1) 0 (by omega) (by omega)
theorem law_01 {x : Int32} (h : 0 ≤ x ∧ x ≤ 2) (h2 : x < 2) (h0 : ¬ x = 0) : x = 1 := by
  obtain ⟨k, hk, rfl⟩ := i_nat (M := 2) (n := 2) (by decide) h
  have h3 : k < 2 := (nI_ltI (b := 2) (by omega) (by omega)).mp h2
  have h4 : ¬ k = 0 := fun q => h0 (by rw [q]; rfl)
  rw [show k = 1 by omega]
  rfl
theorem law_2 {x : Int32} (h2 : ¬ x < 2) : ¬ x = 0 ∧ ¬ x = 1 := ⟨fun q => h2 (by rw [q]; decide), fun q => h2 (by rw [q]; decide)⟩
set_option maxHeartbeats 4000000 in
set_option maxRecDepth 100000 in
theorem c_X4_heirOf (E : En) (σ : Mm) (K : Mm) (hM : vM σ 50 = K) (hO : Ok K) (r : Nat) (hr7 : r < 7) : CtI E yX4_heirOf cX4_heirOf 4 (some .int) 2 46 [.ref (eA E 49), .int (nI r)] σ (fun rr σ2 => σ2 = σ ∧ rr = hrS K (inP K (nI (r + 1)))) := by
  obtain ⟨⟨hn, h12⟩, hpp, hlw, hsp, hz0⟩ := id hO
  refine CtI.of (by decide +kernel) (Nat.le_of_ble_eq_true rfl) (fun p e0 s m below meth c C hr hlk => ?_)
  refine gx_lv (lv' := [(0, .ref (eA E 49)), (1, .int (nI r))]) rfl ?_
  refine gx_aload_n C dX4_heirOf_0 (by rfl) (by rfl) ?_
  refine gx_iload_n C dX4_heirOf_1 (by rfl) (by rfl) ?_
  refine gx_iconst (v := 1) C dX4_heirOf_2 (by decide) ?_
  refine gx_iadd C dX4_heirOf_3 ?_
  refine gx_st (st' := [.int (nI (r + 1)), .ref (eA E 49)]) (by rw [show (nI r) + 1 = nI (r + 1) from nI_add r 1]) ?_
  refine gx_callVI (As := [.int (nI (r + 1))]) (rest := []) C (c_X4_inRank E σ K hM hO (nI (r + 1))) z_X4_inRank ck4 (by rfl) (by rfl) ml_X4_55 (by rfl) (Nat.le_of_ble_eq_true rfl) ⟨Nat.le_of_ble_eq_true rfl, Nat.le_of_ble_eq_true rfl⟩ dX4_heirOf_4 (fun r1 σ1 w1 => ?_)
  obtain ⟨u1, u2⟩ := w1; rw [u1, u2]; clear u1 u2
  refine gx_istore_n (lv2 := [(2, .int (bset (nn K) (inP K (nI (r + 1))))), (0, .ref (eA E 49)), (1, .int (nI r))]) C dX4_heirOf_7 (by rfl) (by decide) rfl ?_
  refine gx_aload_n C dX4_heirOf_8 (by rfl) (by rfl) ?_
  refine gx_getr (j := 50) (k := 0) C ck4 (by rfl) (by rfl) (by decide) fl_X4_9 dX4_heirOf_9 ?_
  refine gx_iconst (v := 1) C dX4_heirOf_12 (by decide) ?_
  refine gx_ialdN (k := 1) C (by rfl) (by rfl) (by decide) (by decide) dX4_heirOf_13 ?_
  refine gx_st (st' := [.int (K 9 0)]) (by rw [mp_9_0 hM]) ?_
  refine gx_iconst (v := 2) C dX4_heirOf_14 (by decide) ?_
  refine gx_icmp_ge (tgt := 38) C dX4_heirOf_15 (by decide) (fun h2 => ?_) (fun h2 => ?_)
  ·
    refine gx_iconst (v := 0) C dX4_heirOf_38 (by decide) ?_
    refine gx_istore_n (lv2 := [(3, .int 0), (2, .int (bset (nn K) (inP K (nI (r + 1))))), (0, .ref (eA E 49)), (1, .int (nI r))]) C dX4_heirOf_39 (by rfl) (by decide) rfl ?_
    have loop40 : ∀ (kf i40 : Nat), i40 ≤ nn K → nn K < i40 + kf → (∀ q, q < i40 → inP K (nI (r + 1)) q = false) → Gx E p e0 (rmF 2 46) s m ([.ref (eA E 49), .int (nI r)] : List Value).toArray below meth c (MQ below (va_Qi (fun rr σ2 => σ2 = σ ∧ rr = hrS K (inP K (nI (r + 1)))) (WQ E) (AA E s.heap.size)) ([.ref (eA E 49), .int (nI r)] : List Value).toArray s 0 0 (AA E s.heap.size)) 4 40 [(0, .ref (eA E 49)), (1, .int (nI r)), (2, .int (bset (nn K) (inP K (nI (r + 1))))), (3, .int (nI i40))] [] σ := by
      intro kf
      induction kf with
      | zero => intro i40 q1 q2; exact absurd q2 (by omega)
      | succ kf ih40 =>
        intro i40 a40 b40 hx4
        refine gx_iload_n C dX4_heirOf_40 (by rfl) (by rfl) ?_
        refine gx_aload_n C dX4_heirOf_41 (by rfl) (by rfl) ?_
        refine gx_getr (j := 50) (k := 0) C ck4 (by rfl) (by rfl) (by decide) fl_X4_9 dX4_heirOf_42 ?_
        refine gx_bipush (v := 6) C dX4_heirOf_45 (by decide) ?_
        refine gx_ialdN (k := 6) C (by rfl) (by rfl) (by decide) (by decide) dX4_heirOf_47 ?_
        refine gx_st (st' := [.int (nI (nn K)), .int (nI i40)]) (by rw [mp_n hM, hn]) ?_
        refine gx_icmp_ge (tgt := 67) C dX4_heirOf_48 (by decide) (fun h3 => ?_) (fun h3 => ?_)
        ·
          have h3 := (nI_leI (a := (nn K)) (b := i40) (by omega) (by omega)).mp h3
          refine gx_iconst (v := (-1)) C dX4_heirOf_67 (by decide) ?_
          exact gx_iret C hr hlk rfl ⟨rfl, by have q9 := law_2 (x := K 9 0) (Int32.not_lt.mpr (by assumption)); unfold hrS; rw [if_neg q9.1, if_neg q9.2]; exact (lo_no (fun q hq => hx4 q (by omega))).symm⟩ dX4_heirOf_68
        ·
          have h3 := (not_congr (nI_leI (a := (nn K)) (b := i40) (by omega) (by omega))).mp h3
          refine gx_iload_n C dX4_heirOf_51 (by rfl) (by rfl) ?_
          refine gx_iload_n C dX4_heirOf_52 (by rfl) (by rfl) ?_
          refine gx_callSI (As := [.int (bset (nn K) (inP K (nI (r + 1)))), .int (nI i40)]) (rest := []) C (c_X4_has E σ (nn K) (by omega) (inP K (nI (r + 1))) i40 (by omega)) z_X4_has (by rfl) ml_X4_71 (by rfl) (Nat.le_of_ble_eq_true rfl) ⟨Nat.le_of_ble_eq_true rfl, Nat.le_of_ble_eq_true rfl⟩ dX4_heirOf_53 (fun r4 σ4 w4 => ?_)
          obtain ⟨u1, u2⟩ := w4; rw [u1, u2]; clear u1 u2
          refine gx_if_eq (tgt := 61) C dX4_heirOf_56 (by decide) (fun h5 => ?_) (fun h5 => ?_)
          ·
            have h5 := b2_z.mp h5
            refine gx_iinc (v := nI (i40 + 1)) (lv2 := [(3, .int (nI (i40 + 1))), (0, .ref (eA E 49)), (1, .int (nI r)), (2, .int (bset (nn K) (inP K (nI (r + 1)))))]) C dX4_heirOf_61 (by rfl) (by exact nI_p1 _) (by decide) rfl ?_
            refine gx_goto (tgt := 40) C dX4_heirOf_64 (by decide) ?_
            refine gx_sub [1, 2, 3, 0] (lv' := [(0, .ref (eA E 49)), (1, .int (nI r)), (2, .int (bset (nn K) (inP K (nI (r + 1))))), (3, .int (nI (i40 + 1)))]) rfl ?_
            exact ih40 (i40 + 1) (by omega) (by omega) (lt_s hx4 (by simpa using ‹¬ inP K (nI (r + 1)) _ = true›))
          ·
            have h5 := b2_nz.mp h5
            refine gx_iload_n C dX4_heirOf_59 (by rfl) (by rfl) ?_
            exact gx_iret C hr hlk rfl ⟨rfl, by have q9 := law_2 (x := K 9 0) (Int32.not_lt.mpr (by assumption)); unfold hrS; rw [if_neg q9.1, if_neg q9.2]; exact (lo_at hx4 (by assumption) (by omega) (nn K) (by omega)).symm⟩ dX4_heirOf_60
    refine gx_sub [2, 3, 1, 0] (lv' := [(0, .ref (eA E 49)), (1, .int (nI r)), (2, .int (bset (nn K) (inP K (nI (r + 1))))), (3, .int 0)]) rfl ?_
    refine gx_lv (lv' := [(0, .ref (eA E 49)), (1, .int (nI r)), (2, .int (bset (nn K) (inP K (nI (r + 1))))), (3, .int (nI 0))]) (by rfl) ?_
    exact loop40 (nn K + 1) 0 (by omega) (by omega) (fun q hq => absurd hq (by omega))
  ·
    refine gx_aload_n C dX4_heirOf_18 (by rfl) (by rfl) ?_
    refine gx_iload_n C dX4_heirOf_19 (by rfl) (by rfl) ?_
    refine gx_aload_n C dX4_heirOf_20 (by rfl) (by rfl) ?_
    refine gx_getr (j := 50) (k := 0) C ck4 (by rfl) (by rfl) (by decide) fl_X4_9 dX4_heirOf_21 ?_
    refine gx_iconst (v := 1) C dX4_heirOf_24 (by decide) ?_
    refine gx_ialdN (k := 1) C (by rfl) (by rfl) (by decide) (by decide) dX4_heirOf_25 ?_
    refine gx_st (st' := [.int (K 9 0), .int (bset (nn K) (inP K (nI (r + 1)))), .ref (eA E 49)]) (by rw [mp_9_0 hM]) ?_
    refine gx_if_ne (tgt := 33) C dX4_heirOf_26 (by decide) (fun h6 => ?_) (fun h6 => ?_)
    ·
      refine gx_iconst (v := 4) C dX4_heirOf_33 (by decide) ?_
      refine gx_callVI (As := [.int (bset (nn K) (inP K (nI (r + 1)))), .int 4]) (rest := []) C (c_X4_greatest E σ K hM hO (inP K (nI (r + 1))) 4 (by decide)) z_X4_greatest ck4 (by rfl) (by rfl) ml_X4_129 (by rfl) (Nat.le_of_ble_eq_true rfl) ⟨Nat.le_of_ble_eq_true rfl, Nat.le_of_ble_eq_true rfl⟩ dX4_heirOf_34 (fun r7 σ7 w7 => ?_)
      obtain ⟨u1, u2⟩ := w7; rw [u1, u2]; clear u1 u2
      exact gx_iret C hr hlk rfl ⟨rfl, by unfold hrS; rw [if_neg (by assumption), if_pos (law_01 hlw (Int32.not_le.mp (by assumption)) (by assumption))]⟩ dX4_heirOf_37
    ·
      refine gx_iconst (v := 2) C dX4_heirOf_29 (by decide) ?_
      refine gx_goto (tgt := 34) C dX4_heirOf_30 (by decide) ?_
      refine gx_callVI (As := [.int (bset (nn K) (inP K (nI (r + 1)))), .int 2]) (rest := []) C (c_X4_greatest E σ K hM hO (inP K (nI (r + 1))) 2 (by decide)) z_X4_greatest ck4 (by rfl) (by rfl) ml_X4_129 (by rfl) (Nat.le_of_ble_eq_true rfl) ⟨Nat.le_of_ble_eq_true rfl, Nat.le_of_ble_eq_true rfl⟩ dX4_heirOf_34 (fun r8 σ8 w8 => ?_)
      obtain ⟨u1, u2⟩ := w8; rw [u1, u2]; clear u1 u2
      exact gx_iret C hr hlk rfl ⟨rfl, by unfold hrS; rw [if_pos (by assumption)]⟩ dX4_heirOf_37
