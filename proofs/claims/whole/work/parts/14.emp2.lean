theorem ge0 {x : Int32} (h : -1 ≤ x) (h2 : ¬ x = -1) : ¬ x < 0 := by
  intro h3
  apply h2
  rw [Int32.le_iff_toInt_le] at h
  rw [Int32.lt_iff_toInt_lt] at h3
  have h4 : (-1 : Int32).toInt = -1 := by decide
  have h5 : (0 : Int32).toInt = 0 := by decide
  apply Int32.toInt_inj.mp
  omega
theorem rk8 {K : Mm} (hO : Ok K) {q : Nat} (hq : q < nn K) (h : ¬ K 2 q = -1) : ∃ r, r < 8 ∧ K 2 q = nI r := by
  obtain ⟨-, h2, -⟩ := hO.2.1 q hq
  obtain ⟨r, h3, h4⟩ := nI_of2 (M := 7) (n := 7) (by decide) (ge0 h2.1 h) h2.2
  exact ⟨r, by omega, h4⟩
theorem has_nat {K : Mm} (hO : Ok K) {q : Int32} (h : 0 ≤ q ∧ q < K 0 0) : ∃ k, k < nn K ∧ q = nI k := by
  have h1 : ¬ q < 0 := fun h9 => Int32.not_le.mpr h9 h.1
  obtain ⟨k, h2, rfl⟩ := nI_of h1
  have h3 := h.2
  rw [hO.1.1] at h3
  have h12 := hO.1.2
  exact ⟨k, (nI_ltI h2 (by omega)).mp h3, rfl⟩
/-- those in the rank of q; nobody, if he is OUT -/
def bsP (K : Mm) (q p : Nat) : Bool := decide (¬ K 2 q = -1) && inP K (K 2 q) p
theorem mx_c {row : Nat → Int32} {P Q : Nat → Bool} {n : Nat} (h : ∀ p, p < n → P p = Q p) : mx row P n = mx row Q n := by
  induction n with
  | zero => rfl
  | succ n ih => rw [mx, mx, ih (fun p hp => h p (by omega)), h n (by omega)]
theorem mx_none {row : Nat → Int32} {P : Nat → Bool} {n : Nat} (h : ∀ p, p < n → P p = false) : mx row P n = -1 := by
  rcases mx_or row P n with h1 | ⟨b, h1, h2, h3⟩
  · exact h1
  · rw [h b h1] at h3; cases h3
theorem lo_c {P Q : Nat → Bool} {n : Nat} (h : ∀ p, p < n → P p = Q p) : lo P n = lo Q n := by
  induction n with
  | zero => rfl
  | succ n ih => rw [lo, lo, ih (fun p hp => h p (by omega)), h n (by omega)]
theorem mx_bs {K : Mm} {q : Nat} (hb : q < 2 ^ 31) : mx (K 5) (bsP K q) (nn K) = nI q ↔ (¬ K 2 q = -1 ∧ mx (K 5) (inP K (K 2 q)) (nn K) = nI q) := by
  by_cases h : K 2 q = -1
  · rw [mx_none (fun p _ => by simp [bsP, h])]
    have h2 : ¬ -1 = nI q := fun h3 => nI_m1 hb h3.symm
    simp [h, h2]
  · rw [mx_c (Q := inP K (K 2 q)) (fun p _ => by simp [bsP, h])]
    simp [h]
theorem bl_0 {K : Mm} {q : Nat} (h12 : nn K ≤ 12) (h : bset (nn K) (blP K q) = 0) : trP K q = false := by
  have h1 : ∀ p, p < nn K → agP K q p = false := fun p hp => by simp [agP, (bset_eq0 h12).mp h p hp]
  rw [trP, cnt_0.mpr h1]
  simp [nI]
set_option maxHeartbeats 4000000 in
set_option maxRecDepth 100000 in
theorem c_X0_besides (E : En) (σ : Mm) (e : Nat) (he : isE e) (K : Mm) (hK : Emp σ e K) (hO : Ok K) (q : Nat) (hq : q < nn K) : CtI E yX0_besides cX0_besides 2 (some .int) 0 0 [.ref (eA E e), .int (nI q)] σ (fun rr σ2 => σ2 = σ ∧ rr = bset (nn K) (bsP K q)) := by
  obtain ⟨⟨hn, h12⟩, hpp, hlw, hsp, hz0⟩ := id hO
  refine CtI.of (by decide +kernel) (Nat.le_of_ble_eq_true rfl) (fun p e0 s m below meth c C hr hlk => ?_)
  refine gx_lv (lv' := [(0, .ref (eA E e)), (1, .int (nI q))]) rfl ?_
  refine gx_aload_n C dX0_besides_0 (by rfl) (by rfl) ?_
  refine gx_getr (j := e + 2) (k := 1) C ck0 (sh_e he) (by rfl) (by decide) fl_X0_15 dX0_besides_1 ?_
  refine gx_iload_n C dX0_besides_4 (by rfl) (by rfl) ?_
  refine gx_ialdN (k := q) C (sh_e2 he) rfl (by omega) (by decide) dX0_besides_5 ?_
  refine gx_st (st' := [.int (K 2 q)]) (by rw [hK.r2 (p := q) (by omega)]) ?_
  refine gx_iconst (v := (-1)) C dX0_besides_6 (by decide) ?_
  refine gx_icmp_ne (tgt := 14) C dX0_besides_7 (by decide) (fun h1 => ?_) (fun h1 => ?_)
  ·
    refine gx_aload_n C dX0_besides_14 (by rfl) (by rfl) ?_
    refine gx_getr (j := e + 9) (k := 8) C ck0 (sh_e he) (by rfl) (by decide) fl_X0_36 dX0_besides_15 ?_
    refine gx_aload_n C dX0_besides_18 (by rfl) (by rfl) ?_
    refine gx_getr (j := e + 2) (k := 1) C ck0 (sh_e he) (by rfl) (by decide) fl_X0_15 dX0_besides_19 ?_
    refine gx_iload_n C dX0_besides_22 (by rfl) (by rfl) ?_
    refine gx_ialdN (k := q) C (sh_e2 he) rfl (by omega) (by decide) dX0_besides_23 ?_
    refine gx_st (st' := [.int (K 2 q), .ref (eA E (e + 9))]) (by rw [hK.r2 (p := q) (by omega)]) ?_
    obtain ⟨r2, hr2, er2⟩ := rk8 hO hq (by assumption)
    refine gx_st (st' := [.int (nI r2), .ref (eA E (e + 9))]) (by rw [er2]) ?_
    refine gx_ialdN (k := r2) C (sh_e9 he) rfl (by omega) (by decide) dX0_besides_24 ?_
    refine gx_st (st' := [.int (bset (nn K) (inP K (nI r2)))]) (by rw [hK.in (r := r2) (by omega)]) ?_
    exact gx_iret C hr hlk rfl ⟨rfl, bset_c (fun p hp => by simp only [bsP, er2]; rw [decide_eq_true (nI_m1 (by omega)), Bool.true_and])⟩ dX0_besides_25
  ·
    refine gx_iconst (v := 0) C dX0_besides_10 (by decide) ?_
    refine gx_goto (tgt := 25) C dX0_besides_11 (by decide) ?_
    exact gx_iret C hr hlk rfl ⟨rfl, ((bset_eq0 h12).mpr (fun p hp => by simp [bsP, *])).symm⟩ dX0_besides_25
set_option maxHeartbeats 4000000 in
set_option maxRecDepth 100000 in
theorem c_X0_isElderTwoAbove (E : En) (σ : Mm) (e : Nat) (he : isE e) (K : Mm) (hK : Emp σ e K) (hO : Ok K) (q : Nat) (hq : q < nn K) (t : Nat) (ht : t < nn K) : CtI E yX0_isElderTwoAbove cX0_isElderTwoAbove 3 (some .boolean) 0 0 [.ref (eA E e), .int (nI q), .int (nI t)] σ (fun rr σ2 => σ2 = σ ∧ rr = b2 (¬ K 2 q = -1 ∧ K 2 q = K 2 t - 2 ∧ K 3 t < K 3 q)) := by
  obtain ⟨⟨hn, h12⟩, hpp, hlw, hsp, hz0⟩ := id hO
  refine CtI.of (by decide +kernel) (Nat.le_of_ble_eq_true rfl) (fun p e0 s m below meth c C hr hlk => ?_)
  refine gx_lv (lv' := [(0, .ref (eA E e)), (1, .int (nI q)), (2, .int (nI t))]) rfl ?_
  refine gx_aload_n C dX0_isElderTwoAbove_0 (by rfl) (by rfl) ?_
  refine gx_getr (j := e + 2) (k := 1) C ck0 (sh_e he) (by rfl) (by decide) fl_X0_15 dX0_isElderTwoAbove_1 ?_
  refine gx_iload_n C dX0_isElderTwoAbove_4 (by rfl) (by rfl) ?_
  refine gx_ialdN (k := q) C (sh_e2 he) rfl (by omega) (by decide) dX0_isElderTwoAbove_5 ?_
  refine gx_st (st' := [.int (K 2 q)]) (by rw [hK.r2 (p := q) (by omega)]) ?_
  refine gx_iconst (v := (-1)) C dX0_isElderTwoAbove_6 (by decide) ?_
  refine gx_icmp_eq (tgt := 46) C dX0_isElderTwoAbove_7 (by decide) (fun h1 => ?_) (fun h1 => ?_)
  ·
    refine gx_iconst (v := 0) C dX0_isElderTwoAbove_46 (by decide) ?_
    exact gx_iret C hr hlk (by first | rfl | exact nb_b2 _) ⟨rfl, by first | exact b2_t (by grind) | exact b2_f (by grind)⟩ dX0_isElderTwoAbove_47
  ·
    refine gx_aload_n C dX0_isElderTwoAbove_10 (by rfl) (by rfl) ?_
    refine gx_getr (j := e + 2) (k := 1) C ck0 (sh_e he) (by rfl) (by decide) fl_X0_15 dX0_isElderTwoAbove_11 ?_
    refine gx_iload_n C dX0_isElderTwoAbove_14 (by rfl) (by rfl) ?_
    refine gx_ialdN (k := q) C (sh_e2 he) rfl (by omega) (by decide) dX0_isElderTwoAbove_15 ?_
    refine gx_st (st' := [.int (K 2 q)]) (by rw [hK.r2 (p := q) (by omega)]) ?_
    refine gx_aload_n C dX0_isElderTwoAbove_16 (by rfl) (by rfl) ?_
    refine gx_getr (j := e + 2) (k := 1) C ck0 (sh_e he) (by rfl) (by decide) fl_X0_15 dX0_isElderTwoAbove_17 ?_
    refine gx_iload_n C dX0_isElderTwoAbove_20 (by rfl) (by rfl) ?_
    refine gx_ialdN (k := t) C (sh_e2 he) rfl (by omega) (by decide) dX0_isElderTwoAbove_21 ?_
    refine gx_st (st' := [.int (K 2 t), .int (K 2 q)]) (by rw [hK.r2 (p := t) (by omega)]) ?_
    refine gx_iconst (v := 2) C dX0_isElderTwoAbove_22 (by decide) ?_
    refine gx_isub C dX0_isElderTwoAbove_23 ?_
    refine gx_icmp_ne (tgt := 46) C dX0_isElderTwoAbove_24 (by decide) (fun h2 => ?_) (fun h2 => ?_)
    ·
      refine gx_iconst (v := 0) C dX0_isElderTwoAbove_46 (by decide) ?_
      exact gx_iret C hr hlk (by first | rfl | exact nb_b2 _) ⟨rfl, by first | exact b2_t (by grind) | exact b2_f (by grind)⟩ dX0_isElderTwoAbove_47
    ·
      refine gx_aload_n C dX0_isElderTwoAbove_27 (by rfl) (by rfl) ?_
      refine gx_getr (j := e + 3) (k := 2) C ck0 (sh_e he) (by rfl) (by decide) fl_X0_18 dX0_isElderTwoAbove_28 ?_
      refine gx_iload_n C dX0_isElderTwoAbove_31 (by rfl) (by rfl) ?_
      refine gx_ialdN (k := q) C (sh_e3 he) rfl (by omega) (by decide) dX0_isElderTwoAbove_32 ?_
      refine gx_st (st' := [.int (K 3 q)]) (by rw [hK.r3 (p := q) (by omega)]) ?_
      refine gx_aload_n C dX0_isElderTwoAbove_33 (by rfl) (by rfl) ?_
      refine gx_getr (j := e + 3) (k := 2) C ck0 (sh_e he) (by rfl) (by decide) fl_X0_18 dX0_isElderTwoAbove_34 ?_
      refine gx_iload_n C dX0_isElderTwoAbove_37 (by rfl) (by rfl) ?_
      refine gx_ialdN (k := t) C (sh_e3 he) rfl (by omega) (by decide) dX0_isElderTwoAbove_38 ?_
      refine gx_st (st' := [.int (K 3 t), .int (K 3 q)]) (by rw [hK.r3 (p := t) (by omega)]) ?_
      refine gx_icmp_le (tgt := 46) C dX0_isElderTwoAbove_39 (by decide) (fun h3 => ?_) (fun h3 => ?_)
      ·
        refine gx_iconst (v := 0) C dX0_isElderTwoAbove_46 (by decide) ?_
        exact gx_iret C hr hlk (by first | rfl | exact nb_b2 _) ⟨rfl, by first | exact b2_t (by grind) | exact b2_f (by grind)⟩ dX0_isElderTwoAbove_47
      ·
        refine gx_iconst (v := 1) C dX0_isElderTwoAbove_42 (by decide) ?_
        refine gx_goto (tgt := 47) C dX0_isElderTwoAbove_43 (by decide) ?_
        exact gx_iret C hr hlk (by first | rfl | exact nb_b2 _) ⟨rfl, by first | exact b2_t (by grind) | exact b2_f (by grind)⟩ dX0_isElderTwoAbove_47
set_option maxHeartbeats 4000000 in
set_option maxRecDepth 100000 in
theorem c_X0_isWanting (E : En) (σ : Mm) (e : Nat) (he : isE e) (K : Mm) (hK : Emp σ e K) (hO : Ok K) (t : Nat) (ht : t < nn K) (q : Nat) (hq : q < nn K) : CtI E yX0_isWanting cX0_isWanting 3 (some .boolean) 1 24 [.ref (eA E e), .int (nI t), .int (nI q)] σ (fun rr σ2 => σ2 = σ ∧ rr = b2 (wn K t q = true)) := by
  obtain ⟨⟨hn, h12⟩, hpp, hlw, hsp, hz0⟩ := id hO
  refine CtI.of (by decide +kernel) (Nat.le_of_ble_eq_true rfl) (fun p e0 s m below meth c C hr hlk => ?_)
  refine gx_lv (lv' := [(0, .ref (eA E e)), (1, .int (nI t)), (2, .int (nI q))]) rfl ?_
  refine gx_aload_n C dX0_isWanting_0 (by rfl) (by rfl) ?_
  refine gx_getr (j := e + 1) (k := 0) C ck0 (sh_e he) (by rfl) (by decide) fl_X0_9 dX0_isWanting_1 ?_
  refine gx_iload_n C dX0_isWanting_4 (by rfl) (by rfl) ?_
  refine gx_ialdN (k := t) C (sh_e1 he) rfl (by omega) (by decide) dX0_isWanting_5 ?_
  refine gx_st (st' := [.int (K 1 t)]) (by rw [hK.r1 (p := t) (by omega)]) ?_
  rcases sw_split (K 1 t) (0) 5 6 (by decide) with h1 | h1
  ·
    refine gx_tabOut (tgt := 195) C dX0_isWanting_6 h1 (by decide) ?_
    have qd1 : ¬ K 1 t = 0 ∧ ¬ K 1 t = 1 ∧ ¬ K 1 t = 2 ∧ ¬ K 1 t = 3 ∧ ¬ K 1 t = 4 ∧ ¬ K 1 t = 5 := by refine ⟨?_, ?_, ?_, ?_, ?_, ?_⟩ <;> (intro q9; rw [q9] at h1; revert h1; decide)
    refine gx_iconst (v := 0) C dX0_isWanting_195 (by decide) ?_
    exact gx_iret C hr hlk (by first | rfl | exact nb_b2 _) ⟨rfl, by first | exact b2_t (by simp only [wn, mx_bs (K := K) (q := q) (by omega)] at *; grind) | exact b2_f (by simp only [wn, mx_bs (K := K) (q := q) (by omega)] at *; grind)⟩ dX0_isWanting_196
  ·
    obtain ⟨j1, hj1, ej1⟩ := h1
    have hj1 := hj1
    match j1, hj1, ej1 with
    | 0, _, ej1 =>
      have ex1 : K 1 t = (0 : Int32) := ej1.trans (by decide)
      refine gx_tabIn (off := 38) (tgt := 44) C dX0_isWanting_6 (by rw [ex1]; decide) (by rw [ex1]; decide) (by rw [ex1]; decide) (by decide) ?_
      refine gx_aload_n C dX0_isWanting_44 (by rfl) (by rfl) ?_
      refine gx_getr (j := e + 6) (k := 5) C ck0 (sh_e he) (by rfl) (by decide) fl_X0_27 dX0_isWanting_45 ?_
      refine gx_iload_n C dX0_isWanting_48 (by rfl) (by rfl) ?_
      refine gx_ialdN (k := t) C (sh_e6 he) rfl (by omega) (by decide) dX0_isWanting_49 ?_
      refine gx_st (st' := [.int (K 6 t)]) (by rw [hK.r6 (p := t) (by omega)]) ?_
      refine gx_iload_n C dX0_isWanting_50 (by rfl) (by rfl) ?_
      refine gx_icmp_ne (tgt := 58) C dX0_isWanting_51 (by decide) (fun h2 => ?_) (fun h2 => ?_)
      ·
        refine gx_iconst (v := 0) C dX0_isWanting_58 (by decide) ?_
        exact gx_iret C hr hlk (by first | rfl | exact nb_b2 _) ⟨rfl, by first | exact b2_t (by simp only [wn, mx_bs (K := K) (q := q) (by omega)] at *; grind) | exact b2_f (by simp only [wn, mx_bs (K := K) (q := q) (by omega)] at *; grind)⟩ dX0_isWanting_59
      ·
        refine gx_iconst (v := 1) C dX0_isWanting_54 (by decide) ?_
        refine gx_goto (tgt := 59) C dX0_isWanting_55 (by decide) ?_
        exact gx_iret C hr hlk (by first | rfl | exact nb_b2 _) ⟨rfl, by first | exact b2_t (by simp only [wn, mx_bs (K := K) (q := q) (by omega)] at *; grind) | exact b2_f (by simp only [wn, mx_bs (K := K) (q := q) (by omega)] at *; grind)⟩ dX0_isWanting_59
    | 1, _, ej1 =>
      have ex1 : K 1 t = (1 : Int32) := ej1.trans (by decide)
      refine gx_tabIn (off := 189) (tgt := 195) C dX0_isWanting_6 (by rw [ex1]; decide) (by rw [ex1]; decide) (by rw [ex1]; decide) (by decide) ?_
      refine gx_iconst (v := 0) C dX0_isWanting_195 (by decide) ?_
      exact gx_iret C hr hlk (by first | rfl | exact nb_b2 _) ⟨rfl, by first | exact b2_t (by simp only [wn, mx_bs (K := K) (q := q) (by omega)] at *; grind) | exact b2_f (by simp only [wn, mx_bs (K := K) (q := q) (by omega)] at *; grind)⟩ dX0_isWanting_196
    | 2, _, ej1 =>
      have ex1 : K 1 t = (2 : Int32) := ej1.trans (by decide)
      refine gx_tabIn (off := 54) (tgt := 60) C dX0_isWanting_6 (by rw [ex1]; decide) (by rw [ex1]; decide) (by rw [ex1]; decide) (by decide) ?_
      refine gx_aload_n C dX0_isWanting_60 (by rfl) (by rfl) ?_
      refine gx_getr (j := e + 6) (k := 5) C ck0 (sh_e he) (by rfl) (by decide) fl_X0_27 dX0_isWanting_61 ?_
      refine gx_iload_n C dX0_isWanting_64 (by rfl) (by rfl) ?_
      refine gx_ialdN (k := t) C (sh_e6 he) rfl (by omega) (by decide) dX0_isWanting_65 ?_
      refine gx_st (st' := [.int (K 6 t)]) (by rw [hK.r6 (p := t) (by omega)]) ?_
      refine gx_iload_n C dX0_isWanting_66 (by rfl) (by rfl) ?_
      refine gx_icmp_ne (tgt := 89) C dX0_isWanting_67 (by decide) (fun h3 => ?_) (fun h3 => ?_)
      ·
        refine gx_iconst (v := 0) C dX0_isWanting_89 (by decide) ?_
        exact gx_iret C hr hlk (by first | rfl | exact nb_b2 _) ⟨rfl, by first | exact b2_t (by simp only [wn, mx_bs (K := K) (q := q) (by omega)] at *; grind) | exact b2_f (by simp only [wn, mx_bs (K := K) (q := q) (by omega)] at *; grind)⟩ dX0_isWanting_90
      ·
        refine gx_aload_n C dX0_isWanting_70 (by rfl) (by rfl) ?_
        refine gx_getr (j := e + 7) (k := 6) C ck0 (sh_e he) (by rfl) (by decide) fl_X0_30 dX0_isWanting_71 ?_
        refine gx_iload_n C dX0_isWanting_74 (by rfl) (by rfl) ?_
        refine gx_ialdN (k := t) C (sh_e7 he) rfl (by omega) (by decide) dX0_isWanting_75 ?_
        refine gx_st (st' := [.int (K 7 t)]) (by rw [hK.r7 (p := t) (by omega)]) ?_
        refine gx_aload_n C dX0_isWanting_76 (by rfl) (by rfl) ?_
        refine gx_getr (j := e + 10) (k := 9) C ck0 (sh_e he) (by rfl) (by decide) fl_X0_39 dX0_isWanting_77 ?_
        refine gx_iconst (v := 2) C dX0_isWanting_80 (by decide) ?_
        refine gx_ialdN (k := 2) C (sh_e10 he) (by rfl) (by decide) (by decide) dX0_isWanting_81 ?_
        refine gx_st (st' := [.int (K 9 2), .int (K 7 t)]) (by rw [hK.r9 (p := 2) (by omega)]) ?_
        refine gx_icmp_ge (tgt := 89) C dX0_isWanting_82 (by decide) (fun h4 => ?_) (fun h4 => ?_)
        ·
          refine gx_iconst (v := 0) C dX0_isWanting_89 (by decide) ?_
          exact gx_iret C hr hlk (by first | rfl | exact nb_b2 _) ⟨rfl, by first | exact b2_t (by simp only [wn, mx_bs (K := K) (q := q) (by omega)] at *; grind) | exact b2_f (by simp only [wn, mx_bs (K := K) (q := q) (by omega)] at *; grind)⟩ dX0_isWanting_90
        ·
          refine gx_iconst (v := 1) C dX0_isWanting_85 (by decide) ?_
          refine gx_goto (tgt := 90) C dX0_isWanting_86 (by decide) ?_
          exact gx_iret C hr hlk (by first | rfl | exact nb_b2 _) ⟨rfl, by first | exact b2_t (by simp only [wn, mx_bs (K := K) (q := q) (by omega)] at *; grind) | exact b2_f (by simp only [wn, mx_bs (K := K) (q := q) (by omega)] at *; grind)⟩ dX0_isWanting_90
    | 3, _, ej1 =>
      have ex1 : K 1 t = (3 : Int32) := ej1.trans (by decide)
      refine gx_tabIn (off := 85) (tgt := 91) C dX0_isWanting_6 (by rw [ex1]; decide) (by rw [ex1]; decide) (by rw [ex1]; decide) (by decide) ?_
      refine gx_aload_n C dX0_isWanting_91 (by rfl) (by rfl) ?_
      refine gx_getr (j := e + 6) (k := 5) C ck0 (sh_e he) (by rfl) (by decide) fl_X0_27 dX0_isWanting_92 ?_
      refine gx_iload_n C dX0_isWanting_95 (by rfl) (by rfl) ?_
      refine gx_ialdN (k := t) C (sh_e6 he) rfl (by omega) (by decide) dX0_isWanting_96 ?_
      refine gx_st (st' := [.int (K 6 t)]) (by rw [hK.r6 (p := t) (by omega)]) ?_
      refine gx_iload_n C dX0_isWanting_97 (by rfl) (by rfl) ?_
      refine gx_icmp_ne (tgt := 116) C dX0_isWanting_98 (by decide) (fun h5 => ?_) (fun h5 => ?_)
      ·
        refine gx_aload_n C dX0_isWanting_116 (by rfl) (by rfl) ?_
        refine gx_aload_n C dX0_isWanting_117 (by rfl) (by rfl) ?_
        refine gx_getr (j := e + 5) (k := 4) C ck0 (sh_e he) (by rfl) (by decide) fl_X0_24 dX0_isWanting_118 ?_
        refine gx_aload_n C dX0_isWanting_121 (by rfl) (by rfl) ?_
        refine gx_iload_n C dX0_isWanting_122 (by rfl) (by rfl) ?_
        refine gx_callVI (As := [.int (nI q)]) (rest := [.ref (eA E (e + 5)), .ref (eA E e)]) C (c_X0_besides E σ e he K hK hO q (by omega)) z_X0_besides ck0 (sh_e he) (by rfl) ml_X0_90 (by rfl) (Nat.le_of_ble_eq_true rfl) ⟨Nat.le_of_ble_eq_true rfl, Nat.le_of_ble_eq_true rfl⟩ dX0_isWanting_123 (fun r6 σ6 w6 => ?_)
        obtain ⟨u1, u2⟩ := w6; rw [u1, u2]; clear u1 u2
        refine gx_callVI (As := [.ref (eA E (e + 5)), .int (bset (nn K) (bsP K q))]) (rest := []) C (c_X0_mostBy E σ e he K hK hO 5 (by decide) (bsP K q)) z_X0_mostBy ck0 (sh_e he) (by rfl) ml_X0_93 (by rfl) (Nat.le_of_ble_eq_true rfl) ⟨Nat.le_of_ble_eq_true rfl, Nat.le_of_ble_eq_true rfl⟩ dX0_isWanting_126 (fun r7 σ7 w7 => ?_)
        obtain ⟨u1, u2⟩ := w7; rw [u1, u2]; clear u1 u2
        refine gx_iload_n C dX0_isWanting_129 (by rfl) (by rfl) ?_
        refine gx_icmp_ne (tgt := 137) C dX0_isWanting_130 (by decide) (fun h8 => ?_) (fun h8 => ?_)
        ·
          refine gx_iconst (v := 0) C dX0_isWanting_137 (by decide) ?_
          exact gx_iret C hr hlk (by first | rfl | exact nb_b2 _) ⟨rfl, by first | exact b2_t (by simp only [wn, mx_bs (K := K) (q := q) (by omega)] at *; grind) | exact b2_f (by simp only [wn, mx_bs (K := K) (q := q) (by omega)] at *; grind)⟩ dX0_isWanting_138
        ·
          refine gx_iconst (v := 1) C dX0_isWanting_133 (by decide) ?_
          refine gx_goto (tgt := 138) C dX0_isWanting_134 (by decide) ?_
          exact gx_iret C hr hlk (by first | rfl | exact nb_b2 _) ⟨rfl, by first | exact b2_t (by simp only [wn, mx_bs (K := K) (q := q) (by omega)] at *; grind) | exact b2_f (by simp only [wn, mx_bs (K := K) (q := q) (by omega)] at *; grind)⟩ dX0_isWanting_138
      ·
        refine gx_aload_n C dX0_isWanting_101 (by rfl) (by rfl) ?_
        refine gx_getr (j := e + 7) (k := 6) C ck0 (sh_e he) (by rfl) (by decide) fl_X0_30 dX0_isWanting_102 ?_
        refine gx_iload_n C dX0_isWanting_105 (by rfl) (by rfl) ?_
        refine gx_ialdN (k := t) C (sh_e7 he) rfl (by omega) (by decide) dX0_isWanting_106 ?_
        refine gx_st (st' := [.int (K 7 t)]) (by rw [hK.r7 (p := t) (by omega)]) ?_
        refine gx_aload_n C dX0_isWanting_107 (by rfl) (by rfl) ?_
        refine gx_getr (j := e + 10) (k := 9) C ck0 (sh_e he) (by rfl) (by decide) fl_X0_39 dX0_isWanting_108 ?_
        refine gx_iconst (v := 2) C dX0_isWanting_111 (by decide) ?_
        refine gx_ialdN (k := 2) C (sh_e10 he) (by rfl) (by decide) (by decide) dX0_isWanting_112 ?_
        refine gx_st (st' := [.int (K 9 2), .int (K 7 t)]) (by rw [hK.r9 (p := 2) (by omega)]) ?_
        refine gx_icmp_lt (tgt := 133) C dX0_isWanting_113 (by decide) (fun h9 => ?_) (fun h9 => ?_)
        ·
          refine gx_iconst (v := 1) C dX0_isWanting_133 (by decide) ?_
          refine gx_goto (tgt := 138) C dX0_isWanting_134 (by decide) ?_
          exact gx_iret C hr hlk (by first | rfl | exact nb_b2 _) ⟨rfl, by first | exact b2_t (by simp only [wn, mx_bs (K := K) (q := q) (by omega)] at *; grind) | exact b2_f (by simp only [wn, mx_bs (K := K) (q := q) (by omega)] at *; grind)⟩ dX0_isWanting_138
        ·
          refine gx_aload_n C dX0_isWanting_116 (by rfl) (by rfl) ?_
          refine gx_aload_n C dX0_isWanting_117 (by rfl) (by rfl) ?_
          refine gx_getr (j := e + 5) (k := 4) C ck0 (sh_e he) (by rfl) (by decide) fl_X0_24 dX0_isWanting_118 ?_
          refine gx_aload_n C dX0_isWanting_121 (by rfl) (by rfl) ?_
          refine gx_iload_n C dX0_isWanting_122 (by rfl) (by rfl) ?_
          refine gx_callVI (As := [.int (nI q)]) (rest := [.ref (eA E (e + 5)), .ref (eA E e)]) C (c_X0_besides E σ e he K hK hO q (by omega)) z_X0_besides ck0 (sh_e he) (by rfl) ml_X0_90 (by rfl) (Nat.le_of_ble_eq_true rfl) ⟨Nat.le_of_ble_eq_true rfl, Nat.le_of_ble_eq_true rfl⟩ dX0_isWanting_123 (fun r10 σ10 w10 => ?_)
          obtain ⟨u1, u2⟩ := w10; rw [u1, u2]; clear u1 u2
          refine gx_callVI (As := [.ref (eA E (e + 5)), .int (bset (nn K) (bsP K q))]) (rest := []) C (c_X0_mostBy E σ e he K hK hO 5 (by decide) (bsP K q)) z_X0_mostBy ck0 (sh_e he) (by rfl) ml_X0_93 (by rfl) (Nat.le_of_ble_eq_true rfl) ⟨Nat.le_of_ble_eq_true rfl, Nat.le_of_ble_eq_true rfl⟩ dX0_isWanting_126 (fun r11 σ11 w11 => ?_)
          obtain ⟨u1, u2⟩ := w11; rw [u1, u2]; clear u1 u2
          refine gx_iload_n C dX0_isWanting_129 (by rfl) (by rfl) ?_
          refine gx_icmp_ne (tgt := 137) C dX0_isWanting_130 (by decide) (fun h12 => ?_) (fun h12 => ?_)
          ·
            refine gx_iconst (v := 0) C dX0_isWanting_137 (by decide) ?_
            exact gx_iret C hr hlk (by first | rfl | exact nb_b2 _) ⟨rfl, by first | exact b2_t (by simp only [wn, mx_bs (K := K) (q := q) (by omega)] at *; grind) | exact b2_f (by simp only [wn, mx_bs (K := K) (q := q) (by omega)] at *; grind)⟩ dX0_isWanting_138
          ·
            refine gx_iconst (v := 1) C dX0_isWanting_133 (by decide) ?_
            refine gx_goto (tgt := 138) C dX0_isWanting_134 (by decide) ?_
            exact gx_iret C hr hlk (by first | rfl | exact nb_b2 _) ⟨rfl, by first | exact b2_t (by simp only [wn, mx_bs (K := K) (q := q) (by omega)] at *; grind) | exact b2_f (by simp only [wn, mx_bs (K := K) (q := q) (by omega)] at *; grind)⟩ dX0_isWanting_138
    | 4, _, ej1 =>
      have ex1 : K 1 t = (4 : Int32) := ej1.trans (by decide)
      refine gx_tabIn (off := 133) (tgt := 139) C dX0_isWanting_6 (by rw [ex1]; decide) (by rw [ex1]; decide) (by rw [ex1]; decide) (by decide) ?_
      refine gx_aload_n C dX0_isWanting_139 (by rfl) (by rfl) ?_
      refine gx_getr (j := e + 6) (k := 5) C ck0 (sh_e he) (by rfl) (by decide) fl_X0_27 dX0_isWanting_140 ?_
      refine gx_iload_n C dX0_isWanting_143 (by rfl) (by rfl) ?_
      refine gx_ialdN (k := t) C (sh_e6 he) rfl (by omega) (by decide) dX0_isWanting_144 ?_
      refine gx_st (st' := [.int (K 6 t)]) (by rw [hK.r6 (p := t) (by omega)]) ?_
      refine gx_iload_n C dX0_isWanting_145 (by rfl) (by rfl) ?_
      refine gx_icmp_ne (tgt := 168) C dX0_isWanting_146 (by decide) (fun h13 => ?_) (fun h13 => ?_)
      ·
        refine gx_iconst (v := 0) C dX0_isWanting_168 (by decide) ?_
        exact gx_iret C hr hlk (by first | rfl | exact nb_b2 _) ⟨rfl, by first | exact b2_t (by simp only [wn, mx_bs (K := K) (q := q) (by omega)] at *; grind) | exact b2_f (by simp only [wn, mx_bs (K := K) (q := q) (by omega)] at *; grind)⟩ dX0_isWanting_169
      ·
        refine gx_aload_n C dX0_isWanting_149 (by rfl) (by rfl) ?_
        refine gx_getr (j := e + 4) (k := 3) C ck0 (sh_e he) (by rfl) (by decide) fl_X0_21 dX0_isWanting_150 ?_
        refine gx_iload_n C dX0_isWanting_153 (by rfl) (by rfl) ?_
        refine gx_ialdN (k := t) C (sh_e4 he) rfl (by omega) (by decide) dX0_isWanting_154 ?_
        refine gx_st (st' := [.int (K 4 t)]) (by rw [hK.r4 (p := t) (by omega)]) ?_
        refine gx_aload_n C dX0_isWanting_155 (by rfl) (by rfl) ?_
        refine gx_getr (j := e + 4) (k := 3) C ck0 (sh_e he) (by rfl) (by decide) fl_X0_21 dX0_isWanting_156 ?_
        refine gx_iload_n C dX0_isWanting_159 (by rfl) (by rfl) ?_
        refine gx_ialdN (k := q) C (sh_e4 he) rfl (by omega) (by decide) dX0_isWanting_160 ?_
        refine gx_st (st' := [.int (K 4 q), .int (K 4 t)]) (by rw [hK.r4 (p := q) (by omega)]) ?_
        refine gx_icmp_eq (tgt := 168) C dX0_isWanting_161 (by decide) (fun h14 => ?_) (fun h14 => ?_)
        ·
          refine gx_iconst (v := 0) C dX0_isWanting_168 (by decide) ?_
          exact gx_iret C hr hlk (by first | rfl | exact nb_b2 _) ⟨rfl, by first | exact b2_t (by simp only [wn, mx_bs (K := K) (q := q) (by omega)] at *; grind) | exact b2_f (by simp only [wn, mx_bs (K := K) (q := q) (by omega)] at *; grind)⟩ dX0_isWanting_169
        ·
          refine gx_iconst (v := 1) C dX0_isWanting_164 (by decide) ?_
          refine gx_goto (tgt := 169) C dX0_isWanting_165 (by decide) ?_
          exact gx_iret C hr hlk (by first | rfl | exact nb_b2 _) ⟨rfl, by first | exact b2_t (by simp only [wn, mx_bs (K := K) (q := q) (by omega)] at *; grind) | exact b2_f (by simp only [wn, mx_bs (K := K) (q := q) (by omega)] at *; grind)⟩ dX0_isWanting_169
    | 5, _, ej1 =>
      have ex1 : K 1 t = (5 : Int32) := ej1.trans (by decide)
      refine gx_tabIn (off := 164) (tgt := 170) C dX0_isWanting_6 (by rw [ex1]; decide) (by rw [ex1]; decide) (by rw [ex1]; decide) (by decide) ?_
      refine gx_aload_n C dX0_isWanting_170 (by rfl) (by rfl) ?_
      refine gx_getr (j := e + 6) (k := 5) C ck0 (sh_e he) (by rfl) (by decide) fl_X0_27 dX0_isWanting_171 ?_
      refine gx_iload_n C dX0_isWanting_174 (by rfl) (by rfl) ?_
      refine gx_ialdN (k := t) C (sh_e6 he) rfl (by omega) (by decide) dX0_isWanting_175 ?_
      refine gx_st (st' := [.int (K 6 t)]) (by rw [hK.r6 (p := t) (by omega)]) ?_
      refine gx_iload_n C dX0_isWanting_176 (by rfl) (by rfl) ?_
      refine gx_icmp_eq (tgt := 189) C dX0_isWanting_177 (by decide) (fun h15 => ?_) (fun h15 => ?_)
      ·
        refine gx_iconst (v := 1) C dX0_isWanting_189 (by decide) ?_
        refine gx_goto (tgt := 194) C dX0_isWanting_190 (by decide) ?_
        exact gx_iret C hr hlk (by first | rfl | exact nb_b2 _) ⟨rfl, by first | exact b2_t (by simp only [wn, mx_bs (K := K) (q := q) (by omega)] at *; grind) | exact b2_f (by simp only [wn, mx_bs (K := K) (q := q) (by omega)] at *; grind)⟩ dX0_isWanting_194
      ·
        refine gx_aload_n C dX0_isWanting_180 (by rfl) (by rfl) ?_
        refine gx_iload_n C dX0_isWanting_181 (by rfl) (by rfl) ?_
        refine gx_iload_n C dX0_isWanting_182 (by rfl) (by rfl) ?_
        refine gx_callVI (As := [.int (nI q), .int (nI t)]) (rest := []) C (c_X0_isElderTwoAbove E σ e he K hK hO q (by omega) t (by omega)) z_X0_isElderTwoAbove ck0 (sh_e he) (by rfl) ml_X0_97 (by rfl) (Nat.le_of_ble_eq_true rfl) ⟨Nat.le_of_ble_eq_true rfl, Nat.le_of_ble_eq_true rfl⟩ dX0_isWanting_183 (fun r16 σ16 w16 => ?_)
        obtain ⟨u1, u2⟩ := w16; rw [u1, u2]; clear u1 u2
        refine gx_if_eq (tgt := 193) C dX0_isWanting_186 (by decide) (fun h17 => ?_) (fun h17 => ?_)
        ·
          have h17 := b2_z.mp h17
          refine gx_iconst (v := 0) C dX0_isWanting_193 (by decide) ?_
          exact gx_iret C hr hlk (by first | rfl | exact nb_b2 _) ⟨rfl, by first | exact b2_t (by simp only [wn, mx_bs (K := K) (q := q) (by omega)] at *; grind) | exact b2_f (by simp only [wn, mx_bs (K := K) (q := q) (by omega)] at *; grind)⟩ dX0_isWanting_194
        ·
          have h17 := b2_nz.mp h17
          refine gx_iconst (v := 1) C dX0_isWanting_189 (by decide) ?_
          refine gx_goto (tgt := 194) C dX0_isWanting_190 (by decide) ?_
          exact gx_iret C hr hlk (by first | rfl | exact nb_b2 _) ⟨rfl, by first | exact b2_t (by simp only [wn, mx_bs (K := K) (q := q) (by omega)] at *; grind) | exact b2_f (by simp only [wn, mx_bs (K := K) (q := q) (by omega)] at *; grind)⟩ dX0_isWanting_194
    | j + 6, hj, _ => exact absurd hj (by omega)
set_option maxHeartbeats 4000000 in
set_option maxRecDepth 100000 in
theorem c_X0_isEnough (E : En) (σ : Mm) (e : Nat) (he : isE e) (K : Mm) (hK : Emp σ e K) (hO : Ok K) (x y : Int32) : CtI E yX0_isEnough cX0_isEnough 3 (some .boolean) 0 0 [.ref (eA E e), .int x, .int y] σ (fun rr σ2 => σ2 = σ ∧ rr = b2 (0 < x ∧ y ≤ x * K 9 1)) := by
  obtain ⟨⟨hn, h12⟩, hpp, hlw, hsp, hz0⟩ := id hO
  refine CtI.of (by decide +kernel) (Nat.le_of_ble_eq_true rfl) (fun p e0 s m below meth c C hr hlk => ?_)
  refine gx_lv (lv' := [(0, .ref (eA E e)), (1, .int x), (2, .int y)]) rfl ?_
  refine gx_iload_n C dX0_isEnough_0 (by rfl) (by rfl) ?_
  refine gx_if_le (tgt := 20) C dX0_isEnough_1 (by decide) (fun h1 => ?_) (fun h1 => ?_)
  ·
    refine gx_iconst (v := 0) C dX0_isEnough_20 (by decide) ?_
    exact gx_iret C hr hlk (by first | rfl | exact nb_b2 _) ⟨rfl, by first | exact b2_t (by grind) | exact b2_f (by grind)⟩ dX0_isEnough_21
  ·
    refine gx_iload_n C dX0_isEnough_4 (by rfl) (by rfl) ?_
    refine gx_aload_n C dX0_isEnough_5 (by rfl) (by rfl) ?_
    refine gx_getr (j := e + 10) (k := 9) C ck0 (sh_e he) (by rfl) (by decide) fl_X0_39 dX0_isEnough_6 ?_
    refine gx_iconst (v := 1) C dX0_isEnough_9 (by decide) ?_
    refine gx_ialdN (k := 1) C (sh_e10 he) (by rfl) (by decide) (by decide) dX0_isEnough_10 ?_
    refine gx_st (st' := [.int (K 9 1), .int x]) (by rw [hK.r9 (p := 1) (by omega)]) ?_
    refine gx_imul C dX0_isEnough_11 ?_
    refine gx_iload_n C dX0_isEnough_12 (by rfl) (by rfl) ?_
    refine gx_icmp_lt (tgt := 20) C dX0_isEnough_13 (by decide) (fun h2 => ?_) (fun h2 => ?_)
    ·
      refine gx_iconst (v := 0) C dX0_isEnough_20 (by decide) ?_
      exact gx_iret C hr hlk (by first | rfl | exact nb_b2 _) ⟨rfl, by first | exact b2_t (by grind) | exact b2_f (by grind)⟩ dX0_isEnough_21
    ·
      refine gx_iconst (v := 1) C dX0_isEnough_16 (by decide) ?_
      refine gx_goto (tgt := 21) C dX0_isEnough_17 (by decide) ?_
      exact gx_iret C hr hlk (by first | rfl | exact nb_b2 _) ⟨rfl, by first | exact b2_t (by grind) | exact b2_f (by grind)⟩ dX0_isEnough_21
set_option maxHeartbeats 4000000 in
set_option maxRecDepth 100000 in
theorem c_X0_wanting (E : En) (σ : Mm) (e : Nat) (he : isE e) (K : Mm) (hK : Emp σ e K) (hO : Ok K) (P : Nat → Bool) (q : Nat) (hq : q < nn K) : CtI E yX0_wanting cX0_wanting 5 (some .int) 2 46 [.ref (eA E e), .int (bset (nn K) P), .int (nI q)] σ (fun rr σ2 => σ2 = σ ∧ rr = bset (nn K) (fun t => P t && wn K t q)) := by
  obtain ⟨⟨hn, h12⟩, hpp, hlw, hsp, hz0⟩ := id hO
  refine CtI.of (by decide +kernel) (Nat.le_of_ble_eq_true rfl) (fun p e0 s m below meth c C hr hlk => ?_)
  refine gx_lv (lv' := [(0, .ref (eA E e)), (1, .int (bset (nn K) P)), (2, .int (nI q))]) rfl ?_
  refine gx_iconst (v := 0) C dX0_wanting_0 (by decide) ?_
  refine gx_istore_n (lv2 := [(3, .int 0), (0, .ref (eA E e)), (1, .int (bset (nn K) P)), (2, .int (nI q))]) C dX0_wanting_1 (by rfl) (by decide) rfl ?_
  refine gx_iconst (v := 0) C dX0_wanting_2 (by decide) ?_
  refine gx_istore (lv2 := [(4, .int 0), (3, .int 0), (0, .ref (eA E e)), (1, .int (bset (nn K) P)), (2, .int (nI q))]) C dX0_wanting_3 (by decide) rfl ?_
  have loop5 : ∀ (kf i5 : Nat), i5 ≤ nn K → nn K < i5 + kf → Gx E p e0 (rmF 2 46) s m ([.ref (eA E e), .int (bset (nn K) P), .int (nI q)] : List Value).toArray below meth c (MQ below (va_Qi (fun rr σ2 => σ2 = σ ∧ rr = bset (nn K) (fun t => P t && wn K t q)) (WQ E) (AA E s.heap.size)) ([.ref (eA E e), .int (bset (nn K) P), .int (nI q)] : List Value).toArray s 0 0 (AA E s.heap.size)) 5 5 [(0, .ref (eA E e)), (1, .int (bset (nn K) P)), (2, .int (nI q)), (3, .int (bset i5 (fun t => P t && wn K t q))), (4, .int (nI i5))] [] σ := by
    intro kf
    induction kf with
    | zero => intro i5 q1 q2; exact absurd q2 (by omega)
    | succ kf ih5 =>
      intro i5 a5 b5
      refine gx_iload C dX0_wanting_5 (by rfl) ?_
      refine gx_aload_n C dX0_wanting_7 (by rfl) (by rfl) ?_
      refine gx_geti (k := 11) C ck0 (sh_e he) (by rfl) (by decide) fl_X0_58 dX0_wanting_8 ?_
      refine gx_st (st' := [.int (nI (nn K)), .int (nI i5)]) (by rw [hK.n, hn]) ?_
      refine gx_icmp_ge (tgt := 46) C dX0_wanting_11 (by decide) (fun h1 => ?_) (fun h1 => ?_)
      ·
        have h1 := (nI_leI (a := (nn K)) (b := i5) (by omega) (by omega)).mp h1
        refine gx_iload_n C dX0_wanting_46 (by rfl) (by rfl) ?_
        exact gx_iret C hr hlk rfl ⟨rfl, by rw [show i5 = nn K by omega]⟩ dX0_wanting_47
      ·
        have h1 := (not_congr (nI_leI (a := (nn K)) (b := i5) (by omega) (by omega))).mp h1
        refine gx_iload_n C dX0_wanting_14 (by rfl) (by rfl) ?_
        refine gx_iload C dX0_wanting_15 (by rfl) ?_
        refine gx_ishr C dX0_wanting_17 ?_
        refine gx_iconst (v := 1) C dX0_wanting_18 (by decide) ?_
        refine gx_iand C dX0_wanting_19 ?_
        refine gx_if_eq (tgt := 40) C dX0_wanting_20 (by decide) (fun h2 => ?_) (fun h2 => ?_)
        ·
          have h2 := (tb_z (n := (nn K)) (P := P) (p := i5) (by omega) (by omega)).mp h2
          refine gx_iinc (v := nI (i5 + 1)) (lv2 := [(4, .int (nI (i5 + 1))), (0, .ref (eA E e)), (1, .int (bset (nn K) P)), (2, .int (nI q)), (3, .int (bset i5 (fun t => P t && wn K t q)))]) C dX0_wanting_40 (by rfl) (by exact nI_p1 _) (by decide) rfl ?_
          refine gx_goto (tgt := 5) C dX0_wanting_43 (by decide) ?_
          refine gx_sub [1, 2, 3, 4, 0] (lv' := [(0, .ref (eA E e)), (1, .int (bset (nn K) P)), (2, .int (nI q)), (3, .int (bset i5 (fun t => P t && wn K t q))), (4, .int (nI (i5 + 1)))]) rfl ?_
          refine gx_lv (lv' := [(0, .ref (eA E e)), (1, .int (bset (nn K) P)), (2, .int (nI q)), (3, .int (bset (i5 + 1) (fun t => P t && wn K t q))), (4, .int (nI (i5 + 1)))]) (by rw [bset_f (n := i5) (P := fun t => P t && wn K t q) (by omega) (by simp [*])]) ?_
          exact ih5 (i5 + 1) (by omega) (by omega)
        ·
          have h2 := (tb_nz (n := (nn K)) (P := P) (p := i5) (by omega) (by omega)).mp h2
          refine gx_aload_n C dX0_wanting_23 (by rfl) (by rfl) ?_
          refine gx_iload C dX0_wanting_24 (by rfl) ?_
          refine gx_iload_n C dX0_wanting_26 (by rfl) (by rfl) ?_
          refine gx_callVI (As := [.int (nI i5), .int (nI q)]) (rest := []) C (c_X0_isWanting E σ e he K hK hO i5 (by omega) q (by omega)) z_X0_isWanting ck0 (sh_e he) (by rfl) ml_X0_101 (by rfl) (Nat.le_of_ble_eq_true rfl) ⟨Nat.le_of_ble_eq_true rfl, Nat.le_of_ble_eq_true rfl⟩ dX0_wanting_27 (fun r3 σ3 w3 => ?_)
          obtain ⟨u1, u2⟩ := w3; rw [u1, u2]; clear u1 u2
          refine gx_if_eq (tgt := 40) C dX0_wanting_30 (by decide) (fun h4 => ?_) (fun h4 => ?_)
          ·
            have h4 := b2_z.mp h4
            refine gx_iinc (v := nI (i5 + 1)) (lv2 := [(4, .int (nI (i5 + 1))), (0, .ref (eA E e)), (1, .int (bset (nn K) P)), (2, .int (nI q)), (3, .int (bset i5 (fun t => P t && wn K t q)))]) C dX0_wanting_40 (by rfl) (by exact nI_p1 _) (by decide) rfl ?_
            refine gx_goto (tgt := 5) C dX0_wanting_43 (by decide) ?_
            refine gx_sub [1, 2, 3, 4, 0] (lv' := [(0, .ref (eA E e)), (1, .int (bset (nn K) P)), (2, .int (nI q)), (3, .int (bset i5 (fun t => P t && wn K t q))), (4, .int (nI (i5 + 1)))]) rfl ?_
            refine gx_lv (lv' := [(0, .ref (eA E e)), (1, .int (bset (nn K) P)), (2, .int (nI q)), (3, .int (bset (i5 + 1) (fun t => P t && wn K t q))), (4, .int (nI (i5 + 1)))]) (by rw [bset_f (n := i5) (P := fun t => P t && wn K t q) (by omega) (by simp [*])]) ?_
            exact ih5 (i5 + 1) (by omega) (by omega)
          ·
            have h4 := b2_nz.mp h4
            refine gx_iload_n C dX0_wanting_33 (by rfl) (by rfl) ?_
            refine gx_iconst (v := 1) C dX0_wanting_34 (by decide) ?_
            refine gx_iload C dX0_wanting_35 (by rfl) ?_
            refine gx_ishl C dX0_wanting_37 ?_
            refine gx_ior C dX0_wanting_38 ?_
            refine gx_istore_n (lv2 := [(3, .int ((bset i5 (fun t => P t && wn K t q)) ||| (1 <<< ((nI i5) &&& 31)))), (0, .ref (eA E e)), (1, .int (bset (nn K) P)), (2, .int (nI q)), (4, .int (nI i5))]) C dX0_wanting_39 (by rfl) (by decide) rfl ?_
            refine gx_iinc (v := nI (i5 + 1)) (lv2 := [(4, .int (nI (i5 + 1))), (3, .int ((bset i5 (fun t => P t && wn K t q)) ||| (1 <<< ((nI i5) &&& 31)))), (0, .ref (eA E e)), (1, .int (bset (nn K) P)), (2, .int (nI q))]) C dX0_wanting_40 (by rfl) (by exact nI_p1 _) (by decide) rfl ?_
            refine gx_goto (tgt := 5) C dX0_wanting_43 (by decide) ?_
            refine gx_sub [2, 3, 4, 1, 0] (lv' := [(0, .ref (eA E e)), (1, .int (bset (nn K) P)), (2, .int (nI q)), (3, .int ((bset i5 (fun t => P t && wn K t q)) ||| (1 <<< ((nI i5) &&& 31)))), (4, .int (nI (i5 + 1)))]) rfl ?_
            refine gx_lv (lv' := [(0, .ref (eA E e)), (1, .int (bset (nn K) P)), (2, .int (nI q)), (3, .int (bset (i5 + 1) (fun t => P t && wn K t q))), (4, .int (nI (i5 + 1)))]) (by rw [bset_t (n := i5) (P := fun t => P t && wn K t q) (by omega) (by simp [*])]) ?_
            exact ih5 (i5 + 1) (by omega) (by omega)
  refine gx_sub [2, 3, 4, 1, 0] (lv' := [(0, .ref (eA E e)), (1, .int (bset (nn K) P)), (2, .int (nI q)), (3, .int 0), (4, .int 0)]) rfl ?_
  refine gx_lv (lv' := [(0, .ref (eA E e)), (1, .int (bset (nn K) P)), (2, .int (nI q)), (3, .int (bset 0 (fun t => P t && wn K t q))), (4, .int (nI 0))]) (by rfl) ?_
  exact loop5 (nn K + 1) 0 (by omega) (by omega)
set_option maxHeartbeats 4000000 in
set_option maxRecDepth 100000 in
theorem c_X0_judgesOf (E : En) (σ : Mm) (e : Nat) (he : isE e) (K : Mm) (hK : Emp σ e K) (hO : Ok K) (q : Nat) (hq : q < nn K) : CtI E yX0_judgesOf cX0_judgesOf 4 (some .int) 2 42 [.ref (eA E e), .int (nI q), .int (bset (nn K) (cgP K))] σ (fun rr σ2 => σ2 = σ ∧ rr = bset (nn K) (blP K q)) := by
  obtain ⟨⟨hn, h12⟩, hpp, hlw, hsp, hz0⟩ := id hO
  refine CtI.of (by decide +kernel) (Nat.le_of_ble_eq_true rfl) (fun p e0 s m below meth c C hr hlk => ?_)
  refine gx_lv (lv' := [(0, .ref (eA E e)), (1, .int (nI q)), (2, .int (bset (nn K) (cgP K)))]) rfl ?_
  refine gx_aload_n C dX0_judgesOf_0 (by rfl) (by rfl) ?_
  refine gx_getr (j := e + 2) (k := 1) C ck0 (sh_e he) (by rfl) (by decide) fl_X0_15 dX0_judgesOf_1 ?_
  refine gx_iload_n C dX0_judgesOf_4 (by rfl) (by rfl) ?_
  refine gx_ialdN (k := q) C (sh_e2 he) rfl (by omega) (by decide) dX0_judgesOf_5 ?_
  refine gx_st (st' := [.int (K 2 q)]) (by rw [hK.r2 (p := q) (by omega)]) ?_
  refine gx_istore_n (lv2 := [(3, .int (K 2 q)), (0, .ref (eA E e)), (1, .int (nI q)), (2, .int (bset (nn K) (cgP K)))]) C dX0_judgesOf_6 (by rfl) (by decide) rfl ?_
  refine gx_iload_n C dX0_judgesOf_7 (by rfl) (by rfl) ?_
  refine gx_iconst (v := (-1)) C dX0_judgesOf_8 (by decide) ?_
  refine gx_icmp_eq (tgt := 34) C dX0_judgesOf_9 (by decide) (fun h1 => ?_) (fun h1 => ?_)
  ·
    refine gx_iconst (v := 0) C dX0_judgesOf_34 (by decide) ?_
    exact gx_iret C hr hlk rfl ⟨rfl, ((bset_eq0 h12).mpr (fun p hp => by first | (simp [blP, *]; done) | (have q8 : ¬ K 2 q < 6 := by rw [rfl]; exact nI_nlt (b := 6) (by omega) (by omega)); simp [blP, q8])).symm⟩ dX0_judgesOf_35
  ·
    obtain ⟨r2, hr2, er2⟩ := rk8 hO hq h1
    refine gx_lv (lv' := [(3, .int (nI r2)), (0, .ref (eA E e)), (1, .int (nI q)), (2, .int (bset (nn K) (cgP K)))]) (by rw [er2]) ?_
    refine gx_iload_n C dX0_judgesOf_12 (by rfl) (by rfl) ?_
    refine gx_iconst (v := 2) C dX0_judgesOf_13 (by decide) ?_
    refine gx_iadd C dX0_judgesOf_14 ?_
    refine gx_st (st' := [.int (nI (r2 + 2))]) (by rw [show (nI r2) + 2 = nI (r2 + 2) from nI_add r2 2]) ?_
    refine gx_callNI (As := [.int (nI (r2 + 2))]) (rest := []) C (c_X3_isRank E σ (nI (r2 + 2))) z_X3_isRank (by rfl) (C.2.2.2.2.2.2.2.2.2.2.2.2.2.2.1) (by rfl) (Nat.le_of_ble_eq_true rfl) ⟨Nat.le_of_ble_eq_true rfl, Nat.le_of_ble_eq_true rfl⟩ dX0_judgesOf_15 (fun r3 σ3 w3 => ?_)
    obtain ⟨u1, u2⟩ := w3; rw [u1, u2]; clear u1 u2
    refine gx_if_eq (tgt := 34) C dX0_judgesOf_18 (by decide) (fun h4 => ?_) (fun h4 => ?_)
    ·
      have h4 := b2_z.mp h4
      have h4 : ¬ (r2 + 2 ≤ 7) := fun q9 => h4 ⟨nI_pos' (by omega), (nI_leI (b := 7) (by omega) (by omega)).mpr q9⟩
      refine gx_iconst (v := 0) C dX0_judgesOf_34 (by decide) ?_
      exact gx_iret C hr hlk rfl ⟨rfl, ((bset_eq0 h12).mpr (fun p hp => by first | (simp [blP, *]; done) | (have q8 : ¬ K 2 q < 6 := by rw [er2]; exact nI_nlt (b := 6) (by omega) (by omega)); simp [blP, q8])).symm⟩ dX0_judgesOf_35
    ·
      have h4 := b2_nz.mp h4
      have h4 : r2 + 2 ≤ 7 := (nI_leI (b := 7) (by omega) (by omega)).mp h4.2
      refine gx_aload_n C dX0_judgesOf_21 (by rfl) (by rfl) ?_
      refine gx_getr (j := e + 9) (k := 8) C ck0 (sh_e he) (by rfl) (by decide) fl_X0_36 dX0_judgesOf_22 ?_
      refine gx_iload_n C dX0_judgesOf_25 (by rfl) (by rfl) ?_
      refine gx_iconst (v := 2) C dX0_judgesOf_26 (by decide) ?_
      refine gx_iadd C dX0_judgesOf_27 ?_
      refine gx_st (st' := [.int (nI (r2 + 2)), .ref (eA E (e + 9))]) (by rw [show (nI r2) + 2 = nI (r2 + 2) from nI_add r2 2]) ?_
      refine gx_ialdN (k := (r2 + 2)) C (sh_e9 he) rfl (by omega) (by decide) dX0_judgesOf_28 ?_
      refine gx_st (st' := [.int (bset (nn K) (inP K (nI (r2 + 2))))]) (by rw [hK.in (r := r2 + 2) (by omega)]) ?_
      refine gx_iload_n C dX0_judgesOf_29 (by rfl) (by rfl) ?_
      refine gx_iand C dX0_judgesOf_30 ?_
      refine gx_st (st' := [.int (bset (nn K) (fun q => (inP K (nI (r2 + 2))) q && (cgP K) q))]) (by rw [bset_and]) ?_
      refine gx_goto (tgt := 35) C dX0_judgesOf_31 (by decide) ?_
      exact gx_iret C hr hlk rfl ⟨rfl, bset_c (fun p hp => by have q8 : K 2 q < 6 := (by rw [er2]; exact nI_lt (b := 6) (by omega) (by omega)); have q7 : ¬ K 2 q = -1 := (by rw [er2]; exact nI_m1 (by omega)); have q6 : K 2 q + 2 = nI (r2 + 2) := (by rw [er2]; exact nI_add r2 2); simp [blP, q8, q7, q6])⟩ dX0_judgesOf_35
set_option maxHeartbeats 4000000 in
set_option maxRecDepth 100000 in
theorem c_X0_falling (E : En) (σ : Mm) (e : Nat) (he : isE e) (K : Mm) (hK : Emp σ e K) (hO : Ok K) : CtI E yX0_falling cX0_falling 5 (some .int) 3 70 [.ref (eA E e)] σ (fun rr σ2 => σ2 = σ ∧ rr = bset (nn K) (trP K)) := by
  obtain ⟨⟨hn, h12⟩, hpp, hlw, hsp, hz0⟩ := id hO
  refine CtI.of (by decide +kernel) (Nat.le_of_ble_eq_true rfl) (fun p e0 s m below meth c C hr hlk => ?_)
  refine gx_lv (lv' := [(0, .ref (eA E e))]) rfl ?_
  refine gx_aload_n C dX0_falling_0 (by rfl) (by rfl) ?_
  refine gx_callVI (As := []) (rest := []) C (c_X0_counting E σ e he K hK hO) z_X0_counting ck0 (sh_e he) (by rfl) ml_X0_107 (by rfl) (Nat.le_of_ble_eq_true rfl) ⟨Nat.le_of_ble_eq_true rfl, Nat.le_of_ble_eq_true rfl⟩ dX0_falling_1 (fun r1 σ1 w1 => ?_)
  obtain ⟨u1, u2⟩ := w1; rw [u1, u2]; clear u1 u2
  refine gx_istore_n (lv2 := [(1, .int (bset (nn K) (cgP K))), (0, .ref (eA E e))]) C dX0_falling_4 (by rfl) (by decide) rfl ?_
  refine gx_iconst (v := 0) C dX0_falling_5 (by decide) ?_
  refine gx_istore_n (lv2 := [(2, .int 0), (1, .int (bset (nn K) (cgP K))), (0, .ref (eA E e))]) C dX0_falling_6 (by rfl) (by decide) rfl ?_
  refine gx_iconst (v := 0) C dX0_falling_7 (by decide) ?_
  refine gx_istore_n (lv2 := [(3, .int 0), (2, .int 0), (1, .int (bset (nn K) (cgP K))), (0, .ref (eA E e))]) C dX0_falling_8 (by rfl) (by decide) rfl ?_
  have loop9 : ∀ (kf i9 : Nat), i9 ≤ nn K → nn K < i9 + kf → Gx E p e0 (rmF 3 70) s m ([.ref (eA E e)] : List Value).toArray below meth c (MQ below (va_Qi (fun rr σ2 => σ2 = σ ∧ rr = bset (nn K) (trP K)) (WQ E) (AA E s.heap.size)) ([.ref (eA E e)] : List Value).toArray s 0 0 (AA E s.heap.size)) 5 9 [(0, .ref (eA E e)), (1, .int (bset (nn K) (cgP K))), (2, .int (bset i9 (trP K))), (3, .int (nI i9))] [] σ := by
    intro kf
    induction kf with
    | zero => intro i9 q1 q2; exact absurd q2 (by omega)
    | succ kf ih9 =>
      intro i9 a9 b9
      refine gx_iload_n C dX0_falling_9 (by rfl) (by rfl) ?_
      refine gx_aload_n C dX0_falling_10 (by rfl) (by rfl) ?_
      refine gx_geti (k := 11) C ck0 (sh_e he) (by rfl) (by decide) fl_X0_58 dX0_falling_11 ?_
      refine gx_st (st' := [.int (nI (nn K)), .int (nI i9)]) (by rw [hK.n, hn]) ?_
      refine gx_icmp_ge (tgt := 64) C dX0_falling_14 (by decide) (fun h2 => ?_) (fun h2 => ?_)
      ·
        have h2 := (nI_leI (a := (nn K)) (b := i9) (by omega) (by omega)).mp h2
        refine gx_iload_n C dX0_falling_64 (by rfl) (by rfl) ?_
        exact gx_iret C hr hlk rfl ⟨rfl, by rw [show i9 = nn K by omega]⟩ dX0_falling_65
      ·
        have h2 := (not_congr (nI_leI (a := (nn K)) (b := i9) (by omega) (by omega))).mp h2
        refine gx_aload_n C dX0_falling_17 (by rfl) (by rfl) ?_
        refine gx_iload_n C dX0_falling_18 (by rfl) (by rfl) ?_
        refine gx_iload_n C dX0_falling_19 (by rfl) (by rfl) ?_
        refine gx_callVI (As := [.int (nI i9), .int (bset (nn K) (cgP K))]) (rest := []) C (c_X0_judgesOf E σ e he K hK hO i9 (by omega)) z_X0_judgesOf ck0 (sh_e he) (by rfl) ml_X0_111 (by rfl) (Nat.le_of_ble_eq_true rfl) ⟨Nat.le_of_ble_eq_true rfl, Nat.le_of_ble_eq_true rfl⟩ dX0_falling_20 (fun r3 σ3 w3 => ?_)
        obtain ⟨u1, u2⟩ := w3; rw [u1, u2]; clear u1 u2
        refine gx_istore (lv2 := [(4, .int (bset (nn K) (blP K i9))), (0, .ref (eA E e)), (1, .int (bset (nn K) (cgP K))), (2, .int (bset i9 (trP K))), (3, .int (nI i9))]) C dX0_falling_23 (by decide) rfl ?_
        refine gx_iload C dX0_falling_25 (by rfl) ?_
        refine gx_if_eq (tgt := 58) C dX0_falling_27 (by decide) (fun h4 => ?_) (fun h4 => ?_)
        ·
          refine gx_iinc (v := nI (i9 + 1)) (lv2 := [(3, .int (nI (i9 + 1))), (4, .int (bset (nn K) (blP K i9))), (0, .ref (eA E e)), (1, .int (bset (nn K) (cgP K))), (2, .int (bset i9 (trP K)))]) C dX0_falling_58 (by rfl) (by exact nI_p1 _) (by decide) rfl ?_
          refine gx_goto (tgt := 9) C dX0_falling_61 (by decide) ?_
          refine gx_sub [2, 3, 4, 0] (lv' := [(0, .ref (eA E e)), (1, .int (bset (nn K) (cgP K))), (2, .int (bset i9 (trP K))), (3, .int (nI (i9 + 1)))]) rfl ?_
          refine gx_lv (lv' := [(0, .ref (eA E e)), (1, .int (bset (nn K) (cgP K))), (2, .int (bset (i9 + 1) (trP K))), (3, .int (nI (i9 + 1)))]) (by rw [bset_f (n := i9) (P := trP K) (by omega) (by first | exact bl_0 h12 (by assumption) | (rw [trP]; grind))]) ?_
          exact ih9 (i9 + 1) (by omega) (by omega)
        ·
          refine gx_aload_n C dX0_falling_30 (by rfl) (by rfl) ?_
          refine gx_aload_n C dX0_falling_31 (by rfl) (by rfl) ?_
          refine gx_iload C dX0_falling_32 (by rfl) ?_
          refine gx_iload_n C dX0_falling_34 (by rfl) (by rfl) ?_
          refine gx_callVI (As := [.int (bset (nn K) (blP K i9)), .int (nI i9)]) (rest := [.ref (eA E e)]) C (c_X0_wanting E σ e he K hK hO (blP K i9) i9 (by omega)) z_X0_wanting ck0 (sh_e he) (by rfl) ml_X0_115 (by rfl) (Nat.le_of_ble_eq_true rfl) ⟨Nat.le_of_ble_eq_true rfl, Nat.le_of_ble_eq_true rfl⟩ dX0_falling_35 (fun r5 σ5 w5 => ?_)
          obtain ⟨u1, u2⟩ := w5; rw [u1, u2]; clear u1 u2
          refine gx_st (st' := [.int (bset (nn K) (agP K i9)), .ref (eA E e)]) (by rw [show bset (nn K) (fun t => (blP K i9) t && wn K t i9) = bset (nn K) (agP K i9) from rfl]) ?_
          refine gx_callSI (As := [.int (bset (nn K) (agP K i9))]) (rest := [.ref (eA E e)]) C (c_J6_bitCount_0f7a4 E σ (bset (nn K) (agP K i9))) z_J6_bitCount_0f7a4 (by rfl) ml_X0_71 (by rfl) (Nat.le_of_ble_eq_true rfl) ⟨Nat.le_of_ble_eq_true rfl, Nat.le_of_ble_eq_true rfl⟩ dX0_falling_38 (fun r6 σ6 w6 => ?_)
          obtain ⟨u1, u2⟩ := w6; rw [u1, u2]; clear u1 u2
          refine gx_st (st' := [.int (nI (cnt (agP K i9) (nn K))), .ref (eA E e)]) (by rw [bitC_bset (n := (nn K)) (P := (agP K i9)) h12]) ?_
          refine gx_iload C dX0_falling_41 (by rfl) ?_
          refine gx_callSI (As := [.int (bset (nn K) (blP K i9))]) (rest := [.int (nI (cnt (agP K i9) (nn K))), .ref (eA E e)]) C (c_J6_bitCount_0f7a4 E σ (bset (nn K) (blP K i9))) z_J6_bitCount_0f7a4 (by rfl) ml_X0_71 (by rfl) (Nat.le_of_ble_eq_true rfl) ⟨Nat.le_of_ble_eq_true rfl, Nat.le_of_ble_eq_true rfl⟩ dX0_falling_43 (fun r7 σ7 w7 => ?_)
          obtain ⟨u1, u2⟩ := w7; rw [u1, u2]; clear u1 u2
          refine gx_st (st' := [.int (nI (cnt (blP K i9) (nn K))), .int (nI (cnt (agP K i9) (nn K))), .ref (eA E e)]) (by rw [bitC_bset (n := (nn K)) (P := (blP K i9)) h12]) ?_
          refine gx_callVI (As := [.int (nI (cnt (agP K i9) (nn K))), .int (nI (cnt (blP K i9) (nn K)))]) (rest := []) C (c_X0_isEnough E σ e he K hK hO (nI (cnt (agP K i9) (nn K))) (nI (cnt (blP K i9) (nn K)))) z_X0_isEnough ck0 (sh_e he) (by rfl) ml_X0_118 (by rfl) (Nat.le_of_ble_eq_true rfl) ⟨Nat.le_of_ble_eq_true rfl, Nat.le_of_ble_eq_true rfl⟩ dX0_falling_46 (fun r8 σ8 w8 => ?_)
          obtain ⟨u1, u2⟩ := w8; rw [u1, u2]; clear u1 u2
          refine gx_if_eq (tgt := 58) C dX0_falling_49 (by decide) (fun h9 => ?_) (fun h9 => ?_)
          ·
            have h9 := b2_z.mp h9
            refine gx_iinc (v := nI (i9 + 1)) (lv2 := [(3, .int (nI (i9 + 1))), (4, .int (bset (nn K) (blP K i9))), (0, .ref (eA E e)), (1, .int (bset (nn K) (cgP K))), (2, .int (bset i9 (trP K)))]) C dX0_falling_58 (by rfl) (by exact nI_p1 _) (by decide) rfl ?_
            refine gx_goto (tgt := 9) C dX0_falling_61 (by decide) ?_
            refine gx_sub [2, 3, 4, 0] (lv' := [(0, .ref (eA E e)), (1, .int (bset (nn K) (cgP K))), (2, .int (bset i9 (trP K))), (3, .int (nI (i9 + 1)))]) rfl ?_
            refine gx_lv (lv' := [(0, .ref (eA E e)), (1, .int (bset (nn K) (cgP K))), (2, .int (bset (i9 + 1) (trP K))), (3, .int (nI (i9 + 1)))]) (by rw [bset_f (n := i9) (P := trP K) (by omega) (by first | exact bl_0 h12 (by assumption) | (rw [trP]; grind))]) ?_
            exact ih9 (i9 + 1) (by omega) (by omega)
          ·
            have h9 := b2_nz.mp h9
            refine gx_iload_n C dX0_falling_52 (by rfl) (by rfl) ?_
            refine gx_iconst (v := 1) C dX0_falling_53 (by decide) ?_
            refine gx_iload_n C dX0_falling_54 (by rfl) (by rfl) ?_
            refine gx_ishl C dX0_falling_55 ?_
            refine gx_ior C dX0_falling_56 ?_
            refine gx_istore_n (lv2 := [(2, .int ((bset i9 (trP K)) ||| (1 <<< ((nI i9) &&& 31)))), (4, .int (bset (nn K) (blP K i9))), (0, .ref (eA E e)), (1, .int (bset (nn K) (cgP K))), (3, .int (nI i9))]) C dX0_falling_57 (by rfl) (by decide) rfl ?_
            refine gx_iinc (v := nI (i9 + 1)) (lv2 := [(3, .int (nI (i9 + 1))), (2, .int ((bset i9 (trP K)) ||| (1 <<< ((nI i9) &&& 31)))), (4, .int (bset (nn K) (blP K i9))), (0, .ref (eA E e)), (1, .int (bset (nn K) (cgP K)))]) C dX0_falling_58 (by rfl) (by exact nI_p1 _) (by decide) rfl ?_
            refine gx_goto (tgt := 9) C dX0_falling_61 (by decide) ?_
            refine gx_sub [3, 4, 1, 0] (lv' := [(0, .ref (eA E e)), (1, .int (bset (nn K) (cgP K))), (2, .int ((bset i9 (trP K)) ||| (1 <<< ((nI i9) &&& 31)))), (3, .int (nI (i9 + 1)))]) rfl ?_
            refine gx_lv (lv' := [(0, .ref (eA E e)), (1, .int (bset (nn K) (cgP K))), (2, .int (bset (i9 + 1) (trP K))), (3, .int (nI (i9 + 1)))]) (by rw [bset_t (n := i9) (P := trP K) (by omega) (by have q7 : ¬ K 2 i9 = -1 := (fun q9 => absurd ((bset_eq0 (P := blP K i9) h12).mpr (fun p hp => by simp [blP, q9])) (by assumption)); simp [trP, q7]; assumption)]) ?_
            exact ih9 (i9 + 1) (by omega) (by omega)
  refine gx_sub [3, 2, 1, 0] (lv' := [(0, .ref (eA E e)), (1, .int (bset (nn K) (cgP K))), (2, .int 0), (3, .int 0)]) rfl ?_
  refine gx_lv (lv' := [(0, .ref (eA E e)), (1, .int (bset (nn K) (cgP K))), (2, .int (bset 0 (trP K))), (3, .int (nI 0))]) (by rfl) ?_
  exact loop9 (nn K + 1) 0 (by omega) (by omega)
set_option maxHeartbeats 4000000 in
set_option maxRecDepth 100000 in
theorem c_X0_canTake (E : En) (σ : Mm) (e : Nat) (he : isE e) (K : Mm) (hK : Emp σ e K) (hO : Ok K) (q : Nat) (hq : q < nn K) (v : Int32) : CtI E yX0_canTake cX0_canTake 4 (some .boolean) 1 21 [.ref (eA E e), .int (nI q), .int v] σ (fun rr σ2 => σ2 = σ ∧ rr = b2 ((0 ≤ K 6 q ∧ K 6 q < K 0 0) ∧ v ≤ K 5 (K 6 q).toNatClampNeg ∧ K 5 q + v ≤ 9999)) := by
  obtain ⟨⟨hn, h12⟩, hpp, hlw, hsp, hz0⟩ := id hO
  refine CtI.of (by decide +kernel) (Nat.le_of_ble_eq_true rfl) (fun p e0 s m below meth c C hr hlk => ?_)
  refine gx_lv (lv' := [(0, .ref (eA E e)), (1, .int (nI q)), (2, .int v)]) rfl ?_
  refine gx_aload_n C dX0_canTake_0 (by rfl) (by rfl) ?_
  refine gx_getr (j := e + 6) (k := 5) C ck0 (sh_e he) (by rfl) (by decide) fl_X0_27 dX0_canTake_1 ?_
  refine gx_iload_n C dX0_canTake_4 (by rfl) (by rfl) ?_
  refine gx_ialdN (k := q) C (sh_e6 he) rfl (by omega) (by decide) dX0_canTake_5 ?_
  refine gx_st (st' := [.int (K 6 q)]) (by rw [hK.r6 (p := q) (by omega)]) ?_
  refine gx_istore_n (lv2 := [(3, .int (K 6 q)), (0, .ref (eA E e)), (1, .int (nI q)), (2, .int v)]) C dX0_canTake_6 (by rfl) (by decide) rfl ?_
  refine gx_aload_n C dX0_canTake_7 (by rfl) (by rfl) ?_
  refine gx_iload_n C dX0_canTake_8 (by rfl) (by rfl) ?_
  refine gx_callVI (As := [.int (K 6 q)]) (rest := []) C (k_X0_has E σ e he K hK hO (K 6 q)) z_X0_has ck0 (sh_e he) (by rfl) ml_X0_67 (by rfl) (Nat.le_of_ble_eq_true rfl) ⟨Nat.le_of_ble_eq_true rfl, Nat.le_of_ble_eq_true rfl⟩ dX0_canTake_9 (fun r1 σ1 w1 => ?_)
  obtain ⟨u1, u2⟩ := w1; rw [u1, u2]; clear u1 u2
  refine gx_if_eq (tgt := 43) C dX0_canTake_12 (by decide) (fun h2 => ?_) (fun h2 => ?_)
  ·
    have h2 := b2_z.mp h2
    refine gx_iconst (v := 0) C dX0_canTake_43 (by decide) ?_
    exact gx_iret C hr hlk (by first | rfl | exact nb_b2 _) ⟨rfl, by first | exact b2_t (by grind) | exact b2_f (by grind)⟩ dX0_canTake_44
  ·
    have h2 := b2_nz.mp h2
    obtain ⟨g3, hg3, eg3⟩ := has_nat hO h2
    have eg3' : (K 6 q).toNatClampNeg = g3 := by rw [eg3]; exact nI_clamp (by omega)
    refine gx_lv (lv' := [(3, .int (nI g3)), (0, .ref (eA E e)), (1, .int (nI q)), (2, .int v)]) (by rw [eg3]) ?_
    refine gx_aload_n C dX0_canTake_15 (by rfl) (by rfl) ?_
    refine gx_getr (j := e + 5) (k := 4) C ck0 (sh_e he) (by rfl) (by decide) fl_X0_24 dX0_canTake_16 ?_
    refine gx_iload_n C dX0_canTake_19 (by rfl) (by rfl) ?_
    refine gx_ialdN (k := g3) C (sh_e5 he) rfl (by omega) (by decide) dX0_canTake_20 ?_
    refine gx_st (st' := [.int (K 5 g3)]) (by rw [hK.r5 (p := g3) (by omega)]) ?_
    refine gx_iload_n C dX0_canTake_21 (by rfl) (by rfl) ?_
    refine gx_icmp_lt (tgt := 43) C dX0_canTake_22 (by decide) (fun h4 => ?_) (fun h4 => ?_)
    ·
      refine gx_iconst (v := 0) C dX0_canTake_43 (by decide) ?_
      exact gx_iret C hr hlk (by first | rfl | exact nb_b2 _) ⟨rfl, by first | exact b2_t (by grind) | exact b2_f (by grind)⟩ dX0_canTake_44
    ·
      refine gx_aload_n C dX0_canTake_25 (by rfl) (by rfl) ?_
      refine gx_getr (j := e + 5) (k := 4) C ck0 (sh_e he) (by rfl) (by decide) fl_X0_24 dX0_canTake_26 ?_
      refine gx_iload_n C dX0_canTake_29 (by rfl) (by rfl) ?_
      refine gx_ialdN (k := q) C (sh_e5 he) rfl (by omega) (by decide) dX0_canTake_30 ?_
      refine gx_st (st' := [.int (K 5 q)]) (by rw [hK.r5 (p := q) (by omega)]) ?_
      refine gx_iload_n C dX0_canTake_31 (by rfl) (by rfl) ?_
      refine gx_iadd C dX0_canTake_32 ?_
      refine gx_sipush (v := 9999) C dX0_canTake_33 (by decide) ?_
      refine gx_icmp_gt (tgt := 43) C dX0_canTake_36 (by decide) (fun h5 => ?_) (fun h5 => ?_)
      ·
        refine gx_iconst (v := 0) C dX0_canTake_43 (by decide) ?_
        exact gx_iret C hr hlk (by first | rfl | exact nb_b2 _) ⟨rfl, by first | exact b2_t (by grind) | exact b2_f (by grind)⟩ dX0_canTake_44
      ·
        refine gx_iconst (v := 1) C dX0_canTake_39 (by decide) ?_
        refine gx_goto (tgt := 44) C dX0_canTake_40 (by decide) ?_
        exact gx_iret C hr hlk (by first | rfl | exact nb_b2 _) ⟨rfl, by first | exact b2_t (by grind) | exact b2_f (by grind)⟩ dX0_canTake_44
