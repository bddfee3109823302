theorem tb_z {n p : Nat} {P : Nat → Bool} (hn : n ≤ 12) (hp : p < n) : (((bset n P) >>> ((nI p) &&& 31)) &&& 1) = 0 ↔ P p = false := by
  have h := tb_bset n P (p := p) (by omega)
  rw [show ((bset n P) >>> ((nI p) &&& 31)) &&& 1 = tb (bset n P) p from rfl, h]
  cases hP : P p <;> simp [hp]
theorem tb_nz {n p : Nat} {P : Nat → Bool} (hn : n ≤ 12) (hp : p < n) : ¬ (((bset n P) >>> ((nI p) &&& 31)) &&& 1) = 0 ↔ P p = true := by
  rw [tb_z hn hp]; simp
theorem sh_ej {e j : Nat} (he : isE e) (hj : j = 3 ∨ j = 5) : sh (e + j) = .inl 12 := by
  rcases hj with rfl | rfl
  · exact sh_e3 he
  · exact sh_e5 he
theorem Emp.rJ {σ : Mm} {e : Nat} {K : Mm} (h : Emp σ e K) {j : Nat} (hj : j = 3 ∨ j = 5) {p : Nat} (hp : p < 12) : σ (e + j) p = K j p := by
  rcases hj with rfl | rfl
  · exact h.r3 hp
  · exact h.r5 hp
/-- the sum of a row over a set -/
def sm (row : Nat → Int32) (P : Nat → Bool) : Nat → Int32
  | 0 => 0
  | n + 1 => if P n = true then sm row P n + row n else sm row P n
theorem sm_t {row : Nat → Int32} {P : Nat → Bool} {n : Nat} (h : P n = true) : sm row P n + row n = sm row P (n + 1) := by rw [sm, if_pos h]
theorem sm_f {row : Nat → Int32} {P : Nat → Bool} {n : Nat} (h : P n = false) : sm row P n = sm row P (n + 1) := by rw [sm, if_neg (by simp [h])]
theorem cntS_t {n : Nat} {P : Nat → Bool} (h : P n = true) : cnt P n + 1 = cnt P (n + 1) := by rw [cnt, if_pos h]
theorem mx_or (row : Nat → Int32) (S : Nat → Bool) : ∀ n, mx row S n = -1 ∨ ∃ b, b < n ∧ mx row S n = nI b ∧ S b = true := by
  intro n
  induction n with
  | zero => exact Or.inl rfl
  | succ n ih =>
    rw [mx]
    split
    · next h => exact Or.inr ⟨n, by omega, rfl, h.1⟩
    · rcases ih with h | ⟨b, h1, h2, h3⟩
      · exact Or.inl h
      · exact Or.inr ⟨b, by omega, h2, h3⟩
theorem lo_or (S : Nat → Bool) : ∀ n, lo S n = -1 ∨ ∃ b, b < n ∧ lo S n = nI b ∧ S b = true := by
  intro n
  induction n with
  | zero => exact Or.inl rfl
  | succ n ih =>
    rw [lo]
    split
    · next h => exact Or.inr ⟨n, by omega, rfl, h.1⟩
    · rcases ih with h | ⟨b, h1, h2, h3⟩
      · exact Or.inl h
      · exact Or.inr ⟨b, by omega, h2, h3⟩
theorem lo_no {S : Nat → Bool} {n : Nat} (h : ∀ p, p < n → S p = false) : lo S n = -1 := by
  rcases lo_or S n with h1 | ⟨b, h1, h2, h3⟩
  · exact h1
  · rw [h b h1] at h3; cases h3
theorem lo_at {S : Nat → Bool} {i : Nat} (h : ∀ p, p < i → S p = false) (hi : S i = true) (hb : i < 2 ^ 31) : ∀ n, i < n → lo S n = nI i := by
  intro n
  induction n with
  | zero => intro h; omega
  | succ n ih =>
    intro hn
    rw [lo]
    rcases Nat.lt_or_ge i n with h1 | h1
    · rw [ih h1, if_neg]
      intro h2
      have h3 : nI i = -1 := h2.2
      exact nI_pos hb (by rw [h3]; decide)
    · have : i = n := by omega
      subst this
      rw [if_pos ⟨hi, lo_no h⟩]
theorem nI_m1 {b : Nat} (h : b < 2 ^ 31) : ¬ nI b = -1 := fun q => nI_pos h (by rw [q]; decide)
theorem mx_f1 {row : Nat → Int32} {S : Nat → Bool} {n : Nat} (h : S n = false) : mx row S (n + 1) = mx row S n := by rw [mx, if_neg (by simp [h])]
theorem mx_t1 {row : Nat → Int32} {S : Nat → Bool} {n : Nat} (h : S n = true) (h2 : mx row S n = -1) : mx row S (n + 1) = nI n := by rw [mx, if_pos ⟨h, Or.inl h2⟩]
theorem mx_t2 {row : Nat → Int32} {S : Nat → Bool} {n f : Nat} (h : S n = true) (h2 : mx row S n = nI f) (hf : f < 2 ^ 31) (h3 : ¬ row n ≤ row f) : mx row S (n + 1) = nI n := by
  rw [mx, if_pos ⟨h, Or.inr (by rw [h2, nI_clamp hf]; exact Int32.not_le.mp h3)⟩]
theorem mx_f2 {row : Nat → Int32} {S : Nat → Bool} {n f : Nat} (h2 : mx row S n = nI f) (hf : f < 2 ^ 31) (h3 : row n ≤ row f) : mx row S (n + 1) = mx row S n := by
  rw [mx, if_neg]
  intro q
  rcases q.2 with q2 | q2
  · rw [h2] at q2; exact nI_m1 hf q2
  · rw [h2, nI_clamp hf] at q2; exact Int32.not_le.mpr q2 h3
theorem hrS_or (K : Mm) (S : Nat → Bool) : hrS K S = -1 ∨ ∃ b, b < nn K ∧ hrS K S = nI b ∧ S b = true := by
  unfold hrS
  split
  · exact mx_or _ _ _
  · split
    · exact mx_or _ _ _
    · exact lo_or _ _
theorem k_X0_has (E : En) (σ : Mm) (e : Nat) (he : isE e) (K : Mm) (hK : Emp σ e K) (hO : Ok K) (q : Int32) : CtI E yX0_has cX0_has 2 (some .boolean) 0 0 [.ref (eA E e), .int q] σ (fun rr σ2 => σ2 = σ ∧ rr = b2 (0 ≤ q ∧ q < K 0 0)) := by
  have h := c_X0_has E σ e he q
  rwa [hK.n] at h
theorem k_X0_hasOrNobody (E : En) (σ : Mm) (e : Nat) (he : isE e) (K : Mm) (hK : Emp σ e K) (hO : Ok K) (q : Int32) : CtI E yX0_hasOrNobody cX0_hasOrNobody 2 (some .boolean) 1 21 [.ref (eA E e), .int q] σ (fun rr σ2 => σ2 = σ ∧ rr = b2 (q = -1 ∨ (0 ≤ q ∧ q < K 0 0))) := by
  have h := c_X0_hasOrNobody E σ e he q
  rwa [hK.n] at h
theorem k_X0_standingOf (E : En) (σ : Mm) (e : Nat) (he : isE e) (K : Mm) (hK : Emp σ e K) (hO : Ok K) (q : Nat) (hq : q < 12) : CtI E yX0_standingOf cX0_standingOf 2 (some .int) 0 0 [.ref (eA E e), .int (nI q)] σ (fun rr σ2 => σ2 = σ ∧ rr = if K 2 q = -1 then 8 else K 2 q) := by
  have h := c_X0_standingOf E σ e he q hq
  rwa [hK.r2 hq] at h
theorem k_X0_sizeOf (E : En) (σ : Mm) (e : Nat) (he : isE e) (K : Mm) (hK : Emp σ e K) (hO : Ok K) (r : Nat) (hr8 : r < 8) : CtI E yX0_sizeOf cX0_sizeOf 2 (some .int) 1 20 [.ref (eA E e), .int (nI r)] σ (fun rr σ2 => σ2 = σ ∧ rr = nI (cnt (inP K (nI r)) (nn K))) := by
  have h := c_X0_sizeOf E σ e he r hr8
  rwa [hK.in hr8, bitC_bset _ hO.1.2] at h
theorem k_X0_hasFree (E : En) (σ : Mm) (e : Nat) (he : isE e) (K : Mm) (hK : Emp σ e K) (hO : Ok K) (r : Nat) (hr8 : r < 8) : CtI E yX0_hasFree cX0_hasFree 2 (some .boolean) 2 41 [.ref (eA E e), .int (nI r)] σ (fun rr σ2 => σ2 = σ ∧ rr = b2 (nI (cnt (inP K (nI r)) (nn K)) < K 8 r)) := by
  have h := c_X0_hasFree E σ e he r hr8
  rwa [hK.in hr8, bitC_bset _ hO.1.2, hK.r8 hr8] at h
set_option maxHeartbeats 4000000 in
set_option maxRecDepth 100000 in
theorem c_X0_counting (E : En) (σ : Mm) (e : Nat) (he : isE e) (K : Mm) (hK : Emp σ e K) (hO : Ok K) : CtI E yX0_counting cX0_counting 3 (some .int) 0 0 [.ref (eA E e)] σ (fun rr σ2 => σ2 = σ ∧ rr = bset (nn K) (cgP K)) := by
  obtain ⟨⟨hn, h12⟩, hpp, hlw, hsp, hz0⟩ := id hO
  refine CtI.of (by decide +kernel) (Nat.le_of_ble_eq_true rfl) (fun p e0 s m below meth c C hr hlk => ?_)
  refine gx_lv (lv' := [(0, .ref (eA E e))]) rfl ?_
  refine gx_iconst (v := 0) C dX0_counting_0 (by decide) ?_
  refine gx_istore_n (lv2 := [(1, .int 0), (0, .ref (eA E e))]) C dX0_counting_1 (by rfl) (by decide) rfl ?_
  refine gx_iconst (v := 0) C dX0_counting_2 (by decide) ?_
  refine gx_istore_n (lv2 := [(2, .int 0), (1, .int 0), (0, .ref (eA E e))]) C dX0_counting_3 (by rfl) (by decide) rfl ?_
  have loop4 : ∀ (kf i4 : Nat), i4 ≤ nn K → nn K < i4 + kf → Gx E p e0 (rmF 0 0) s m ([.ref (eA E e)] : List Value).toArray below meth c (MQ below (va_Qi (fun rr σ2 => σ2 = σ ∧ rr = bset (nn K) (cgP K)) (WQ E) (AA E s.heap.size)) ([.ref (eA E e)] : List Value).toArray s 0 0 (AA E s.heap.size)) 3 4 [(0, .ref (eA E e)), (1, .int (bset i4 (cgP K))), (2, .int (nI i4))] [] σ := by
    intro kf
    induction kf with
    | zero => intro i4 q1 q2; exact absurd q2 (by omega)
    | succ kf ih4 =>
      intro i4 a4 b4
      refine gx_iload_n C dX0_counting_4 (by rfl) (by rfl) ?_
      refine gx_aload_n C dX0_counting_5 (by rfl) (by rfl) ?_
      refine gx_geti (k := 11) C ck0 (sh_e he) (by rfl) (by decide) fl_X0_58 dX0_counting_6 ?_
      refine gx_st (st' := [.int (nI (nn K)), .int (nI i4)]) (by rw [hK.n, hn]) ?_
      refine gx_icmp_ge (tgt := 35) C dX0_counting_9 (by decide) (fun h1 => ?_) (fun h1 => ?_)
      ·
        have h1 := (nI_leI (a := (nn K)) (b := i4) (by omega) (by omega)).mp h1
        refine gx_iload_n C dX0_counting_35 (by rfl) (by rfl) ?_
        exact gx_iret C hr hlk rfl ⟨rfl, by rw [show i4 = nn K by omega]⟩ dX0_counting_36
      ·
        have h1 := (not_congr (nI_leI (a := (nn K)) (b := i4) (by omega) (by omega))).mp h1
        refine gx_aload_n C dX0_counting_12 (by rfl) (by rfl) ?_
        refine gx_getr (j := e + 1) (k := 0) C ck0 (sh_e he) (by rfl) (by decide) fl_X0_9 dX0_counting_13 ?_
        refine gx_iload_n C dX0_counting_16 (by rfl) (by rfl) ?_
        refine gx_ialdN (k := i4) C (sh_e1 he) rfl (by omega) (by decide) dX0_counting_17 ?_
        refine gx_st (st' := [.int (K 1 i4)]) (by rw [hK.r1 (p := i4) (by omega)]) ?_
        refine gx_bipush (v := 6) C dX0_counting_18 (by decide) ?_
        refine gx_icmp_eq (tgt := 29) C dX0_counting_20 (by decide) (fun h2 => ?_) (fun h2 => ?_)
        ·
          refine gx_iinc (v := nI (i4 + 1)) (lv2 := [(2, .int (nI (i4 + 1))), (0, .ref (eA E e)), (1, .int (bset i4 (cgP K)))]) C dX0_counting_29 (by rfl) (by exact nI_p1 _) (by decide) rfl ?_
          refine gx_goto (tgt := 4) C dX0_counting_32 (by decide) ?_
          refine gx_sub [1, 2, 0] (lv' := [(0, .ref (eA E e)), (1, .int (bset i4 (cgP K))), (2, .int (nI (i4 + 1)))]) rfl ?_
          refine gx_lv (lv' := [(0, .ref (eA E e)), (1, .int (bset (i4 + 1) (cgP K))), (2, .int (nI (i4 + 1)))]) (by rw [bset_f (n := i4) (P := cgP K) (by omega) (by simp [cgP, *])]) ?_
          exact ih4 (i4 + 1) (by omega) (by omega)
        ·
          refine gx_iload_n C dX0_counting_23 (by rfl) (by rfl) ?_
          refine gx_iconst (v := 1) C dX0_counting_24 (by decide) ?_
          refine gx_iload_n C dX0_counting_25 (by rfl) (by rfl) ?_
          refine gx_ishl C dX0_counting_26 ?_
          refine gx_ior C dX0_counting_27 ?_
          refine gx_istore_n (lv2 := [(1, .int ((bset i4 (cgP K)) ||| (1 <<< ((nI i4) &&& 31)))), (0, .ref (eA E e)), (2, .int (nI i4))]) C dX0_counting_28 (by rfl) (by decide) rfl ?_
          refine gx_iinc (v := nI (i4 + 1)) (lv2 := [(2, .int (nI (i4 + 1))), (1, .int ((bset i4 (cgP K)) ||| (1 <<< ((nI i4) &&& 31)))), (0, .ref (eA E e))]) C dX0_counting_29 (by rfl) (by exact nI_p1 _) (by decide) rfl ?_
          refine gx_goto (tgt := 4) C dX0_counting_32 (by decide) ?_
          refine gx_sub [2, 1, 0] (lv' := [(0, .ref (eA E e)), (1, .int ((bset i4 (cgP K)) ||| (1 <<< ((nI i4) &&& 31)))), (2, .int (nI (i4 + 1)))]) rfl ?_
          refine gx_lv (lv' := [(0, .ref (eA E e)), (1, .int (bset (i4 + 1) (cgP K))), (2, .int (nI (i4 + 1)))]) (by rw [bset_t (n := i4) (P := cgP K) (by omega) (by simp [cgP, *])]) ?_
          exact ih4 (i4 + 1) (by omega) (by omega)
  refine gx_sub [2, 1, 0] (lv' := [(0, .ref (eA E e)), (1, .int 0), (2, .int 0)]) rfl ?_
  refine gx_lv (lv' := [(0, .ref (eA E e)), (1, .int (bset 0 (cgP K))), (2, .int (nI 0))]) (by rfl) ?_
  exact loop4 (nn K + 1) 0 (by omega) (by omega)
set_option maxHeartbeats 4000000 in
set_option maxRecDepth 100000 in
theorem c_X0_thoseOut (E : En) (σ : Mm) (e : Nat) (he : isE e) (K : Mm) (hK : Emp σ e K) (hO : Ok K) : CtI E yX0_thoseOut cX0_thoseOut 3 (some .int) 0 0 [.ref (eA E e)] σ (fun rr σ2 => σ2 = σ ∧ rr = bset (nn K) (inP K (-1))) := by
  obtain ⟨⟨hn, h12⟩, hpp, hlw, hsp, hz0⟩ := id hO
  refine CtI.of (by decide +kernel) (Nat.le_of_ble_eq_true rfl) (fun p e0 s m below meth c C hr hlk => ?_)
  refine gx_lv (lv' := [(0, .ref (eA E e))]) rfl ?_
  refine gx_iconst (v := 0) C dX0_thoseOut_0 (by decide) ?_
  refine gx_istore_n (lv2 := [(1, .int 0), (0, .ref (eA E e))]) C dX0_thoseOut_1 (by rfl) (by decide) rfl ?_
  refine gx_iconst (v := 0) C dX0_thoseOut_2 (by decide) ?_
  refine gx_istore_n (lv2 := [(2, .int 0), (1, .int 0), (0, .ref (eA E e))]) C dX0_thoseOut_3 (by rfl) (by decide) rfl ?_
  have loop4 : ∀ (kf i4 : Nat), i4 ≤ nn K → nn K < i4 + kf → Gx E p e0 (rmF 0 0) s m ([.ref (eA E e)] : List Value).toArray below meth c (MQ below (va_Qi (fun rr σ2 => σ2 = σ ∧ rr = bset (nn K) (inP K (-1))) (WQ E) (AA E s.heap.size)) ([.ref (eA E e)] : List Value).toArray s 0 0 (AA E s.heap.size)) 3 4 [(0, .ref (eA E e)), (1, .int (bset i4 (inP K (-1)))), (2, .int (nI i4))] [] σ := by
    intro kf
    induction kf with
    | zero => intro i4 q1 q2; exact absurd q2 (by omega)
    | succ kf ih4 =>
      intro i4 a4 b4
      refine gx_iload_n C dX0_thoseOut_4 (by rfl) (by rfl) ?_
      refine gx_aload_n C dX0_thoseOut_5 (by rfl) (by rfl) ?_
      refine gx_geti (k := 11) C ck0 (sh_e he) (by rfl) (by decide) fl_X0_58 dX0_thoseOut_6 ?_
      refine gx_st (st' := [.int (nI (nn K)), .int (nI i4)]) (by rw [hK.n, hn]) ?_
      refine gx_icmp_ge (tgt := 34) C dX0_thoseOut_9 (by decide) (fun h1 => ?_) (fun h1 => ?_)
      ·
        have h1 := (nI_leI (a := (nn K)) (b := i4) (by omega) (by omega)).mp h1
        refine gx_iload_n C dX0_thoseOut_34 (by rfl) (by rfl) ?_
        exact gx_iret C hr hlk rfl ⟨rfl, by rw [show i4 = nn K by omega]⟩ dX0_thoseOut_35
      ·
        have h1 := (not_congr (nI_leI (a := (nn K)) (b := i4) (by omega) (by omega))).mp h1
        refine gx_aload_n C dX0_thoseOut_12 (by rfl) (by rfl) ?_
        refine gx_getr (j := e + 2) (k := 1) C ck0 (sh_e he) (by rfl) (by decide) fl_X0_15 dX0_thoseOut_13 ?_
        refine gx_iload_n C dX0_thoseOut_16 (by rfl) (by rfl) ?_
        refine gx_ialdN (k := i4) C (sh_e2 he) rfl (by omega) (by decide) dX0_thoseOut_17 ?_
        refine gx_st (st' := [.int (K 2 i4)]) (by rw [hK.r2 (p := i4) (by omega)]) ?_
        refine gx_iconst (v := (-1)) C dX0_thoseOut_18 (by decide) ?_
        refine gx_icmp_ne (tgt := 28) C dX0_thoseOut_19 (by decide) (fun h2 => ?_) (fun h2 => ?_)
        ·
          refine gx_iinc (v := nI (i4 + 1)) (lv2 := [(2, .int (nI (i4 + 1))), (0, .ref (eA E e)), (1, .int (bset i4 (inP K (-1))))]) C dX0_thoseOut_28 (by rfl) (by exact nI_p1 _) (by decide) rfl ?_
          refine gx_goto (tgt := 4) C dX0_thoseOut_31 (by decide) ?_
          refine gx_sub [1, 2, 0] (lv' := [(0, .ref (eA E e)), (1, .int (bset i4 (inP K (-1)))), (2, .int (nI (i4 + 1)))]) rfl ?_
          refine gx_lv (lv' := [(0, .ref (eA E e)), (1, .int (bset (i4 + 1) (inP K (-1)))), (2, .int (nI (i4 + 1)))]) (by rw [bset_f (n := i4) (P := inP K (-1)) (by omega) (by simp [inP, *])]) ?_
          exact ih4 (i4 + 1) (by omega) (by omega)
        ·
          refine gx_iload_n C dX0_thoseOut_22 (by rfl) (by rfl) ?_
          refine gx_iconst (v := 1) C dX0_thoseOut_23 (by decide) ?_
          refine gx_iload_n C dX0_thoseOut_24 (by rfl) (by rfl) ?_
          refine gx_ishl C dX0_thoseOut_25 ?_
          refine gx_ior C dX0_thoseOut_26 ?_
          refine gx_istore_n (lv2 := [(1, .int ((bset i4 (inP K (-1))) ||| (1 <<< ((nI i4) &&& 31)))), (0, .ref (eA E e)), (2, .int (nI i4))]) C dX0_thoseOut_27 (by rfl) (by decide) rfl ?_
          refine gx_iinc (v := nI (i4 + 1)) (lv2 := [(2, .int (nI (i4 + 1))), (1, .int ((bset i4 (inP K (-1))) ||| (1 <<< ((nI i4) &&& 31)))), (0, .ref (eA E e))]) C dX0_thoseOut_28 (by rfl) (by exact nI_p1 _) (by decide) rfl ?_
          refine gx_goto (tgt := 4) C dX0_thoseOut_31 (by decide) ?_
          refine gx_sub [2, 1, 0] (lv' := [(0, .ref (eA E e)), (1, .int ((bset i4 (inP K (-1))) ||| (1 <<< ((nI i4) &&& 31)))), (2, .int (nI (i4 + 1)))]) rfl ?_
          refine gx_lv (lv' := [(0, .ref (eA E e)), (1, .int (bset (i4 + 1) (inP K (-1)))), (2, .int (nI (i4 + 1)))]) (by rw [bset_t (n := i4) (P := inP K (-1)) (by omega) (by simp [inP, *])]) ?_
          exact ih4 (i4 + 1) (by omega) (by omega)
  refine gx_sub [2, 1, 0] (lv' := [(0, .ref (eA E e)), (1, .int 0), (2, .int 0)]) rfl ?_
  refine gx_lv (lv' := [(0, .ref (eA E e)), (1, .int (bset 0 (inP K (-1)))), (2, .int (nI 0))]) (by rfl) ?_
  exact loop4 (nn K + 1) 0 (by omega) (by omega)
set_option maxHeartbeats 4000000 in
set_option maxRecDepth 100000 in
theorem c_X0_goldOf (E : En) (σ : Mm) (e : Nat) (he : isE e) (K : Mm) (hK : Emp σ e K) (hO : Ok K) (P : Nat → Bool) : CtI E yX0_goldOf cX0_goldOf 4 (some .int) 0 0 [.ref (eA E e), .int (bset (nn K) P)] σ (fun rr σ2 => σ2 = σ ∧ rr = sm (K 5) P (nn K)) := by
  obtain ⟨⟨hn, h12⟩, hpp, hlw, hsp, hz0⟩ := id hO
  refine CtI.of (by decide +kernel) (Nat.le_of_ble_eq_true rfl) (fun p e0 s m below meth c C hr hlk => ?_)
  refine gx_lv (lv' := [(0, .ref (eA E e)), (1, .int (bset (nn K) P))]) rfl ?_
  refine gx_iconst (v := 0) C dX0_goldOf_0 (by decide) ?_
  refine gx_istore_n (lv2 := [(2, .int 0), (0, .ref (eA E e)), (1, .int (bset (nn K) P))]) C dX0_goldOf_1 (by rfl) (by decide) rfl ?_
  refine gx_iconst (v := 0) C dX0_goldOf_2 (by decide) ?_
  refine gx_istore_n (lv2 := [(3, .int 0), (2, .int 0), (0, .ref (eA E e)), (1, .int (bset (nn K) P))]) C dX0_goldOf_3 (by rfl) (by decide) rfl ?_
  have loop4 : ∀ (kf i4 : Nat), i4 ≤ nn K → nn K < i4 + kf → Gx E p e0 (rmF 0 0) s m ([.ref (eA E e), .int (bset (nn K) P)] : List Value).toArray below meth c (MQ below (va_Qi (fun rr σ2 => σ2 = σ ∧ rr = sm (K 5) P (nn K)) (WQ E) (AA E s.heap.size)) ([.ref (eA E e), .int (bset (nn K) P)] : List Value).toArray s 0 0 (AA E s.heap.size)) 4 4 [(0, .ref (eA E e)), (1, .int (bset (nn K) P)), (2, .int (sm (K 5) P i4)), (3, .int (nI i4))] [] σ := by
    intro kf
    induction kf with
    | zero => intro i4 q1 q2; exact absurd q2 (by omega)
    | succ kf ih4 =>
      intro i4 a4 b4
      refine gx_iload_n C dX0_goldOf_4 (by rfl) (by rfl) ?_
      refine gx_aload_n C dX0_goldOf_5 (by rfl) (by rfl) ?_
      refine gx_geti (k := 11) C ck0 (sh_e he) (by rfl) (by decide) fl_X0_58 dX0_goldOf_6 ?_
      refine gx_st (st' := [.int (nI (nn K)), .int (nI i4)]) (by rw [hK.n, hn]) ?_
      refine gx_icmp_ge (tgt := 35) C dX0_goldOf_9 (by decide) (fun h1 => ?_) (fun h1 => ?_)
      ·
        have h1 := (nI_leI (a := (nn K)) (b := i4) (by omega) (by omega)).mp h1
        refine gx_iload_n C dX0_goldOf_35 (by rfl) (by rfl) ?_
        exact gx_iret C hr hlk rfl ⟨rfl, by rw [show i4 = nn K by omega]⟩ dX0_goldOf_36
      ·
        have h1 := (not_congr (nI_leI (a := (nn K)) (b := i4) (by omega) (by omega))).mp h1
        refine gx_iload_n C dX0_goldOf_12 (by rfl) (by rfl) ?_
        refine gx_iload_n C dX0_goldOf_13 (by rfl) (by rfl) ?_
        refine gx_ishr C dX0_goldOf_14 ?_
        refine gx_iconst (v := 1) C dX0_goldOf_15 (by decide) ?_
        refine gx_iand C dX0_goldOf_16 ?_
        refine gx_if_eq (tgt := 29) C dX0_goldOf_17 (by decide) (fun h2 => ?_) (fun h2 => ?_)
        ·
          have h2 := (tb_z (n := (nn K)) (P := P) (p := i4) (by omega) (by omega)).mp h2
          refine gx_iinc (v := nI (i4 + 1)) (lv2 := [(3, .int (nI (i4 + 1))), (0, .ref (eA E e)), (1, .int (bset (nn K) P)), (2, .int (sm (K 5) P i4))]) C dX0_goldOf_29 (by rfl) (by exact nI_p1 _) (by decide) rfl ?_
          refine gx_goto (tgt := 4) C dX0_goldOf_32 (by decide) ?_
          refine gx_sub [1, 2, 3, 0] (lv' := [(0, .ref (eA E e)), (1, .int (bset (nn K) P)), (2, .int (sm (K 5) P i4)), (3, .int (nI (i4 + 1)))]) rfl ?_
          refine gx_lv (lv' := [(0, .ref (eA E e)), (1, .int (bset (nn K) P)), (2, .int (sm (K 5) P (i4 + 1))), (3, .int (nI (i4 + 1)))]) (by rw [sm_f (row := K 5) (P := P) (n := i4) (by assumption)]) ?_
          exact ih4 (i4 + 1) (by omega) (by omega)
        ·
          have h2 := (tb_nz (n := (nn K)) (P := P) (p := i4) (by omega) (by omega)).mp h2
          refine gx_iload_n C dX0_goldOf_20 (by rfl) (by rfl) ?_
          refine gx_aload_n C dX0_goldOf_21 (by rfl) (by rfl) ?_
          refine gx_getr (j := e + 5) (k := 4) C ck0 (sh_e he) (by rfl) (by decide) fl_X0_24 dX0_goldOf_22 ?_
          refine gx_iload_n C dX0_goldOf_25 (by rfl) (by rfl) ?_
          refine gx_ialdN (k := i4) C (sh_e5 he) rfl (by omega) (by decide) dX0_goldOf_26 ?_
          refine gx_st (st' := [.int (K 5 i4), .int (sm (K 5) P i4)]) (by rw [hK.r5 (p := i4) (by omega)]) ?_
          refine gx_iadd C dX0_goldOf_27 ?_
          refine gx_istore_n (lv2 := [(2, .int ((sm (K 5) P i4) + (K 5 i4))), (0, .ref (eA E e)), (1, .int (bset (nn K) P)), (3, .int (nI i4))]) C dX0_goldOf_28 (by rfl) (by decide) rfl ?_
          refine gx_iinc (v := nI (i4 + 1)) (lv2 := [(3, .int (nI (i4 + 1))), (2, .int ((sm (K 5) P i4) + (K 5 i4))), (0, .ref (eA E e)), (1, .int (bset (nn K) P))]) C dX0_goldOf_29 (by rfl) (by exact nI_p1 _) (by decide) rfl ?_
          refine gx_goto (tgt := 4) C dX0_goldOf_32 (by decide) ?_
          refine gx_sub [2, 3, 1, 0] (lv' := [(0, .ref (eA E e)), (1, .int (bset (nn K) P)), (2, .int ((sm (K 5) P i4) + (K 5 i4))), (3, .int (nI (i4 + 1)))]) rfl ?_
          refine gx_lv (lv' := [(0, .ref (eA E e)), (1, .int (bset (nn K) P)), (2, .int (sm (K 5) P (i4 + 1))), (3, .int (nI (i4 + 1)))]) (by rw [sm_t (row := K 5) (P := P) (n := i4) (by assumption)]) ?_
          exact ih4 (i4 + 1) (by omega) (by omega)
  refine gx_sub [2, 3, 1, 0] (lv' := [(0, .ref (eA E e)), (1, .int (bset (nn K) P)), (2, .int 0), (3, .int 0)]) rfl ?_
  refine gx_lv (lv' := [(0, .ref (eA E e)), (1, .int (bset (nn K) P)), (2, .int (sm (K 5) P 0)), (3, .int (nI 0))]) (by rfl) ?_
  exact loop4 (nn K + 1) 0 (by omega) (by omega)
set_option maxHeartbeats 4000000 in
set_option maxRecDepth 100000 in
theorem c_X0_withGrudge (E : En) (σ : Mm) (e : Nat) (he : isE e) (K : Mm) (hK : Emp σ e K) (hO : Ok K) : CtI E yX0_withGrudge cX0_withGrudge 3 (some .int) 0 0 [.ref (eA E e)] σ (fun rr σ2 => σ2 = σ ∧ rr = nI (cnt (fun q => !decide (K 6 q = -1)) (nn K))) := by
  obtain ⟨⟨hn, h12⟩, hpp, hlw, hsp, hz0⟩ := id hO
  refine CtI.of (by decide +kernel) (Nat.le_of_ble_eq_true rfl) (fun p e0 s m below meth c C hr hlk => ?_)
  refine gx_lv (lv' := [(0, .ref (eA E e))]) rfl ?_
  refine gx_iconst (v := 0) C dX0_withGrudge_0 (by decide) ?_
  refine gx_istore_n (lv2 := [(1, .int 0), (0, .ref (eA E e))]) C dX0_withGrudge_1 (by rfl) (by decide) rfl ?_
  refine gx_iconst (v := 0) C dX0_withGrudge_2 (by decide) ?_
  refine gx_istore_n (lv2 := [(2, .int 0), (1, .int 0), (0, .ref (eA E e))]) C dX0_withGrudge_3 (by rfl) (by decide) rfl ?_
  have loop4 : ∀ (kf i4 : Nat), i4 ≤ nn K → nn K < i4 + kf → Gx E p e0 (rmF 0 0) s m ([.ref (eA E e)] : List Value).toArray below meth c (MQ below (va_Qi (fun rr σ2 => σ2 = σ ∧ rr = nI (cnt (fun q => !decide (K 6 q = -1)) (nn K))) (WQ E) (AA E s.heap.size)) ([.ref (eA E e)] : List Value).toArray s 0 0 (AA E s.heap.size)) 3 4 [(0, .ref (eA E e)), (1, .int (nI (cnt (fun q => !decide (K 6 q = -1)) i4))), (2, .int (nI i4))] [] σ := by
    intro kf
    induction kf with
    | zero => intro i4 q1 q2; exact absurd q2 (by omega)
    | succ kf ih4 =>
      intro i4 a4 b4
      refine gx_iload_n C dX0_withGrudge_4 (by rfl) (by rfl) ?_
      refine gx_aload_n C dX0_withGrudge_5 (by rfl) (by rfl) ?_
      refine gx_geti (k := 11) C ck0 (sh_e he) (by rfl) (by decide) fl_X0_58 dX0_withGrudge_6 ?_
      refine gx_st (st' := [.int (nI (nn K)), .int (nI i4)]) (by rw [hK.n, hn]) ?_
      refine gx_icmp_ge (tgt := 31) C dX0_withGrudge_9 (by decide) (fun h1 => ?_) (fun h1 => ?_)
      ·
        have h1 := (nI_leI (a := (nn K)) (b := i4) (by omega) (by omega)).mp h1
        refine gx_iload_n C dX0_withGrudge_31 (by rfl) (by rfl) ?_
        exact gx_iret C hr hlk rfl ⟨rfl, by rw [show i4 = nn K by omega]⟩ dX0_withGrudge_32
      ·
        have h1 := (not_congr (nI_leI (a := (nn K)) (b := i4) (by omega) (by omega))).mp h1
        refine gx_aload_n C dX0_withGrudge_12 (by rfl) (by rfl) ?_
        refine gx_getr (j := e + 6) (k := 5) C ck0 (sh_e he) (by rfl) (by decide) fl_X0_27 dX0_withGrudge_13 ?_
        refine gx_iload_n C dX0_withGrudge_16 (by rfl) (by rfl) ?_
        refine gx_ialdN (k := i4) C (sh_e6 he) rfl (by omega) (by decide) dX0_withGrudge_17 ?_
        refine gx_st (st' := [.int (K 6 i4)]) (by rw [hK.r6 (p := i4) (by omega)]) ?_
        refine gx_iconst (v := (-1)) C dX0_withGrudge_18 (by decide) ?_
        refine gx_icmp_eq (tgt := 25) C dX0_withGrudge_19 (by decide) (fun h2 => ?_) (fun h2 => ?_)
        ·
          refine gx_iinc (v := nI (i4 + 1)) (lv2 := [(2, .int (nI (i4 + 1))), (0, .ref (eA E e)), (1, .int (nI (cnt (fun q => !decide (K 6 q = -1)) i4)))]) C dX0_withGrudge_25 (by rfl) (by exact nI_p1 _) (by decide) rfl ?_
          refine gx_goto (tgt := 4) C dX0_withGrudge_28 (by decide) ?_
          refine gx_sub [1, 2, 0] (lv' := [(0, .ref (eA E e)), (1, .int (nI (cnt (fun q => !decide (K 6 q = -1)) i4))), (2, .int (nI (i4 + 1)))]) rfl ?_
          refine gx_lv (lv' := [(0, .ref (eA E e)), (1, .int (nI (cnt (fun q => !decide (K 6 q = -1)) (i4 + 1)))), (2, .int (nI (i4 + 1)))]) (by rw [cnt_f (n := i4) (P := fun q => !decide (K 6 q = -1)) (by simp [*])]) ?_
          exact ih4 (i4 + 1) (by omega) (by omega)
        ·
          refine gx_iinc (v := nI (cnt (fun q => !decide (K 6 q = -1)) i4 + 1)) (lv2 := [(1, .int (nI (cnt (fun q => !decide (K 6 q = -1)) i4 + 1))), (0, .ref (eA E e)), (2, .int (nI i4))]) C dX0_withGrudge_22 (by rfl) (by exact nI_p1 _) (by decide) rfl ?_
          refine gx_iinc (v := nI (i4 + 1)) (lv2 := [(2, .int (nI (i4 + 1))), (1, .int (nI (cnt (fun q => !decide (K 6 q = -1)) i4 + 1))), (0, .ref (eA E e))]) C dX0_withGrudge_25 (by rfl) (by exact nI_p1 _) (by decide) rfl ?_
          refine gx_goto (tgt := 4) C dX0_withGrudge_28 (by decide) ?_
          refine gx_sub [2, 1, 0] (lv' := [(0, .ref (eA E e)), (1, .int (nI (cnt (fun q => !decide (K 6 q = -1)) i4 + 1))), (2, .int (nI (i4 + 1)))]) rfl ?_
          refine gx_lv (lv' := [(0, .ref (eA E e)), (1, .int (nI (cnt (fun q => !decide (K 6 q = -1)) (i4 + 1)))), (2, .int (nI (i4 + 1)))]) (by rw [cntS_t (n := i4) (P := fun q => !decide (K 6 q = -1)) (by simp [*])]) ?_
          exact ih4 (i4 + 1) (by omega) (by omega)
  refine gx_sub [2, 1, 0] (lv' := [(0, .ref (eA E e)), (1, .int 0), (2, .int 0)]) rfl ?_
  refine gx_lv (lv' := [(0, .ref (eA E e)), (1, .int (nI (cnt (fun q => !decide (K 6 q = -1)) 0))), (2, .int (nI 0))]) (by rfl) ?_
  exact loop4 (nn K + 1) 0 (by omega) (by omega)
set_option maxHeartbeats 4000000 in
set_option maxRecDepth 100000 in
theorem c_X0_mostBy (E : En) (σ : Mm) (e : Nat) (he : isE e) (K : Mm) (hK : Emp σ e K) (hO : Ok K) (j : Nat) (hj : j = 3 ∨ j = 5) (P : Nat → Bool) : CtI E yX0_mostBy cX0_mostBy 5 (some .int) 0 0 [.ref (eA E e), .ref (eA E (e + j)), .int (bset (nn K) P)] σ (fun rr σ2 => σ2 = σ ∧ rr = mx (K j) P (nn K)) := by
  obtain ⟨⟨hn, h12⟩, hpp, hlw, hsp, hz0⟩ := id hO
  refine CtI.of (by decide +kernel) (Nat.le_of_ble_eq_true rfl) (fun p e0 s m below meth c C hr hlk => ?_)
  refine gx_lv (lv' := [(0, .ref (eA E e)), (1, .ref (eA E (e + j))), (2, .int (bset (nn K) P))]) rfl ?_
  refine gx_iconst (v := (-1)) C dX0_mostBy_0 (by decide) ?_
  refine gx_istore_n (lv2 := [(3, .int (-1)), (0, .ref (eA E e)), (1, .ref (eA E (e + j))), (2, .int (bset (nn K) P))]) C dX0_mostBy_1 (by rfl) (by decide) rfl ?_
  refine gx_iconst (v := 0) C dX0_mostBy_2 (by decide) ?_
  refine gx_istore (lv2 := [(4, .int 0), (3, .int (-1)), (0, .ref (eA E e)), (1, .ref (eA E (e + j))), (2, .int (bset (nn K) P))]) C dX0_mostBy_3 (by decide) rfl ?_
  have loop5 : ∀ (kf i5 : Nat), i5 ≤ nn K → nn K < i5 + kf → Gx E p e0 (rmF 0 0) s m ([.ref (eA E e), .ref (eA E (e + j)), .int (bset (nn K) P)] : List Value).toArray below meth c (MQ below (va_Qi (fun rr σ2 => σ2 = σ ∧ rr = mx (K j) P (nn K)) (WQ E) (AA E s.heap.size)) ([.ref (eA E e), .ref (eA E (e + j)), .int (bset (nn K) P)] : List Value).toArray s 0 0 (AA E s.heap.size)) 5 5 [(0, .ref (eA E e)), (1, .ref (eA E (e + j))), (2, .int (bset (nn K) P)), (3, .int (mx (K j) P i5)), (4, .int (nI i5))] [] σ := by
    intro kf
    induction kf with
    | zero => intro i5 q1 q2; exact absurd q2 (by omega)
    | succ kf ih5 =>
      intro i5 a5 b5
      refine gx_iload C dX0_mostBy_5 (by rfl) ?_
      refine gx_aload_n C dX0_mostBy_7 (by rfl) (by rfl) ?_
      refine gx_geti (k := 11) C ck0 (sh_e he) (by rfl) (by decide) fl_X0_58 dX0_mostBy_8 ?_
      refine gx_st (st' := [.int (nI (nn K)), .int (nI i5)]) (by rw [hK.n, hn]) ?_
      refine gx_icmp_ge (tgt := 47) C dX0_mostBy_11 (by decide) (fun h1 => ?_) (fun h1 => ?_)
      ·
        have h1 := (nI_leI (a := (nn K)) (b := i5) (by omega) (by omega)).mp h1
        refine gx_iload_n C dX0_mostBy_47 (by rfl) (by rfl) ?_
        exact gx_iret C hr hlk rfl ⟨rfl, by rw [show i5 = nn K by omega]⟩ dX0_mostBy_48
      ·
        have h1 := (not_congr (nI_leI (a := (nn K)) (b := i5) (by omega) (by omega))).mp h1
        refine gx_iload_n C dX0_mostBy_14 (by rfl) (by rfl) ?_
        refine gx_iload C dX0_mostBy_15 (by rfl) ?_
        refine gx_ishr C dX0_mostBy_17 ?_
        refine gx_iconst (v := 1) C dX0_mostBy_18 (by decide) ?_
        refine gx_iand C dX0_mostBy_19 ?_
        refine gx_if_eq (tgt := 41) C dX0_mostBy_20 (by decide) (fun h2 => ?_) (fun h2 => ?_)
        ·
          have h2 := (tb_z (n := (nn K)) (P := P) (p := i5) (by omega) (by omega)).mp h2
          refine gx_iinc (v := nI (i5 + 1)) (lv2 := [(4, .int (nI (i5 + 1))), (0, .ref (eA E e)), (1, .ref (eA E (e + j))), (2, .int (bset (nn K) P)), (3, .int (mx (K j) P i5))]) C dX0_mostBy_41 (by rfl) (by exact nI_p1 _) (by decide) rfl ?_
          refine gx_goto (tgt := 5) C dX0_mostBy_44 (by decide) ?_
          refine gx_sub [1, 2, 3, 4, 0] (lv' := [(0, .ref (eA E e)), (1, .ref (eA E (e + j))), (2, .int (bset (nn K) P)), (3, .int (mx (K j) P i5)), (4, .int (nI (i5 + 1)))]) rfl ?_
          refine gx_lv (lv' := [(0, .ref (eA E e)), (1, .ref (eA E (e + j))), (2, .int (bset (nn K) P)), (3, .int (mx (K j) P (i5 + 1))), (4, .int (nI (i5 + 1)))]) (by first | rw [mx_f1 (by assumption)] | rw [mx_f2 rfl (by omega) (by assumption)]) ?_
          exact ih5 (i5 + 1) (by omega) (by omega)
        ·
          have h2 := (tb_nz (n := (nn K)) (P := P) (p := i5) (by omega) (by omega)).mp h2
          refine gx_iload_n C dX0_mostBy_23 (by rfl) (by rfl) ?_
          refine gx_iconst (v := (-1)) C dX0_mostBy_24 (by decide) ?_
          refine gx_icmp_eq (tgt := 38) C dX0_mostBy_25 (by decide) (fun h3 => ?_) (fun h3 => ?_)
          ·
            refine gx_iload C dX0_mostBy_38 (by rfl) ?_
            refine gx_istore_n (lv2 := [(3, .int (nI i5)), (0, .ref (eA E e)), (1, .ref (eA E (e + j))), (2, .int (bset (nn K) P)), (4, .int (nI i5))]) C dX0_mostBy_40 (by rfl) (by decide) rfl ?_
            refine gx_iinc (v := nI (i5 + 1)) (lv2 := [(4, .int (nI (i5 + 1))), (3, .int (nI i5)), (0, .ref (eA E e)), (1, .ref (eA E (e + j))), (2, .int (bset (nn K) P))]) C dX0_mostBy_41 (by rfl) (by exact nI_p1 _) (by decide) rfl ?_
            refine gx_goto (tgt := 5) C dX0_mostBy_44 (by decide) ?_
            refine gx_sub [2, 3, 4, 1, 0] (lv' := [(0, .ref (eA E e)), (1, .ref (eA E (e + j))), (2, .int (bset (nn K) P)), (3, .int (nI i5)), (4, .int (nI (i5 + 1)))]) rfl ?_
            refine gx_lv (lv' := [(0, .ref (eA E e)), (1, .ref (eA E (e + j))), (2, .int (bset (nn K) P)), (3, .int (mx (K j) P (i5 + 1))), (4, .int (nI (i5 + 1)))]) (by first | rw [mx_t1 (by assumption) (by assumption)] | rw [mx_t2 (by assumption) rfl (by omega) (by assumption)]) ?_
            exact ih5 (i5 + 1) (by omega) (by omega)
          ·
            refine gx_aload_n C dX0_mostBy_28 (by rfl) (by rfl) ?_
            refine gx_iload C dX0_mostBy_29 (by rfl) ?_
            refine gx_ialdN (k := i5) C (sh_ej he hj) rfl (by omega) (by decide) dX0_mostBy_31 ?_
            refine gx_st (st' := [.int (K j i5)]) (by rw [hK.rJ hj (p := i5) (by omega)]) ?_
            refine gx_aload_n C dX0_mostBy_32 (by rfl) (by rfl) ?_
            refine gx_iload_n C dX0_mostBy_33 (by rfl) (by rfl) ?_
            obtain ⟨f4, fl4, ef4, -⟩ := (mx_or (K j) P i5).resolve_left (by assumption)
            refine gx_st (st' := [.int (nI f4), .ref (eA E (e + j)), .int (K j i5)]) (by rw [ef4]) ?_
            refine gx_ialdN (k := f4) C (sh_ej he hj) rfl (by omega) (by decide) dX0_mostBy_34 ?_
            refine gx_st (st' := [.int (K j f4), .int (K j i5)]) (by rw [hK.rJ hj (p := f4) (by omega)]) ?_
            refine gx_icmp_le (tgt := 41) C dX0_mostBy_35 (by decide) (fun h5 => ?_) (fun h5 => ?_)
            ·
              refine gx_iinc (v := nI (i5 + 1)) (lv2 := [(4, .int (nI (i5 + 1))), (0, .ref (eA E e)), (1, .ref (eA E (e + j))), (2, .int (bset (nn K) P)), (3, .int (mx (K j) P i5))]) C dX0_mostBy_41 (by rfl) (by exact nI_p1 _) (by decide) rfl ?_
              refine gx_goto (tgt := 5) C dX0_mostBy_44 (by decide) ?_
              refine gx_sub [1, 2, 3, 4, 0] (lv' := [(0, .ref (eA E e)), (1, .ref (eA E (e + j))), (2, .int (bset (nn K) P)), (3, .int (mx (K j) P i5)), (4, .int (nI (i5 + 1)))]) rfl ?_
              refine gx_lv (lv' := [(0, .ref (eA E e)), (1, .ref (eA E (e + j))), (2, .int (bset (nn K) P)), (3, .int (mx (K j) P (i5 + 1))), (4, .int (nI (i5 + 1)))]) (by first | rw [mx_f1 (by assumption)] | rw [mx_f2 ef4 (by omega) (by assumption)]) ?_
              exact ih5 (i5 + 1) (by omega) (by omega)
            ·
              refine gx_iload C dX0_mostBy_38 (by rfl) ?_
              refine gx_istore_n (lv2 := [(3, .int (nI i5)), (0, .ref (eA E e)), (1, .ref (eA E (e + j))), (2, .int (bset (nn K) P)), (4, .int (nI i5))]) C dX0_mostBy_40 (by rfl) (by decide) rfl ?_
              refine gx_iinc (v := nI (i5 + 1)) (lv2 := [(4, .int (nI (i5 + 1))), (3, .int (nI i5)), (0, .ref (eA E e)), (1, .ref (eA E (e + j))), (2, .int (bset (nn K) P))]) C dX0_mostBy_41 (by rfl) (by exact nI_p1 _) (by decide) rfl ?_
              refine gx_goto (tgt := 5) C dX0_mostBy_44 (by decide) ?_
              refine gx_sub [2, 3, 4, 1, 0] (lv' := [(0, .ref (eA E e)), (1, .ref (eA E (e + j))), (2, .int (bset (nn K) P)), (3, .int (nI i5)), (4, .int (nI (i5 + 1)))]) rfl ?_
              refine gx_lv (lv' := [(0, .ref (eA E e)), (1, .ref (eA E (e + j))), (2, .int (bset (nn K) P)), (3, .int (mx (K j) P (i5 + 1))), (4, .int (nI (i5 + 1)))]) (by first | rw [mx_t1 (by assumption) (by assumption)] | rw [mx_t2 (by assumption) ef4 (by omega) (by assumption)]) ?_
              exact ih5 (i5 + 1) (by omega) (by omega)
  refine gx_sub [2, 3, 4, 1, 0] (lv' := [(0, .ref (eA E e)), (1, .ref (eA E (e + j))), (2, .int (bset (nn K) P)), (3, .int (-1)), (4, .int 0)]) rfl ?_
  refine gx_lv (lv' := [(0, .ref (eA E e)), (1, .ref (eA E (e + j))), (2, .int (bset (nn K) P)), (3, .int (mx (K j) P 0)), (4, .int (nI 0))]) (by rfl) ?_
  exact loop5 (nn K + 1) 0 (by omega) (by omega)
set_option maxHeartbeats 4000000 in
set_option maxRecDepth 100000 in
theorem c_X0_leastOf (E : En) (σ : Mm) (e : Nat) (he : isE e) (K : Mm) (hK : Emp σ e K) (hO : Ok K) (P : Nat → Bool) : CtI E yX0_leastOf cX0_leastOf 3 (some .int) 0 0 [.ref (eA E e), .int (bset (nn K) P)] σ (fun rr σ2 => σ2 = σ ∧ rr = lo P (nn K)) := by
  obtain ⟨⟨hn, h12⟩, hpp, hlw, hsp, hz0⟩ := id hO
  refine CtI.of (by decide +kernel) (Nat.le_of_ble_eq_true rfl) (fun p e0 s m below meth c C hr hlk => ?_)
  refine gx_lv (lv' := [(0, .ref (eA E e)), (1, .int (bset (nn K) P))]) rfl ?_
  refine gx_iconst (v := 0) C dX0_leastOf_0 (by decide) ?_
  refine gx_istore_n (lv2 := [(2, .int 0), (0, .ref (eA E e)), (1, .int (bset (nn K) P))]) C dX0_leastOf_1 (by rfl) (by decide) rfl ?_
  have loop2 : ∀ (kf i2 : Nat), i2 ≤ nn K → nn K < i2 + kf → (∀ q, q < i2 → P q = false) → Gx E p e0 (rmF 0 0) s m ([.ref (eA E e), .int (bset (nn K) P)] : List Value).toArray below meth c (MQ below (va_Qi (fun rr σ2 => σ2 = σ ∧ rr = lo P (nn K)) (WQ E) (AA E s.heap.size)) ([.ref (eA E e), .int (bset (nn K) P)] : List Value).toArray s 0 0 (AA E s.heap.size)) 3 2 [(0, .ref (eA E e)), (1, .int (bset (nn K) P)), (2, .int (nI i2))] [] σ := by
    intro kf
    induction kf with
    | zero => intro i2 q1 q2; exact absurd q2 (by omega)
    | succ kf ih2 =>
      intro i2 a2 b2 hx4
      refine gx_iload_n C dX0_leastOf_2 (by rfl) (by rfl) ?_
      refine gx_aload_n C dX0_leastOf_3 (by rfl) (by rfl) ?_
      refine gx_geti (k := 11) C ck0 (sh_e he) (by rfl) (by decide) fl_X0_58 dX0_leastOf_4 ?_
      refine gx_st (st' := [.int (nI (nn K)), .int (nI i2)]) (by rw [hK.n, hn]) ?_
      refine gx_icmp_ge (tgt := 26) C dX0_leastOf_7 (by decide) (fun h1 => ?_) (fun h1 => ?_)
      ·
        have h1 := (nI_leI (a := (nn K)) (b := i2) (by omega) (by omega)).mp h1
        refine gx_iconst (v := (-1)) C dX0_leastOf_26 (by decide) ?_
        exact gx_iret C hr hlk rfl ⟨rfl, (lo_no (fun q hq => hx4 q (by omega))).symm⟩ dX0_leastOf_27
      ·
        have h1 := (not_congr (nI_leI (a := (nn K)) (b := i2) (by omega) (by omega))).mp h1
        refine gx_iload_n C dX0_leastOf_10 (by rfl) (by rfl) ?_
        refine gx_iload_n C dX0_leastOf_11 (by rfl) (by rfl) ?_
        refine gx_ishr C dX0_leastOf_12 ?_
        refine gx_iconst (v := 1) C dX0_leastOf_13 (by decide) ?_
        refine gx_iand C dX0_leastOf_14 ?_
        refine gx_if_eq (tgt := 20) C dX0_leastOf_15 (by decide) (fun h2 => ?_) (fun h2 => ?_)
        ·
          have h2 := (tb_z (n := (nn K)) (P := P) (p := i2) (by omega) (by omega)).mp h2
          refine gx_iinc (v := nI (i2 + 1)) (lv2 := [(2, .int (nI (i2 + 1))), (0, .ref (eA E e)), (1, .int (bset (nn K) P))]) C dX0_leastOf_20 (by rfl) (by exact nI_p1 _) (by decide) rfl ?_
          refine gx_goto (tgt := 2) C dX0_leastOf_23 (by decide) ?_
          refine gx_sub [1, 2, 0] (lv' := [(0, .ref (eA E e)), (1, .int (bset (nn K) P)), (2, .int (nI (i2 + 1)))]) rfl ?_
          exact ih2 (i2 + 1) (by omega) (by omega) (lt_s hx4 (by assumption))
        ·
          have h2 := (tb_nz (n := (nn K)) (P := P) (p := i2) (by omega) (by omega)).mp h2
          refine gx_iload_n C dX0_leastOf_18 (by rfl) (by rfl) ?_
          exact gx_iret C hr hlk rfl ⟨rfl, (lo_at hx4 (by assumption) (by omega) (nn K) (by omega)).symm⟩ dX0_leastOf_19
  refine gx_sub [1, 2, 0] (lv' := [(0, .ref (eA E e)), (1, .int (bset (nn K) P)), (2, .int 0)]) rfl ?_
  refine gx_lv (lv' := [(0, .ref (eA E e)), (1, .int (bset (nn K) P)), (2, .int (nI 0))]) (by rfl) ?_
  exact loop2 (nn K + 1) 0 (by omega) (by omega) (fun q hq => absurd hq (by omega))
set_option maxHeartbeats 4000000 in
set_option maxRecDepth 100000 in
theorem c_X0_firstByLaw (E : En) (σ : Mm) (e : Nat) (he : isE e) (K : Mm) (hK : Emp σ e K) (hO : Ok K) (P : Nat → Bool) : CtI E yX0_firstByLaw cX0_firstByLaw 2 (some .int) 1 24 [.ref (eA E e), .int (bset (nn K) P)] σ (fun rr σ2 => σ2 = σ ∧ rr = hrS K P) := by
  obtain ⟨⟨hn, h12⟩, hpp, hlw, hsp, hz0⟩ := id hO
  refine CtI.of (by decide +kernel) (Nat.le_of_ble_eq_true rfl) (fun p e0 s m below meth c C hr hlk => ?_)
  refine gx_lv (lv' := [(0, .ref (eA E e)), (1, .int (bset (nn K) P))]) rfl ?_
  refine gx_aload_n C dX0_firstByLaw_0 (by rfl) (by rfl) ?_
  refine gx_getr (j := e + 10) (k := 9) C ck0 (sh_e he) (by rfl) (by decide) fl_X0_39 dX0_firstByLaw_1 ?_
  refine gx_iconst (v := 0) C dX0_firstByLaw_4 (by decide) ?_
  refine gx_ialdN (k := 0) C (sh_e10 he) (by rfl) (by decide) (by decide) dX0_firstByLaw_5 ?_
  refine gx_st (st' := [.int (K 9 0)]) (by rw [hK.r9 (p := 0) (by omega)]) ?_
  by_cases ex1_0 : K 9 0 = 0
  ·
    refine gx_look (off := 26) (tgt := 32) C dX0_firstByLaw_6 (by decide) (by rw [ex1_0]; decide) (by decide) ?_
    refine gx_aload_n C dX0_firstByLaw_32 (by rfl) (by rfl) ?_
    refine gx_aload_n C dX0_firstByLaw_33 (by rfl) (by rfl) ?_
    refine gx_getr (j := e + 3) (k := 2) C ck0 (sh_e he) (by rfl) (by decide) fl_X0_18 dX0_firstByLaw_34 ?_
    refine gx_iload_n C dX0_firstByLaw_37 (by rfl) (by rfl) ?_
    refine gx_callVI (As := [.ref (eA E (e + 3)), .int (bset (nn K) P)]) (rest := []) C (c_X0_mostBy E σ e he K hK hO 3 (by decide) P) z_X0_mostBy ck0 (sh_e he) (by rfl) ml_X0_93 (by rfl) (Nat.le_of_ble_eq_true rfl) ⟨Nat.le_of_ble_eq_true rfl, Nat.le_of_ble_eq_true rfl⟩ dX0_firstByLaw_38 (fun r2 σ2 w2 => ?_)
    obtain ⟨u1, u2⟩ := w2; rw [u1, u2]; clear u1 u2
    exact gx_iret C hr hlk rfl ⟨rfl, by unfold hrS; grind⟩ dX0_firstByLaw_41
  by_cases ex1_1 : K 9 0 = 1
  ·
    refine gx_look (off := 36) (tgt := 42) C dX0_firstByLaw_6 (by decide) (by rw [ex1_1]; decide) (by decide) ?_
    refine gx_aload_n C dX0_firstByLaw_42 (by rfl) (by rfl) ?_
    refine gx_aload_n C dX0_firstByLaw_43 (by rfl) (by rfl) ?_
    refine gx_getr (j := e + 5) (k := 4) C ck0 (sh_e he) (by rfl) (by decide) fl_X0_24 dX0_firstByLaw_44 ?_
    refine gx_iload_n C dX0_firstByLaw_47 (by rfl) (by rfl) ?_
    refine gx_callVI (As := [.ref (eA E (e + 5)), .int (bset (nn K) P)]) (rest := []) C (c_X0_mostBy E σ e he K hK hO 5 (by decide) P) z_X0_mostBy ck0 (sh_e he) (by rfl) ml_X0_93 (by rfl) (Nat.le_of_ble_eq_true rfl) ⟨Nat.le_of_ble_eq_true rfl, Nat.le_of_ble_eq_true rfl⟩ dX0_firstByLaw_48 (fun r3 σ3 w3 => ?_)
    obtain ⟨u1, u2⟩ := w3; rw [u1, u2]; clear u1 u2
    exact gx_iret C hr hlk rfl ⟨rfl, by unfold hrS; grind⟩ dX0_firstByLaw_51
  refine gx_look (off := 46) (tgt := 52) C dX0_firstByLaw_6 (by decide) (by show Op.lookupswitch.offset [(0, 26), (1, 36)] 46 _ = _; simp only [Op.lookupswitch.offset_cons, Op.lookupswitch.offset_nil]; rw [if_neg (fun q9 => ex1_0 (Int32.toInt_inj.mp (q9.symm.trans (by decide))))]; rw [if_neg (fun q9 => ex1_1 (Int32.toInt_inj.mp (q9.symm.trans (by decide))))]) (by decide) ?_
  refine gx_aload_n C dX0_firstByLaw_52 (by rfl) (by rfl) ?_
  refine gx_iload_n C dX0_firstByLaw_53 (by rfl) (by rfl) ?_
  refine gx_callVI (As := [.int (bset (nn K) P)]) (rest := []) C (c_X0_leastOf E σ e he K hK hO P) z_X0_leastOf ck0 (sh_e he) (by rfl) ml_X0_121 (by rfl) (Nat.le_of_ble_eq_true rfl) ⟨Nat.le_of_ble_eq_true rfl, Nat.le_of_ble_eq_true rfl⟩ dX0_firstByLaw_54 (fun r4 σ4 w4 => ?_)
  obtain ⟨u1, u2⟩ := w4; rw [u1, u2]; clear u1 u2
  exact gx_iret C hr hlk rfl ⟨rfl, by unfold hrS; grind⟩ dX0_firstByLaw_57
