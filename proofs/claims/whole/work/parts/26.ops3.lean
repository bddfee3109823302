section GX2
variable {E : En} {p : Program} {e : Env} {R : Room} {s : State} {m : MethodId} {args : Array Value} {below : List Frame} {meth : Method} {c : Code} {Q : State → Prop} {nL pc : Nat} {lv : List (Nat × Value)} {st : List Value} {σ : Mm} {cc : ByteArray} {own : String} {w0 : Cond}
theorem gx_aload_nN (C : Cx E p s m args c cc own nL w0) {j : Fin 4} {i : Nat} (d : decode cc pc = .ok (.aload_n j, 1)) (hi : (j : Nat) = i) (h : lvg lv i = some .null) (k : Gx E p e R s m args below meth c Q nL (pc + 1) lv (.null :: st) σ) : Gx E p e R s m args below meth c Q nL pc lv (st) σ := fun H locs ls hP hS hl => lv_aload_nN C.1 C.2.1 d hi (lvg_has hl h) (k H locs ls hP hS hl)
theorem gx_aloadN (C : Cx E p s m args c cc own nL w0) {i : Nat} (d : decode cc pc = .ok (.aload i, 2)) (h : lvg lv i = some .null) (k : Gx E p e R s m args below meth c Q nL (pc + 2) lv (.null :: st) σ) : Gx E p e R s m args below meth c Q nL pc lv (st) σ := fun H locs ls hP hS hl => lv_aloadN C.1 C.2.1 d (lvg_has hl h) (k H locs ls hP hS hl)
theorem gx_astore_nN (C : Cx E p s m args c cc own nL w0) {j : Fin 4} {i : Nat} {lv2 : List (Nat × Value)} (d : decode cc pc = .ok (.astore_n j, 1)) (hi : (j : Nat) = i) (hn : i < nL) (h2 : lvs lv i .null = lv2) (k : Gx E p e R s m args below meth c Q nL (pc + 1) lv2 st σ) : Gx E p e R s m args below meth c Q nL pc lv (.null :: st) σ := fun H locs ls hP hS hl => lv_astore_nN C.1 C.2.1 d hi hl hn h2 (fun ls hl => k H locs ls hP hS hl)
theorem gx_astoreN (C : Cx E p s m args c cc own nL w0) {i : Nat} {lv2 : List (Nat × Value)} (d : decode cc pc = .ok (.astore i, 2)) (hn : i < nL) (h2 : lvs lv i .null = lv2) (k : Gx E p e R s m args below meth c Q nL (pc + 2) lv2 st σ) : Gx E p e R s m args below meth c Q nL pc lv (.null :: st) σ := fun H locs ls hP hS hl => lv_astoreN C.1 C.2.1 d hl hn h2 (fun ls hl => k H locs ls hP hS hl)
end GX2
/-! WHAT EACH CALL ANSWERS AND DOES (gifts, laws compared, rumours, tape, sheets) -/
def canT (K : Mm) (p : Nat) (v : Int32) : Prop := (0 ≤ K 6 p ∧ K 6 p < K 0 0) ∧ v ≤ K 5 (cl (K 6 p)) ∧ K 5 p + v ≤ 9999
def lsF (K : Mm) (p g n : Nat) : Nat → Nat → Int32
  | 0, _ => -1
  | f + 1, v => if (0 ≤ K 6 p ∧ K 6 p < K 0 0) ∧ nI v ≤ K 5 (cl (K 6 p)) ∧ K 5 p + nI v ≤ 9999 then (if ¬ mos n (tkK K p g (nI v)) 2 g = -1 then nI v else lsF K p g n f (v + 1)) else -1
def opLeast (A : As) (p n : Int32) : Int32 × As :=
  if (0 ≤ p ∧ p < A.1 0 0) ∧ (1 ≤ n ∧ n ≤ 24) then (if ¬ (0 ≤ A.1 6 (cl p) ∧ A.1 6 (cl p) < A.1 0 0) ∨ A.1 2 (cl (A.1 6 (cl p))) = -1 ∨ 999 < A.1 0 1 + n then sta A else if lsF A.1 (cl p) (cl (A.1 6 (cl p))) (cl n) 1000 0 = -1 then non A else (lsF A.1 (cl p) (cl (A.1 6 (cl p))) (cl n) 1000 0, A)) else bey A
def bsF (K : Mm) (p n : Nat) : Nat → Int32 × Int32
  | 0 => (0, 9)
  | l + 1 => if sd (mos n (up2 K 9 0 (nI l))) p < (bsF K p n l).2 then (nI l, sd (mos n (up2 K 9 0 (nI l))) p) else bsF K p n l
def opBest (A : As) (p n : Int32) : Int32 × As :=
  if (0 ≤ p ∧ p < A.1 0 0) ∧ (1 ≤ n ∧ n ≤ 60) then (if 999 < A.1 0 1 + n then sta A else ((bsF A.1 (cl p) (cl n) 3).1, A)) else bey A
def pfF (K : Mm) (n : Nat) : Nat → Int32 × Int32
  | 0 => (1, 13)
  | l + 1 => if mos n (up2 K 9 1 (nI (l + 1))) 0 2 - K 0 2 < (pfF K n l).2 then (nI (l + 1), mos n (up2 K 9 1 (nI (l + 1))) 0 2 - K 0 2) else pfF K n l
def opPartsFor (A : As) (n : Int32) : Int32 × As :=
  if 1 ≤ n ∧ n ≤ 60 then (if 999 < A.1 0 1 + n then sta A else ((pfF A.1 (cl n) 5).1, A)) else bey A
def kfF (K : Mm) (p n : Nat) : Nat → Int32 × Int32
  | 0 => (0, -1)
  | l + 1 => if (kfF K p n l).2 < mos n (up2 K 1 p (nI l)) 5 p then (nI l, mos n (up2 K 1 p (nI l)) 5 p) else kfF K p n l
def opKindFor (A : As) (p n : Int32) : Int32 × As :=
  if (0 ≤ p ∧ p < A.1 0 0) ∧ (1 ≤ n ∧ n ≤ 60) then (if 999 < A.1 0 1 + n then sta A else ((kfF A.1 (cl p) (cl n) 7).1, A)) else bey A
def ruQ (p q : Nat) : Int32 := if nI q = nI p then -1 else nI q
def ruS (K : Mm) : Mm := up2 (up2 (up2 (up2 K 0 3 (drZ (K 0 3))) 0 3 (drZ (drZ (K 0 3)))) 6 (drN (drZ (K 0 3)) (nn K)) (ruQ (drN (drZ (K 0 3)) (nn K)) (drN (drZ (drZ (K 0 3))) (nn K)))) 7 (drN (drZ (K 0 3)) (nn K)) 0
def ruF : Nat → Mm → Mm
  | 0, K => K
  | i + 1, K => ruS (ruF i K)
def opRumours (A : As) (n : Int32) : Int32 × As :=
  if 1 ≤ n ∧ n ≤ 12 then (if A.1 0 0 = 0 then sta A else (nI (cnt (fun q => !decide (ruF (cl n) A.1 6 q = -1)) (nn A.1)), (ruF (cl n) A.1, A.2))) else bey A
/-- n bytes of x into a tape, from place t on, the highest first -/
def fdB (x : Int32) : Nat → Nat → (Nat → Int32) → (Nat → Int32)
  | 0, _, B => B
  | i + 1, t, B => fdB x i (t + 1) (upd B t (ush x (8 * nI i) &&& 255))
def opFeed (A : As) (x n : Int32) : Int32 × As := match A with
  | (K, L, g, F, tl, Bt, W, Z, N) => if 1 ≤ n ∧ n ≤ 4 then (if 120 < tl + n then ful A else (tl + n, (K, L, g, F, tl + n, fdB x (cl n) (cl tl) Bt, W, Z, N))) else bey A
def opSheet (A : As) (s b n : Int32) : Int32 × As := match A with
  | (K, L, g, F, tl, Bt, W, Z, N) => if (0 ≤ s ∧ s ≤ 3) ∧ (b = 0 ∨ b = 8 ∨ b = 16 ∨ b = 32) then (if n < 0 then siz A else if 40 < n then bey A else ((if b = 0 then 0 else n), (K, L, g, F, tl, Bt, upd W (cl s) b, upd Z (cl s) (if b = 0 then 0 else n), rw2 N (cl s) (fun _ => 0)))) else bey A
def cutW (w v : Int32) : Int32 := if w = 8 then v.toInt8.toInt32 else if w = 16 then v.toInt16.toInt32 else v
def opWrite (A : As) (s i v : Int32) : Int32 × As := match A with
  | (K, L, g, F, tl, Bt, W, Z, N) => if 0 ≤ s ∧ s ≤ 3 then (if W (cl s) = 0 then mis A else if 0 ≤ i ∧ i ≤ Z (cl s) - 1 then (1, (K, L, g, F, tl, Bt, W, Z, up2 N (cl s) (cl i) (cutW (W (cl s)) v))) else bey A) else bey A
def hasR (z f n : Int32) : Prop := 0 ≤ f ∧ 0 ≤ n ∧ f ≤ z ∧ n ≤ z - f
def opCopy (A : As) (s f t u n : Int32) : Int32 × As := match A with
  | (K, L, g, F, tl, Bt, W, Z, N) => if (0 ≤ s ∧ s ≤ 3) ∧ (0 ≤ t ∧ t ≤ 3) then (if W (cl s) = 0 ∨ W (cl t) = 0 then mis A else if ¬ W (cl s) = W (cl t) then knd A else if (0 ≤ f ∧ 0 ≤ n ∧ f ≤ Z (cl s) ∧ n ≤ Z (cl s) - f) ∧ (0 ≤ u ∧ 0 ≤ n ∧ u ≤ Z (cl t) ∧ n ≤ Z (cl t) - u) then (n, (K, L, g, F, tl, Bt, W, Z, rw2 N (cl t) (va_cpy (N (cl s)) (N (cl t)) (cl f) (cl u) (cl n)))) else bey A) else bey A
def ldF (row : Nat → Int32) (z : Nat) : Nat → Nat → Mm → Int32 × Mm
  | 0, i, K => (nI i, K)
  | f + 1, i, K => if i < z ∧ i < nn K ∧ (row i = -1 ∨ (0 ≤ row i ∧ row i < K 0 0)) ∧ ¬ row i = nI i then ldF row z f (i + 1) (up2 (up2 K 6 i (row i)) 7 i 0) else (nI i, K)
def opLoad (A : As) (s : Int32) : Int32 × As := match A with
  | (K, L, g, F, tl, Bt, W, Z, N) => if 0 ≤ s ∧ s ≤ 3 then (if W (cl s) = 0 then mis A else ((ldF (N (cl s)) (cl (Z (cl s))) 13 0 K).1, ((ldF (N (cl s)) (cl (Z (cl s))) 13 0 K).2, L, g, F, tl, Bt, W, Z, N))) else bey A
def jdP (K : Mm) (row : Nat → Int32) (i : Nat) : Bool := !decide (row i = bset (nn K) (inP (mos (i + 1) K) 0))
def opJudge (A : As) (s : Int32) : Int32 × As := match A with
  | (K, L, g, F, tl, Bt, W, Z, N) => if 0 ≤ s ∧ s ≤ 3 then (if W (cl s) = 0 then mis A else if 999 < K 0 1 + Z (cl s) then sta A else if frst (jdP K (N (cl s))) (cl (Z (cl s))) 0 = -1 then (0, A) else (1 + frst (jdP K (N (cl s))) (cl (Z (cl s))) 0, A)) else bey A
theorem dr_lt2 {K : Mm} (h0 : 0 < nn K) (z : Int32) : drN z (nn K) < nn K := dr_lt z h0
theorem ru_rg {K : Mm} (hO : Ok K) {p q : Nat} (hq : q < nn K) : -1 ≤ ruQ p q ∧ ruQ p q < K 0 0 := by
  unfold ruQ
  split
  · exact q_rg hO (Or.inl rfl)
  · exact q_rg hO (Or.inr (nI_has hO hq))
theorem ru_keep {K : Mm} (hO : Ok K) (h0 : 0 < nn K) : ∀ i, Ok (ruF i K) ∧ nn (ruF i K) = nn K := by
  intro i
  induction i with
  | zero => exact ⟨hO, rfl⟩
  | succ i ih =>
    obtain ⟨a, b⟩ := ih
    rw [ruF]
    generalize ruF i K = X at a b ⊢
    have hx0 : 0 < nn X := by omega
    have h12 := a.1.2
    have e1 : nn (up2 (up2 X 0 3 (drZ (X 0 3))) 0 3 (drZ (drZ (X 0 3)))) = nn X := (nn_up (Or.inr (by omega))).trans (nn_up (Or.inr (by omega)))
    have l1 := dr_lt2 hx0 (drZ (X 0 3))
    have l2 := dr_lt2 hx0 (drZ (drZ (X 0 3)))
    refine ⟨?_, ?_⟩
    · unfold ruS
      refine Ok.gift (Ok.grudge ((a.fld0 (by omega) (by omega)).fld0 (by omega) (by omega)) (by omega) ?_) (by omega)
      exact ru_rg a l2
    · unfold ruS
      rw [nn_up (Or.inl (by omega)), nn_up (Or.inl (by omega)), e1, b]
