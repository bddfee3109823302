/-! TEXTS: rows for the JDK's String -/
theorem jB_len : ∀ q, q < 34 → (jByt.getD q []).length ≤ 7 := by decide +kernel
section GX4
variable {E : En} {p : Program} {e : Env} {R : Room} {s : State} {m : MethodId} {args : Array Value} {below : List Frame} {meth : Method} {c : Code} {Q : State → Prop} {nL pc : Nat} {lv : List (Nat × Value)} {st : List Value} {σ : Mm} {cc : ByteArray} {own : String} {w0 : Cond}
theorem O_AA {o : String} {t : Nat} (h : va_O o t (AW E) s s.heap) : va_O o t (AA E s.heap.size) s s.heap := by
  obtain ⟨cell, h1, h2, h3, h4⟩ := h
  exact ⟨cell, h1, h2, h3, fun h => h.elim h4 (fun h9 => by have := (Array.getElem?_eq_some_iff.mp h1).1; omega)⟩
theorem Cx.tx (C : Cx E p s m args c cc own nL w0) {q : Nat} (hq : q < 34) : jTxt E (AW E) s s.heap q := C.2.2.2.2.2.2.2.2.2.2.2.2.1 q hq
theorem gx_coder (C : Cx E p s m args c cc own nL w0) {q index : Nat} (hq : q < 34) (hm : Cond.fieldLink own index RJ0 "coder" "B" ∈ wsA) (d : decode cc pc = .ok (.getfield index, 3)) (k : Gx E p e R s m args below meth c Q nL (pc + 3) lv (.int 0 :: st) σ) : Gx E p e R s m args below meth c Q nL pc lv (.ref (eZ E (100 + q)) :: st) σ := fun H locs ls hP hS hl =>
  vk_getf C.1 C.2.1 (OF_AA (C.tx hq).2.1) hS C.2.2.2.1 (C.2.2.2.2.1 _ (List.mem_cons_of_mem _ hm)) (fun _ h => h) d (k H locs ls hP hS hl)
theorem gx_value (C : Cx E p s m args c cc own nL w0) {q index : Nat} (hq : q < 34) (hm : Cond.fieldLink own index RJ0 "value" "[B" ∈ wsA) (d : decode cc pc = .ok (.getfield index, 3)) (k : Gx E p e R s m args below meth c Q nL (pc + 3) lv (.ref (eZ E (200 + q)) :: st) σ) : Gx E p e R s m args below meth c Q nL pc lv (.ref (eZ E (100 + q)) :: st) σ := fun H locs ls hP hS hl =>
  vk_getf C.1 C.2.1 (OF_AA (C.tx hq).2.2.1) hS C.2.2.2.1 (C.2.2.2.2.1 _ (List.mem_cons_of_mem _ hm)) (fun _ h => h) d (k H locs ls hP hS hl)
theorem gx_tlen (C : Cx E p s m args c cc own nL w0) {q : Nat} (hq : q < 34) (d : decode cc pc = .ok (.arraylength, 1)) (k : Gx E p e R s m args below meth c Q nL (pc + 1) lv (.int (nI (jByt.getD q []).length) :: st) σ) : Gx E p e R s m args below meth c Q nL pc lv (.ref (eZ E (200 + q)) :: st) σ := fun H locs ls hP hS hl =>
  va_tlen C.1 C.2.1 (T_AA (C.tx hq).2.2.2) hS rfl d (k H locs ls hP hS hl)
theorem gx_tb (C : Cx E p s m args c cc own nL w0) {q i : Nat} (hq : q < 34) (hi : i < (jByt.getD q []).length) (hi2 : i < 1000) (d : decode cc pc = .ok (.baload, 1)) (k : Gx E p e R s m args below meth c Q nL (pc + 1) lv (.int ((jByt.getD q []).getD i 0) :: st) σ) : Gx E p e R s m args below meth c Q nL pc lv (.int (nI i) :: .ref (eZ E (200 + q)) :: st) σ := fun H locs ls hP hS hl =>
  va_tb C.1 C.2.1 (T_AA (C.tx hq).2.2.2) hS (vp_in_nI hi (by have := jB_len q hq; omega)) (by rw [nI_clamp (by omega)]) d (k H locs ls hP hS hl)
theorem gx_compact (C : Cx E p s m args c cc own nL w0) {index : Nat} (hm : Cond.fieldLink own index RJ0 "COMPACT_STRINGS" "Z" ∈ wsA) (d : decode cc pc = .ok (.getstatic index, 3)) (k : Gx E p e R s m args below meth c Q nL (pc + 3) lv (.int 1 :: st) σ) : Gx E p e R s m args below meth c Q nL pc lv (st) σ := fun H locs ls hP hS hl =>
  va_gets C.1 C.2.1 (Z_AA C.2.2.2.2.2.2.2.2.2.2.1) hS C.2.2.2.1 (C.2.2.2.2.1 _ (List.mem_cons_of_mem _ hm)) (fun _ h => h) d (k H locs ls hP hS hl)
theorem gx_sioobe (C : Cx E p s m args c cc own nL w0) {index : Nat} (hm : Cond.fieldLink own index RJ3 "SIOOBE_FORMATTER" "Ljava/util/function/BiFunction;" ∈ wsA) (d : decode cc pc = .ok (.getstatic index, 3)) (k0 : Gx E p e R s m args below meth c Q nL (pc + 3) lv (.null :: st) σ) (k1 : ∀ t, Gx E p e R s m args below meth c Q nL (pc + 3) lv (.ref t :: st) σ) : Gx E p e R s m args below meth c Q nL pc lv (st) σ := fun H locs ls hP hS hl => by
  rcases C.2.2.2.2.2.2.2.2.2.2.2.1 with h | ⟨t, h⟩
  · exact va_gets C.1 C.2.1 (Z_AA h) hS C.2.2.2.1 (C.2.2.2.2.1 _ (List.mem_cons_of_mem _ hm)) (fun _ h => h) d (k0 H locs ls hP hS hl)
  · exact va_gets C.1 C.2.1 (Z_AA h) hS C.2.2.2.1 (C.2.2.2.2.1 _ (List.mem_cons_of_mem _ hm)) (fun _ h => h) d (k1 t H locs ls hP hS hl)
theorem gx_callTI (C : Cx E p s m args c cc own nL w0) {y : MethodName} {cy : ByteArray} {mL : Nat} {ret : Option FieldType} {fr lo n q index : Nat} {As rest : List Value} {post : Int32 → Mm → Prop} (hq : q < 34) (h : CtI E y cy mL ret fr lo (.ref (eZ E (100 + q)) :: As) σ post) (Z : zokV y RJ0 cy mL ret n) (hn : As.length = n) (hm : Cond.methodLink own index y ∈ wsA) (hst : st = As.reverse ++ .ref (eZ E (100 + q)) :: rest) (hc : (rest.map fun v => v.category).sum ≤ 8) (hR : fr + 1 ≤ R.frames ∧ 8 + (mL + 11) + lo ≤ R.locals) (d : decode cc pc = .ok (.invokevirtual index, 3)) (kk : ∀ (r : Int32) (σ2 : Mm), post r σ2 → Gx E p e R s m args below meth c Q nL (pc + 3) lv (.int r :: rest) σ2) : Gx E p e R s m args below meth c Q nL pc lv (st) σ := fun H locs ls hP hS hl => by
  subst hst
  refine va_calli (va_runV (As := As) (rest := rest) ⟨C.1, C.2.1, C.2.2.1, C.2.2.2.1, C.2.2.2.2.1⟩ (h H.size) ⟨callB_of n C.2.2.2.2.1 (gw_all Z.2.2.2.2) rfl rfl rfl (by rw [Z.1.1]; exact C.2.2.2.2.1 _ (List.mem_cons_of_mem _ Z.2.2.2.1)) (C.2.2.2.2.1 _ (List.mem_cons_of_mem _ hm)) Z.1.2 hR, C.2.2.2.2.1 _ (List.mem_cons_of_mem _ Z.2.1), C.2.2.2.2.1 _ (List.mem_cons_of_mem _ Z.2.2.1)⟩ ⟨blind, va_Orecv (O_AA (C.tx hq).1) hS, pre_of C hP hS⟩ rfl hn hl.1 rfl (lv_room hc) d ⟨Nat.zero_le _, Nat.zero_le _⟩) hS (fun q _ h => AA_in hS q h) (AA_in hS) (fun r u t H1 locs1 ht hvm hw hB hz1 hk1 hS1 => ?_)
  exact kk r u hw H1 locs1 ls (by rw [← ht]; exact hB) hS1 hl
end GX4
theorem jB_chr : ∀ q, q < 34 → ∀ i, i < 7 → ((((jByt.getD q []).getD i 0) &&& 255).toUInt32 % 65536).toInt32 = (jByt.getD q []).getD i 0 := by decide +kernel
theorem jB_nar : ∀ q, q < 34 → ∀ i, i < 7 → narrow .char (.int ((jByt.getD q []).getD i 0)) = .int ((jByt.getD q []).getD i 0) := by decide +kernel
theorem shr0 (x : Int32) : x >>> ((0 : Int32) &&& 31) = x := by
  apply b_ext
  intro i hi
  have h := b_sshr 0 (by omega) x hi
  rw [show nI 0 = (0 : Int32) from rfl] at h
  rw [h, if_pos (by omega), Nat.zero_add]
