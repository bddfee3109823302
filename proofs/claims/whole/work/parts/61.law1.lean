/-! THE LAW'S OWN ROWS: 59 cells and 1447 slots have been made -/
def Gl (E : En) (p : Program) (e : Env) (R : Room) (s : State) (m : MethodId) (args : Array Value) (below : List Frame) (meth : Method) (c : Code) (Q : State → Prop) (nL pc : Nat) (lv : List (Nat × Value)) (st : List Value) (σ : Mm) : Prop :=
  ∀ (H : Heap) (locs : List Loc) (ls : Array Slot), va_P (eD E) vwCl (wd E σ) H → va_S (AA E s.heap.size) s.heap H locs → lv_has ls nL lv → W p (eL E) e R s m args below meth c H locs 59 1447 Q (F0 m pc ls st)
section GL
variable {E : En} {p : Program} {e : Env} {R : Room} {s : State} {m : MethodId} {args : Array Value} {below : List Frame} {meth : Method} {c : Code} {Q : State → Prop} {nL pc : Nat} {lv : List (Nat × Value)} {st : List Value} {σ : Mm} {cc : ByteArray} {own : String} {w0 : Cond}
theorem gl_lv {lv' : List (Nat × Value)} (h : lv = lv') (k : Gl E p e R s m args below meth c Q nL pc lv' st σ) : Gl E p e R s m args below meth c Q nL pc lv st σ := h ▸ k
theorem gl_st {st' : List Value} (h : st = st') (k : Gl E p e R s m args below meth c Q nL pc lv st' σ) : Gl E p e R s m args below meth c Q nL pc lv st σ := h ▸ k
theorem gl_sub (ks : List Nat) {lv' : List (Nat × Value)} (hl : lv_pick lv ks = lv') (k : Gl E p e R s m args below meth c Q nL pc lv' st σ) : Gl E p e R s m args below meth c Q nL pc lv st σ := fun H locs ls hP hS h => k H locs ls hP hS (lv_sub h ks hl)
theorem gl_iconst (C : Cx E p s m args c cc own nL w0) {n : Int} {v : Int32} (d : decode cc pc = .ok (.iconst n, 1)) (hv : Int32.ofInt n = v) (k : Gl E p e R s m args below meth c Q nL (pc + 1) lv (.int v :: st) σ) : Gl E p e R s m args below meth c Q nL pc lv (st) σ := fun H locs ls hP hS hl => lv_iconst C.1 C.2.1 d hv (k H locs ls hP hS hl)
theorem gl_bipush (C : Cx E p s m args c cc own nL w0) {n : Int} {v : Int32} (d : decode cc pc = .ok (.bipush n, 2)) (hv : (Int8.ofInt n).toInt32 = v) (k : Gl E p e R s m args below meth c Q nL (pc + 2) lv (.int v :: st) σ) : Gl E p e R s m args below meth c Q nL pc lv (st) σ := fun H locs ls hP hS hl => lv_bipush C.1 C.2.1 d hv (k H locs ls hP hS hl)
theorem gl_iload_n (C : Cx E p s m args c cc own nL w0) {j : Fin 4} {i : Nat} {x : Int32} (d : decode cc pc = .ok (.iload_n j, 1)) (hi : (j : Nat) = i) (h : lvg lv i = some (.int x)) (k : Gl E p e R s m args below meth c Q nL (pc + 1) lv (.int x :: st) σ) : Gl E p e R s m args below meth c Q nL pc lv (st) σ := fun H locs ls hP hS hl => lv_iload_n C.1 C.2.1 d hi (lvg_has hl h) (k H locs ls hP hS hl)
theorem gl_aload_n (C : Cx E p s m args c cc own nL w0) {j : Fin 4} {i : Nat} {x : Nat} (d : decode cc pc = .ok (.aload_n j, 1)) (hi : (j : Nat) = i) (h : lvg lv i = some (.ref x)) (k : Gl E p e R s m args below meth c Q nL (pc + 1) lv (.ref x :: st) σ) : Gl E p e R s m args below meth c Q nL pc lv (st) σ := fun H locs ls hP hS hl => lv_aload_n C.1 C.2.1 d hi (lvg_has hl h) (k H locs ls hP hS hl)
theorem gl_iadd (C : Cx E p s m args c cc own nL w0) {x y : Int32} (d : decode cc pc = .ok (.iadd, 1)) (k : Gl E p e R s m args below meth c Q nL (pc + 1) lv (.int (x + y) :: st) σ) : Gl E p e R s m args below meth c Q nL pc lv (.int y :: .int x :: st) σ := fun H locs ls hP hS hl => lv_iadd C.1 C.2.1 d (k H locs ls hP hS hl)
theorem gl_isub (C : Cx E p s m args c cc own nL w0) {x y : Int32} (d : decode cc pc = .ok (.isub, 1)) (k : Gl E p e R s m args below meth c Q nL (pc + 1) lv (.int (x - y) :: st) σ) : Gl E p e R s m args below meth c Q nL pc lv (.int y :: .int x :: st) σ := fun H locs ls hP hS hl => lv_isub C.1 C.2.1 d (k H locs ls hP hS hl)
theorem gl_iand (C : Cx E p s m args c cc own nL w0) {x y : Int32} (d : decode cc pc = .ok (.iand, 1)) (k : Gl E p e R s m args below meth c Q nL (pc + 1) lv (.int (x &&& y) :: st) σ) : Gl E p e R s m args below meth c Q nL pc lv (.int y :: .int x :: st) σ := fun H locs ls hP hS hl => lv_iand C.1 C.2.1 d (k H locs ls hP hS hl)
theorem gl_goto (C : Cx E p s m args c cc own nL w0) {off : Int} {tgt : Nat} (d : decode cc pc = .ok (.goto off, 3)) (ht : (pc : Int) + off = (tgt : Int)) (k : Gl E p e R s m args below meth c Q nL tgt lv (st) σ) : Gl E p e R s m args below meth c Q nL pc lv (st) σ := fun H locs ls hP hS hl => lv_goto C.1 C.2.1 d ht (k H locs ls hP hS hl)
theorem gl_icmp_eq (C : Cx E p s m args c cc own nL w0) {x y : Int32} {off : Int} {tgt : Nat} (d : decode cc pc = .ok (.if_icmp .eq off, 3)) (ht : (pc : Int) + off = (tgt : Int)) (kt : x = y → Gl E p e R s m args below meth c Q nL tgt lv (st) σ) (kf : ¬ (x = y) → Gl E p e R s m args below meth c Q nL (pc + 3) lv (st) σ) : Gl E p e R s m args below meth c Q nL pc lv (.int y :: .int x :: st) σ := fun H locs ls hP hS hl => lv_icmp_eq C.1 C.2.1 d ht (fun h => kt h H locs ls hP hS hl) (fun h => kf h H locs ls hP hS hl)
theorem gl_icmp_gt (C : Cx E p s m args c cc own nL w0) {x y : Int32} {off : Int} {tgt : Nat} (d : decode cc pc = .ok (.if_icmp .gt off, 3)) (ht : (pc : Int) + off = (tgt : Int)) (kt : y < x → Gl E p e R s m args below meth c Q nL tgt lv (st) σ) (kf : ¬ (y < x) → Gl E p e R s m args below meth c Q nL (pc + 3) lv (st) σ) : Gl E p e R s m args below meth c Q nL pc lv (.int y :: .int x :: st) σ := fun H locs ls hP hS hl => lv_icmp_gt C.1 C.2.1 d ht (fun h => kt h H locs ls hP hS hl) (fun h => kf h H locs ls hP hS hl)
theorem gl_iinc (C : Cx E p s m args c cc own nL w0) {i : Nat} {n : Int} {x v : Int32} {lv2 : List (Nat × Value)} (d : decode cc pc = .ok (.iinc i n, 3)) (h : lvg lv i = some (.int x)) (hv : x + Int32.ofInt n = v) (hn : i < nL) (h2 : lvs lv i (.int v) = lv2) (k : Gl E p e R s m args below meth c Q nL (pc + 3) lv2 (st) σ) : Gl E p e R s m args below meth c Q nL pc lv (st) σ := fun H locs ls hP hS hl => by
  obtain ⟨j, hj⟩ := lvg_idx h
  exact lv_iinc C.1 C.2.1 d hl hj hv hn h2 (fun ls hl => k H locs ls hP hS hl)
theorem gl_tabIn (C : Cx E p s m args c cc own nL w0) {dflt lo hi : Int} {offs : Array Int} {len : Nat} {x : Int32} {off : Int} {tgt : Nat} (d : decode cc pc = .ok (.tableswitch dflt lo hi offs, len)) (h1 : ¬ x.toInt < lo) (h2 : ¬ hi < x.toInt) (ho : offs[(x.toInt - lo).toNat]? = some off) (ht : (pc : Int) + off = (tgt : Int)) (k : Gl E p e R s m args below meth c Q nL tgt lv (st) σ) : Gl E p e R s m args below meth c Q nL pc lv (.int x :: st) σ := fun H locs ls hP hS hl => lv_tableIn C.1 C.2.1 d h1 h2 ho ht (k H locs ls hP hS hl)
theorem gl_tabOut (C : Cx E p s m args c cc own nL w0) {dflt lo hi : Int} {offs : Array Int} {len : Nat} {x : Int32} {tgt : Nat} (d : decode cc pc = .ok (.tableswitch dflt lo hi offs, len)) (h : x.toInt < lo ∨ hi < x.toInt) (ht : (pc : Int) + dflt = (tgt : Int)) (k : Gl E p e R s m args below meth c Q nL tgt lv (st) σ) : Gl E p e R s m args below meth c Q nL pc lv (.int x :: st) σ := fun H locs ls hP hS hl => lv_tableOut C.1 C.2.1 d h ht (k H locs ls hP hS hl)
theorem gl_callVI (C : Cx E p s m args c cc own nL w0) {y : MethodName} {cy : ByteArray} {mL : Nat} {ret : Option FieldType} {fr lo n b ci index N : Nat} {fl : List (Option Nat)} {Cn : String} {T : u_T} {ty : Nat → FieldType} {As rest : List Value} {post : Int32 → Mm → Prop} (h : CtI E y cy mL ret fr lo (.ref (eA E b) :: As) σ post) (Z : zokV y Cn cy mL ret n) (K : ckok ci Cn T N ty) (hs : sh b = .inr (.inl (ci, fl))) (hn : As.length = n) (hm : Cond.methodLink own index y ∈ wsA) (hst : st = As.reverse ++ .ref (eA E b) :: rest) (hc : (rest.map fun v => v.category).sum ≤ 8) (hR : fr + 1 ≤ R.frames ∧ 8 + (mL + 11) + lo ≤ R.locals) (hcs : 59 + 0 ≤ R.cells ∧ 1447 + 0 ≤ R.slots) (d : decode cc pc = .ok (.invokevirtual index, 3)) (kk : ∀ (r : Int32) (σ2 : Mm), post r σ2 → Gl E p e R s m args below meth c Q nL (pc + 3) lv (.int r :: rest) σ2) : Gl E p e R s m args below meth c Q nL pc lv (st) σ := fun H locs ls hP hS hl => by
  subst hst
  refine va_calli (va_runV (As := As) (rest := rest) ⟨C.1, C.2.1, C.2.2.1, C.2.2.2.1, C.2.2.2.2.1⟩ (h H.size) ⟨callB_of n C.2.2.2.2.1 (gw_all Z.2.2.2.2) rfl rfl rfl (by rw [Z.1.1]; exact C.2.2.2.2.1 _ (List.mem_cons_of_mem _ Z.2.2.2.1)) (C.2.2.2.2.1 _ (List.mem_cons_of_mem _ hm)) Z.1.2 hR, C.2.2.2.2.1 _ (List.mem_cons_of_mem _ Z.2.1), C.2.2.2.2.1 _ (List.mem_cons_of_mem _ Z.2.2.1)⟩ ⟨blind, va_recv C.2.2.2.2.2.1 hP K.1 ((wd_at E σ (sh_lt hs)).trans (by rw [ce_obj hs])), pre_of C hP hS⟩ rfl hn hl.1 rfl (lv_room hc) d hcs) hS (fun q _ h => AA_in hS q h) (AA_in hS) (fun r u t H1 locs1 ht hvm hw hB hz1 hk1 hS1 => ?_)
  exact kk r u hw H1 locs1 ls (by rw [← ht]; exact hB) hS1 hl
theorem gl_add (C : Cx E p s m args c cc own nL w0) (a b : Nat) (d : decode cc pc = .ok (.iadd, 1)) (k : Gl E p e R s m args below meth c Q nL (pc + 1) lv (.int (nI (a + b)) :: st) σ) : Gl E p e R s m args below meth c Q nL pc lv (.int (nI b) :: .int (nI a) :: st) σ := gl_iadd C d (by rw [nI_add]; exact k)
theorem gl_sld (C : Cx E p s m args c cc own nL w0) {b Ln i : Nat} {xs : Nat → Int32} (hX : va_X b Ln xs s s.heap) (hbl : b < s.heap.size) (hbA : ¬ AA E s.heap.size b) (hi : i < Ln) (hL : Ln < 2 ^ 31) (d : decode cc pc = .ok (.iaload, 1)) (k : Gl E p e R s m args below meth c Q nL (pc + 1) lv (.int (xs i) :: st) σ) : Gl E p e R s m args below meth c Q nL pc lv (.int (nI i) :: .ref b :: st) σ := fun H locs ls hP hS hl =>
  va_sld C.1 C.2.1 hX hbl hbA hS (vp_in_nI hi hL) d (by rw [nI_clamp (by omega)]; exact k H locs ls hP hS hl)
theorem gl_slen (C : Cx E p s m args c cc own nL w0) {b Ln : Nat} {xs : Nat → Int32} (hX : va_X b Ln xs s s.heap) (hbl : b < s.heap.size) (hbA : ¬ AA E s.heap.size b) (d : decode cc pc = .ok (.arraylength, 1)) (k : Gl E p e R s m args below meth c Q nL (pc + 1) lv (.int (nI Ln) :: st) σ) : Gl E p e R s m args below meth c Q nL pc lv (.ref b :: st) σ := fun H locs ls hP hS hl =>
  va_slen C.1 C.2.1 hX hbl hbA hS d (k H locs ls hP hS hl)
end GL
/-- what the law's body stands on -/
def LwC (E : En) (p : Program) (s : State) (m : MethodId) (c : Code) (b Ln : Nat) (xs : Nat → Int32) : Prop := Cx E p s m #[Value.ref b] c cL_law RL 4 (Cond.arrayClass .int) ∧ va_X b Ln xs s s.heap ∧ b < s.heap.size ∧ ¬ AA E s.heap.size b ∧ Ln ≤ 384
abbrev lvL (E : En) (b i : Nat) : List (Nat × Value) := [(0, .ref b), (1, .ref (eA E 0)), (2, .ref (eA E 49)), (3, .int (nI i))]
abbrev GlL (E : En) (p : Program) (e : Env) (s : State) (m : MethodId) (b : Nat) (below : List Frame) (meth : Method) (c : Code) (Q : State → Prop) (pc i : Nat) (st : List Value) (σ : Mm) : Prop := Gl E p e room_1 s m #[Value.ref b] below meth c Q 4 pc (lvL E b i) st σ
set_option maxHeartbeats 4000000 in
set_option maxRecDepth 100000 in
theorem lc_0 {E : En} {p : Program} {e : Env} {s : State} {m : MethodId} {below : List Frame} {meth : Method} {c : Code} {Q : State → Prop} {b Ln i : Nat} {xs : Nat → Int32} (C : LwC E p s m c b Ln xs) (hi : i + 6 ≤ Ln) {σ : Mm} {A : As} (hC : CR σ A) (hM : MR σ A) (kk : ∀ (σ' : Mm) (A' : As), CR σ' A' → MR σ' A' → GlL E p e s m b below meth c Q 1486 i [] σ') : GlL E p e s m b below meth c Q 224 i [] σ := by
  obtain ⟨K, L, g, F, tl, Bt, W, Z, N⟩ := A
  refine gl_aload_n C.1 dL_law_224 (by rfl) (by rfl) ?_
  refine gl_aload_n C.1 dL_law_225 (by rfl) (by rfl) ?_
  refine gl_iload_n C.1 dL_law_226 (by rfl) (by rfl) ?_
  refine gl_iconst (v := nI 1) C.1 dL_law_227 (by decide) ?_
  refine gl_add C.1 i 1 dL_law_228 ?_
  refine gl_sld C.1 C.2.1 C.2.2.1 C.2.2.2.1 (show i + 1 < Ln by omega) (by have := C.2.2.2.2; omega) dL_law_229 ?_
  refine gl_aload_n C.1 dL_law_230 (by rfl) (by rfl) ?_
  refine gl_iload_n C.1 dL_law_231 (by rfl) (by rfl) ?_
  refine gl_iconst (v := nI 2) C.1 dL_law_232 (by decide) ?_
  refine gl_add C.1 i 2 dL_law_233 ?_
  refine gl_sld C.1 C.2.1 C.2.2.1 C.2.2.2.1 (show i + 2 < Ln by omega) (by have := C.2.2.2.2; omega) dL_law_234 ?_
  refine gl_callVI (As := [.int (xs (i + 1)), .int (xs (i + 2))]) (rest := []) C.1 (c_X3_seats E σ K L g F tl Bt W Z N hC (xs (i + 1)) (xs (i + 2))) z_X3_seats ck3 (by rfl) (by rfl) ml_L_13 (by rfl) (Nat.le_of_ble_eq_true rfl) ⟨Nat.le_of_ble_eq_true rfl, Nat.le_of_ble_eq_true rfl⟩ ⟨Nat.le_of_ble_eq_true rfl, Nat.le_of_ble_eq_true rfl⟩ dL_law_235 (fun r1 σ1 w1 => ?_)
  obtain ⟨e1, hC1, hF1⟩ := w1
  refine gl_aload_n C.1 dL_law_238 (by rfl) (by rfl) ?_
  refine gl_aload_n C.1 dL_law_239 (by rfl) (by rfl) ?_
  refine gl_iload_n C.1 dL_law_240 (by rfl) (by rfl) ?_
  refine gl_iconst (v := nI 1) C.1 dL_law_241 (by decide) ?_
  refine gl_add C.1 i 1 dL_law_242 ?_
  refine gl_sld C.1 C.2.1 C.2.2.1 C.2.2.2.1 (show i + 1 < Ln by omega) (by have := C.2.2.2.2; omega) dL_law_243 ?_
  refine gl_aload_n C.1 dL_law_244 (by rfl) (by rfl) ?_
  refine gl_iload_n C.1 dL_law_245 (by rfl) (by rfl) ?_
  refine gl_iconst (v := nI 2) C.1 dL_law_246 (by decide) ?_
  refine gl_add C.1 i 2 dL_law_247 ?_
  refine gl_sld C.1 C.2.1 C.2.2.1 C.2.2.2.1 (show i + 2 < Ln by omega) (by have := C.2.2.2.2; omega) dL_law_248 ?_
  refine gl_callVI (As := [.int (xs (i + 1)), .int (xs (i + 2))]) (rest := [.int r1]) C.1 (c_X4_seats E σ1 K L g F tl Bt W Z N (hM.fc hF1) (xs (i + 1)) (xs (i + 2))) z_X4_seats ck4 (by rfl) (by rfl) ml_L_17 (by rfl) (Nat.le_of_ble_eq_true rfl) ⟨Nat.le_of_ble_eq_true rfl, Nat.le_of_ble_eq_true rfl⟩ ⟨Nat.le_of_ble_eq_true rfl, Nat.le_of_ble_eq_true rfl⟩ dL_law_249 (fun r2 σ2 w2 => ?_)
  obtain ⟨e2, hM2, hF2⟩ := w2
  exact gl_icmp_eq (tgt := 1486) C.1 dL_law_252 (by decide) (fun _ => kk σ2 _ (hC1.fm hF2) hM2) (fun h => absurd (e1.trans e2.symm) h)
set_option maxHeartbeats 4000000 in
set_option maxRecDepth 100000 in
theorem lc_1 {E : En} {p : Program} {e : Env} {s : State} {m : MethodId} {below : List Frame} {meth : Method} {c : Code} {Q : State → Prop} {b Ln i : Nat} {xs : Nat → Int32} (C : LwC E p s m c b Ln xs) (hi : i + 6 ≤ Ln) {σ : Mm} {A : As} (hC : CR σ A) (hM : MR σ A) (kk : ∀ (σ' : Mm) (A' : As), CR σ' A' → MR σ' A' → GlL E p e s m b below meth c Q 1486 i [] σ') : GlL E p e s m b below meth c Q 257 i [] σ := by
  obtain ⟨K, L, g, F, tl, Bt, W, Z, N⟩ := A
  refine gl_aload_n C.1 dL_law_257 (by rfl) (by rfl) ?_
  refine gl_aload_n C.1 dL_law_258 (by rfl) (by rfl) ?_
  refine gl_iload_n C.1 dL_law_259 (by rfl) (by rfl) ?_
  refine gl_iconst (v := nI 1) C.1 dL_law_260 (by decide) ?_
  refine gl_add C.1 i 1 dL_law_261 ?_
  refine gl_sld C.1 C.2.1 C.2.2.1 C.2.2.2.1 (show i + 1 < Ln by omega) (by have := C.2.2.2.2; omega) dL_law_262 ?_
  refine gl_aload_n C.1 dL_law_263 (by rfl) (by rfl) ?_
  refine gl_iload_n C.1 dL_law_264 (by rfl) (by rfl) ?_
  refine gl_iconst (v := nI 2) C.1 dL_law_265 (by decide) ?_
  refine gl_add C.1 i 2 dL_law_266 ?_
  refine gl_sld C.1 C.2.1 C.2.2.1 C.2.2.2.1 (show i + 2 < Ln by omega) (by have := C.2.2.2.2; omega) dL_law_267 ?_
  refine gl_callVI (As := [.int (xs (i + 1)), .int (xs (i + 2))]) (rest := []) C.1 (c_X3_rankOf E σ K L g F tl Bt W Z N hC (xs (i + 1)) (xs (i + 2))) z_X3_rankOf ck3 (by rfl) (by rfl) ml_L_18 (by rfl) (Nat.le_of_ble_eq_true rfl) ⟨Nat.le_of_ble_eq_true rfl, Nat.le_of_ble_eq_true rfl⟩ ⟨Nat.le_of_ble_eq_true rfl, Nat.le_of_ble_eq_true rfl⟩ dL_law_268 (fun r1 σ1 w1 => ?_)
  obtain ⟨e1, hC1, hF1⟩ := w1
  refine gl_aload_n C.1 dL_law_271 (by rfl) (by rfl) ?_
  refine gl_aload_n C.1 dL_law_272 (by rfl) (by rfl) ?_
  refine gl_iload_n C.1 dL_law_273 (by rfl) (by rfl) ?_
  refine gl_iconst (v := nI 1) C.1 dL_law_274 (by decide) ?_
  refine gl_add C.1 i 1 dL_law_275 ?_
  refine gl_sld C.1 C.2.1 C.2.2.1 C.2.2.2.1 (show i + 1 < Ln by omega) (by have := C.2.2.2.2; omega) dL_law_276 ?_
  refine gl_aload_n C.1 dL_law_277 (by rfl) (by rfl) ?_
  refine gl_iload_n C.1 dL_law_278 (by rfl) (by rfl) ?_
  refine gl_iconst (v := nI 2) C.1 dL_law_279 (by decide) ?_
  refine gl_add C.1 i 2 dL_law_280 ?_
  refine gl_sld C.1 C.2.1 C.2.2.1 C.2.2.2.1 (show i + 2 < Ln by omega) (by have := C.2.2.2.2; omega) dL_law_281 ?_
  refine gl_callVI (As := [.int (xs (i + 1)), .int (xs (i + 2))]) (rest := [.int r1]) C.1 (c_X4_rankOf E σ1 K L g F tl Bt W Z N (hM.fc hF1) (xs (i + 1)) (xs (i + 2))) z_X4_rankOf ck4 (by rfl) (by rfl) ml_L_21 (by rfl) (Nat.le_of_ble_eq_true rfl) ⟨Nat.le_of_ble_eq_true rfl, Nat.le_of_ble_eq_true rfl⟩ ⟨Nat.le_of_ble_eq_true rfl, Nat.le_of_ble_eq_true rfl⟩ dL_law_282 (fun r2 σ2 w2 => ?_)
  obtain ⟨e2, hM2, hF2⟩ := w2
  exact gl_icmp_eq (tgt := 1486) C.1 dL_law_285 (by decide) (fun _ => kk σ2 _ (hC1.fm hF2) hM2) (fun h => absurd (e1.trans e2.symm) h)
set_option maxHeartbeats 4000000 in
set_option maxRecDepth 100000 in
theorem lc_2 {E : En} {p : Program} {e : Env} {s : State} {m : MethodId} {below : List Frame} {meth : Method} {c : Code} {Q : State → Prop} {b Ln i : Nat} {xs : Nat → Int32} (C : LwC E p s m c b Ln xs) (hi : i + 6 ≤ Ln) {σ : Mm} {A : As} (hC : CR σ A) (hM : MR σ A) (kk : ∀ (σ' : Mm) (A' : As), CR σ' A' → MR σ' A' → GlL E p e s m b below meth c Q 1486 i [] σ') : GlL E p e s m b below meth c Q 290 i [] σ := by
  obtain ⟨K, L, g, F, tl, Bt, W, Z, N⟩ := A
  refine gl_aload_n C.1 dL_law_290 (by rfl) (by rfl) ?_
  refine gl_aload_n C.1 dL_law_291 (by rfl) (by rfl) ?_
  refine gl_iload_n C.1 dL_law_292 (by rfl) (by rfl) ?_
  refine gl_iconst (v := nI 1) C.1 dL_law_293 (by decide) ?_
  refine gl_add C.1 i 1 dL_law_294 ?_
  refine gl_sld C.1 C.2.1 C.2.2.1 C.2.2.2.1 (show i + 1 < Ln by omega) (by have := C.2.2.2.2; omega) dL_law_295 ?_
  refine gl_aload_n C.1 dL_law_296 (by rfl) (by rfl) ?_
  refine gl_iload_n C.1 dL_law_297 (by rfl) (by rfl) ?_
  refine gl_iconst (v := nI 2) C.1 dL_law_298 (by decide) ?_
  refine gl_add C.1 i 2 dL_law_299 ?_
  refine gl_sld C.1 C.2.1 C.2.2.1 C.2.2.2.1 (show i + 2 < Ln by omega) (by have := C.2.2.2.2; omega) dL_law_300 ?_
  refine gl_callVI (As := [.int (xs (i + 1)), .int (xs (i + 2))]) (rest := []) C.1 (c_X3_law E σ K L g F tl Bt W Z N hC (xs (i + 1)) (xs (i + 2))) z_X3_law ck3 (by rfl) (by rfl) ml_L_22 (by rfl) (Nat.le_of_ble_eq_true rfl) ⟨Nat.le_of_ble_eq_true rfl, Nat.le_of_ble_eq_true rfl⟩ ⟨Nat.le_of_ble_eq_true rfl, Nat.le_of_ble_eq_true rfl⟩ dL_law_301 (fun r1 σ1 w1 => ?_)
  obtain ⟨e1, hC1, hF1⟩ := w1
  refine gl_aload_n C.1 dL_law_304 (by rfl) (by rfl) ?_
  refine gl_aload_n C.1 dL_law_305 (by rfl) (by rfl) ?_
  refine gl_iload_n C.1 dL_law_306 (by rfl) (by rfl) ?_
  refine gl_iconst (v := nI 1) C.1 dL_law_307 (by decide) ?_
  refine gl_add C.1 i 1 dL_law_308 ?_
  refine gl_sld C.1 C.2.1 C.2.2.1 C.2.2.2.1 (show i + 1 < Ln by omega) (by have := C.2.2.2.2; omega) dL_law_309 ?_
  refine gl_aload_n C.1 dL_law_310 (by rfl) (by rfl) ?_
  refine gl_iload_n C.1 dL_law_311 (by rfl) (by rfl) ?_
  refine gl_iconst (v := nI 2) C.1 dL_law_312 (by decide) ?_
  refine gl_add C.1 i 2 dL_law_313 ?_
  refine gl_sld C.1 C.2.1 C.2.2.1 C.2.2.2.1 (show i + 2 < Ln by omega) (by have := C.2.2.2.2; omega) dL_law_314 ?_
  refine gl_callVI (As := [.int (xs (i + 1)), .int (xs (i + 2))]) (rest := [.int r1]) C.1 (c_X4_law E σ1 K L g F tl Bt W Z N (hM.fc hF1) (xs (i + 1)) (xs (i + 2))) z_X4_law ck4 (by rfl) (by rfl) ml_L_25 (by rfl) (Nat.le_of_ble_eq_true rfl) ⟨Nat.le_of_ble_eq_true rfl, Nat.le_of_ble_eq_true rfl⟩ ⟨Nat.le_of_ble_eq_true rfl, Nat.le_of_ble_eq_true rfl⟩ dL_law_315 (fun r2 σ2 w2 => ?_)
  obtain ⟨e2, hM2, hF2⟩ := w2
  exact gl_icmp_eq (tgt := 1486) C.1 dL_law_318 (by decide) (fun _ => kk σ2 _ (hC1.fm hF2) hM2) (fun h => absurd (e1.trans e2.symm) h)
set_option maxHeartbeats 4000000 in
set_option maxRecDepth 100000 in
theorem lc_3 {E : En} {p : Program} {e : Env} {s : State} {m : MethodId} {below : List Frame} {meth : Method} {c : Code} {Q : State → Prop} {b Ln i : Nat} {xs : Nat → Int32} (C : LwC E p s m c b Ln xs) (hi : i + 6 ≤ Ln) {σ : Mm} {A : As} (hC : CR σ A) (hM : MR σ A) (kk : ∀ (σ' : Mm) (A' : As), CR σ' A' → MR σ' A' → GlL E p e s m b below meth c Q 1486 i [] σ') : GlL E p e s m b below meth c Q 323 i [] σ := by
  obtain ⟨K, L, g, F, tl, Bt, W, Z, N⟩ := A
  refine gl_aload_n C.1 dL_law_323 (by rfl) (by rfl) ?_
  refine gl_aload_n C.1 dL_law_324 (by rfl) (by rfl) ?_
  refine gl_iload_n C.1 dL_law_325 (by rfl) (by rfl) ?_
  refine gl_iconst (v := nI 1) C.1 dL_law_326 (by decide) ?_
  refine gl_add C.1 i 1 dL_law_327 ?_
  refine gl_sld C.1 C.2.1 C.2.2.1 C.2.2.2.1 (show i + 1 < Ln by omega) (by have := C.2.2.2.2; omega) dL_law_328 ?_
  refine gl_aload_n C.1 dL_law_329 (by rfl) (by rfl) ?_
  refine gl_iload_n C.1 dL_law_330 (by rfl) (by rfl) ?_
  refine gl_iconst (v := nI 2) C.1 dL_law_331 (by decide) ?_
  refine gl_add C.1 i 2 dL_law_332 ?_
  refine gl_sld C.1 C.2.1 C.2.2.1 C.2.2.2.1 (show i + 2 < Ln by omega) (by have := C.2.2.2.2; omega) dL_law_333 ?_
  refine gl_callVI (As := [.int (xs (i + 1)), .int (xs (i + 2))]) (rest := []) C.1 (c_X3_person E σ K L g F tl Bt W Z N hC (xs (i + 1)) (xs (i + 2))) z_X3_person ck3 (by rfl) (by rfl) ml_L_26 (by rfl) (Nat.le_of_ble_eq_true rfl) ⟨Nat.le_of_ble_eq_true rfl, Nat.le_of_ble_eq_true rfl⟩ ⟨Nat.le_of_ble_eq_true rfl, Nat.le_of_ble_eq_true rfl⟩ dL_law_334 (fun r1 σ1 w1 => ?_)
  obtain ⟨e1, hC1, hF1⟩ := w1
  refine gl_aload_n C.1 dL_law_337 (by rfl) (by rfl) ?_
  refine gl_aload_n C.1 dL_law_338 (by rfl) (by rfl) ?_
  refine gl_iload_n C.1 dL_law_339 (by rfl) (by rfl) ?_
  refine gl_iconst (v := nI 1) C.1 dL_law_340 (by decide) ?_
  refine gl_add C.1 i 1 dL_law_341 ?_
  refine gl_sld C.1 C.2.1 C.2.2.1 C.2.2.2.1 (show i + 1 < Ln by omega) (by have := C.2.2.2.2; omega) dL_law_342 ?_
  refine gl_aload_n C.1 dL_law_343 (by rfl) (by rfl) ?_
  refine gl_iload_n C.1 dL_law_344 (by rfl) (by rfl) ?_
  refine gl_iconst (v := nI 2) C.1 dL_law_345 (by decide) ?_
  refine gl_add C.1 i 2 dL_law_346 ?_
  refine gl_sld C.1 C.2.1 C.2.2.1 C.2.2.2.1 (show i + 2 < Ln by omega) (by have := C.2.2.2.2; omega) dL_law_347 ?_
  refine gl_callVI (As := [.int (xs (i + 1)), .int (xs (i + 2))]) (rest := [.int r1]) C.1 (c_X4_person E σ1 K L g F tl Bt W Z N (hM.fc hF1) (xs (i + 1)) (xs (i + 2))) z_X4_person ck4 (by rfl) (by rfl) ml_L_29 (by rfl) (Nat.le_of_ble_eq_true rfl) ⟨Nat.le_of_ble_eq_true rfl, Nat.le_of_ble_eq_true rfl⟩ ⟨Nat.le_of_ble_eq_true rfl, Nat.le_of_ble_eq_true rfl⟩ dL_law_348 (fun r2 σ2 w2 => ?_)
  obtain ⟨e2, hM2, hF2⟩ := w2
  exact gl_icmp_eq (tgt := 1486) C.1 dL_law_351 (by decide) (fun _ => kk σ2 _ (hC1.fm hF2) hM2) (fun h => absurd (e1.trans e2.symm) h)
set_option maxHeartbeats 4000000 in
set_option maxRecDepth 100000 in
theorem lc_4 {E : En} {p : Program} {e : Env} {s : State} {m : MethodId} {below : List Frame} {meth : Method} {c : Code} {Q : State → Prop} {b Ln i : Nat} {xs : Nat → Int32} (C : LwC E p s m c b Ln xs) (hi : i + 6 ≤ Ln) {σ : Mm} {A : As} (hC : CR σ A) (hM : MR σ A) (kk : ∀ (σ' : Mm) (A' : As), CR σ' A' → MR σ' A' → GlL E p e s m b below meth c Q 1486 i [] σ') : GlL E p e s m b below meth c Q 356 i [] σ := by
  obtain ⟨K, L, g, F, tl, Bt, W, Z, N⟩ := A
  refine gl_aload_n C.1 dL_law_356 (by rfl) (by rfl) ?_
  refine gl_aload_n C.1 dL_law_357 (by rfl) (by rfl) ?_
  refine gl_iload_n C.1 dL_law_358 (by rfl) (by rfl) ?_
  refine gl_iconst (v := nI 1) C.1 dL_law_359 (by decide) ?_
  refine gl_add C.1 i 1 dL_law_360 ?_
  refine gl_sld C.1 C.2.1 C.2.2.1 C.2.2.2.1 (show i + 1 < Ln by omega) (by have := C.2.2.2.2; omega) dL_law_361 ?_
  refine gl_aload_n C.1 dL_law_362 (by rfl) (by rfl) ?_
  refine gl_iload_n C.1 dL_law_363 (by rfl) (by rfl) ?_
  refine gl_iconst (v := nI 2) C.1 dL_law_364 (by decide) ?_
  refine gl_add C.1 i 2 dL_law_365 ?_
  refine gl_sld C.1 C.2.1 C.2.2.1 C.2.2.2.1 (show i + 2 < Ln by omega) (by have := C.2.2.2.2; omega) dL_law_366 ?_
  refine gl_callVI (As := [.int (xs (i + 1)), .int (xs (i + 2))]) (rest := []) C.1 (c_X3_of E σ K L g F tl Bt W Z N hC (xs (i + 1)) (xs (i + 2))) z_X3_of ck3 (by rfl) (by rfl) ml_L_30 (by rfl) (Nat.le_of_ble_eq_true rfl) ⟨Nat.le_of_ble_eq_true rfl, Nat.le_of_ble_eq_true rfl⟩ ⟨Nat.le_of_ble_eq_true rfl, Nat.le_of_ble_eq_true rfl⟩ dL_law_367 (fun r1 σ1 w1 => ?_)
  obtain ⟨e1, hC1, hF1⟩ := w1
  refine gl_aload_n C.1 dL_law_370 (by rfl) (by rfl) ?_
  refine gl_aload_n C.1 dL_law_371 (by rfl) (by rfl) ?_
  refine gl_iload_n C.1 dL_law_372 (by rfl) (by rfl) ?_
  refine gl_iconst (v := nI 1) C.1 dL_law_373 (by decide) ?_
  refine gl_add C.1 i 1 dL_law_374 ?_
  refine gl_sld C.1 C.2.1 C.2.2.1 C.2.2.2.1 (show i + 1 < Ln by omega) (by have := C.2.2.2.2; omega) dL_law_375 ?_
  refine gl_aload_n C.1 dL_law_376 (by rfl) (by rfl) ?_
  refine gl_iload_n C.1 dL_law_377 (by rfl) (by rfl) ?_
  refine gl_iconst (v := nI 2) C.1 dL_law_378 (by decide) ?_
  refine gl_add C.1 i 2 dL_law_379 ?_
  refine gl_sld C.1 C.2.1 C.2.2.1 C.2.2.2.1 (show i + 2 < Ln by omega) (by have := C.2.2.2.2; omega) dL_law_380 ?_
  refine gl_callVI (As := [.int (xs (i + 1)), .int (xs (i + 2))]) (rest := [.int r1]) C.1 (c_X4_of E σ1 K L g F tl Bt W Z N (hM.fc hF1) (xs (i + 1)) (xs (i + 2))) z_X4_of ck4 (by rfl) (by rfl) ml_L_33 (by rfl) (Nat.le_of_ble_eq_true rfl) ⟨Nat.le_of_ble_eq_true rfl, Nat.le_of_ble_eq_true rfl⟩ ⟨Nat.le_of_ble_eq_true rfl, Nat.le_of_ble_eq_true rfl⟩ dL_law_381 (fun r2 σ2 w2 => ?_)
  obtain ⟨e2, hM2, hF2⟩ := w2
  exact gl_icmp_eq (tgt := 1486) C.1 dL_law_384 (by decide) (fun _ => kk σ2 _ (hC1.fm hF2) hM2) (fun h => absurd (e1.trans e2.symm) h)
set_option maxHeartbeats 4000000 in
set_option maxRecDepth 100000 in
theorem lc_5 {E : En} {p : Program} {e : Env} {s : State} {m : MethodId} {below : List Frame} {meth : Method} {c : Code} {Q : State → Prop} {b Ln i : Nat} {xs : Nat → Int32} (C : LwC E p s m c b Ln xs) (hi : i + 6 ≤ Ln) {σ : Mm} {A : As} (hC : CR σ A) (hM : MR σ A) (kk : ∀ (σ' : Mm) (A' : As), CR σ' A' → MR σ' A' → GlL E p e s m b below meth c Q 1486 i [] σ') : GlL E p e s m b below meth c Q 389 i [] σ := by
  obtain ⟨K, L, g, F, tl, Bt, W, Z, N⟩ := A
  refine gl_aload_n C.1 dL_law_389 (by rfl) (by rfl) ?_
  refine gl_aload_n C.1 dL_law_390 (by rfl) (by rfl) ?_
  refine gl_iload_n C.1 dL_law_391 (by rfl) (by rfl) ?_
  refine gl_iconst (v := nI 1) C.1 dL_law_392 (by decide) ?_
  refine gl_add C.1 i 1 dL_law_393 ?_
  refine gl_sld C.1 C.2.1 C.2.2.1 C.2.2.2.1 (show i + 1 < Ln by omega) (by have := C.2.2.2.2; omega) dL_law_394 ?_
  refine gl_aload_n C.1 dL_law_395 (by rfl) (by rfl) ?_
  refine gl_iload_n C.1 dL_law_396 (by rfl) (by rfl) ?_
  refine gl_iconst (v := nI 2) C.1 dL_law_397 (by decide) ?_
  refine gl_add C.1 i 2 dL_law_398 ?_
  refine gl_sld C.1 C.2.1 C.2.2.1 C.2.2.2.1 (show i + 2 < Ln by omega) (by have := C.2.2.2.2; omega) dL_law_399 ?_
  refine gl_aload_n C.1 dL_law_400 (by rfl) (by rfl) ?_
  refine gl_iload_n C.1 dL_law_401 (by rfl) (by rfl) ?_
  refine gl_iconst (v := nI 3) C.1 dL_law_402 (by decide) ?_
  refine gl_add C.1 i 3 dL_law_403 ?_
  refine gl_sld C.1 C.2.1 C.2.2.1 C.2.2.2.1 (show i + 3 < Ln by omega) (by have := C.2.2.2.2; omega) dL_law_404 ?_
  refine gl_callVI (As := [.int (xs (i + 1)), .int (xs (i + 2)), .int (xs (i + 3))]) (rest := []) C.1 (c_X3_change E σ K L g F tl Bt W Z N hC (xs (i + 1)) (xs (i + 2)) (xs (i + 3))) z_X3_change ck3 (by rfl) (by rfl) ml_L_34 (by rfl) (Nat.le_of_ble_eq_true rfl) ⟨Nat.le_of_ble_eq_true rfl, Nat.le_of_ble_eq_true rfl⟩ ⟨Nat.le_of_ble_eq_true rfl, Nat.le_of_ble_eq_true rfl⟩ dL_law_405 (fun r1 σ1 w1 => ?_)
  obtain ⟨e1, hC1, hF1⟩ := w1
  refine gl_aload_n C.1 dL_law_408 (by rfl) (by rfl) ?_
  refine gl_aload_n C.1 dL_law_409 (by rfl) (by rfl) ?_
  refine gl_iload_n C.1 dL_law_410 (by rfl) (by rfl) ?_
  refine gl_iconst (v := nI 1) C.1 dL_law_411 (by decide) ?_
  refine gl_add C.1 i 1 dL_law_412 ?_
  refine gl_sld C.1 C.2.1 C.2.2.1 C.2.2.2.1 (show i + 1 < Ln by omega) (by have := C.2.2.2.2; omega) dL_law_413 ?_
  refine gl_aload_n C.1 dL_law_414 (by rfl) (by rfl) ?_
  refine gl_iload_n C.1 dL_law_415 (by rfl) (by rfl) ?_
  refine gl_iconst (v := nI 2) C.1 dL_law_416 (by decide) ?_
  refine gl_add C.1 i 2 dL_law_417 ?_
  refine gl_sld C.1 C.2.1 C.2.2.1 C.2.2.2.1 (show i + 2 < Ln by omega) (by have := C.2.2.2.2; omega) dL_law_418 ?_
  refine gl_aload_n C.1 dL_law_419 (by rfl) (by rfl) ?_
  refine gl_iload_n C.1 dL_law_420 (by rfl) (by rfl) ?_
  refine gl_iconst (v := nI 3) C.1 dL_law_421 (by decide) ?_
  refine gl_add C.1 i 3 dL_law_422 ?_
  refine gl_sld C.1 C.2.1 C.2.2.1 C.2.2.2.1 (show i + 3 < Ln by omega) (by have := C.2.2.2.2; omega) dL_law_423 ?_
  refine gl_callVI (As := [.int (xs (i + 1)), .int (xs (i + 2)), .int (xs (i + 3))]) (rest := [.int r1]) C.1 (c_X4_change E σ1 K L g F tl Bt W Z N (hM.fc hF1) (xs (i + 1)) (xs (i + 2)) (xs (i + 3))) z_X4_change ck4 (by rfl) (by rfl) ml_L_38 (by rfl) (Nat.le_of_ble_eq_true rfl) ⟨Nat.le_of_ble_eq_true rfl, Nat.le_of_ble_eq_true rfl⟩ ⟨Nat.le_of_ble_eq_true rfl, Nat.le_of_ble_eq_true rfl⟩ dL_law_424 (fun r2 σ2 w2 => ?_)
  obtain ⟨e2, hM2, hF2⟩ := w2
  exact gl_icmp_eq (tgt := 1486) C.1 dL_law_427 (by decide) (fun _ => kk σ2 _ (hC1.fm hF2) hM2) (fun h => absurd (e1.trans e2.symm) h)
set_option maxHeartbeats 4000000 in
set_option maxRecDepth 100000 in
theorem lc_6 {E : En} {p : Program} {e : Env} {s : State} {m : MethodId} {below : List Frame} {meth : Method} {c : Code} {Q : State → Prop} {b Ln i : Nat} {xs : Nat → Int32} (C : LwC E p s m c b Ln xs) (hi : i + 6 ≤ Ln) {σ : Mm} {A : As} (hC : CR σ A) (hM : MR σ A) (kk : ∀ (σ' : Mm) (A' : As), CR σ' A' → MR σ' A' → GlL E p e s m b below meth c Q 1486 i [] σ') : GlL E p e s m b below meth c Q 432 i [] σ := by
  obtain ⟨K, L, g, F, tl, Bt, W, Z, N⟩ := A
  refine gl_aload_n C.1 dL_law_432 (by rfl) (by rfl) ?_
  refine gl_aload_n C.1 dL_law_433 (by rfl) (by rfl) ?_
  refine gl_iload_n C.1 dL_law_434 (by rfl) (by rfl) ?_
  refine gl_iconst (v := nI 1) C.1 dL_law_435 (by decide) ?_
  refine gl_add C.1 i 1 dL_law_436 ?_
  refine gl_sld C.1 C.2.1 C.2.2.1 C.2.2.2.1 (show i + 1 < Ln by omega) (by have := C.2.2.2.2; omega) dL_law_437 ?_
  refine gl_aload_n C.1 dL_law_438 (by rfl) (by rfl) ?_
  refine gl_iload_n C.1 dL_law_439 (by rfl) (by rfl) ?_
  refine gl_iconst (v := nI 2) C.1 dL_law_440 (by decide) ?_
  refine gl_add C.1 i 2 dL_law_441 ?_
  refine gl_sld C.1 C.2.1 C.2.2.1 C.2.2.2.1 (show i + 2 < Ln by omega) (by have := C.2.2.2.2; omega) dL_law_442 ?_
  refine gl_callVI (As := [.int (xs (i + 1)), .int (xs (i + 2))]) (rest := []) C.1 (c_X3_grudge E σ K L g F tl Bt W Z N hC (xs (i + 1)) (xs (i + 2))) z_X3_grudge ck3 (by rfl) (by rfl) ml_L_39 (by rfl) (Nat.le_of_ble_eq_true rfl) ⟨Nat.le_of_ble_eq_true rfl, Nat.le_of_ble_eq_true rfl⟩ ⟨Nat.le_of_ble_eq_true rfl, Nat.le_of_ble_eq_true rfl⟩ dL_law_443 (fun r1 σ1 w1 => ?_)
  obtain ⟨e1, hC1, hF1⟩ := w1
  refine gl_aload_n C.1 dL_law_446 (by rfl) (by rfl) ?_
  refine gl_aload_n C.1 dL_law_447 (by rfl) (by rfl) ?_
  refine gl_iload_n C.1 dL_law_448 (by rfl) (by rfl) ?_
  refine gl_iconst (v := nI 1) C.1 dL_law_449 (by decide) ?_
  refine gl_add C.1 i 1 dL_law_450 ?_
  refine gl_sld C.1 C.2.1 C.2.2.1 C.2.2.2.1 (show i + 1 < Ln by omega) (by have := C.2.2.2.2; omega) dL_law_451 ?_
  refine gl_aload_n C.1 dL_law_452 (by rfl) (by rfl) ?_
  refine gl_iload_n C.1 dL_law_453 (by rfl) (by rfl) ?_
  refine gl_iconst (v := nI 2) C.1 dL_law_454 (by decide) ?_
  refine gl_add C.1 i 2 dL_law_455 ?_
  refine gl_sld C.1 C.2.1 C.2.2.1 C.2.2.2.1 (show i + 2 < Ln by omega) (by have := C.2.2.2.2; omega) dL_law_456 ?_
  refine gl_callVI (As := [.int (xs (i + 1)), .int (xs (i + 2))]) (rest := [.int r1]) C.1 (c_X4_grudge E σ1 K L g F tl Bt W Z N (hM.fc hF1) (xs (i + 1)) (xs (i + 2))) z_X4_grudge ck4 (by rfl) (by rfl) ml_L_42 (by rfl) (Nat.le_of_ble_eq_true rfl) ⟨Nat.le_of_ble_eq_true rfl, Nat.le_of_ble_eq_true rfl⟩ ⟨Nat.le_of_ble_eq_true rfl, Nat.le_of_ble_eq_true rfl⟩ dL_law_457 (fun r2 σ2 w2 => ?_)
  obtain ⟨e2, hM2, hF2⟩ := w2
  exact gl_icmp_eq (tgt := 1486) C.1 dL_law_460 (by decide) (fun _ => kk σ2 _ (hC1.fm hF2) hM2) (fun h => absurd (e1.trans e2.symm) h)
set_option maxHeartbeats 4000000 in
set_option maxRecDepth 100000 in
theorem lc_7 {E : En} {p : Program} {e : Env} {s : State} {m : MethodId} {below : List Frame} {meth : Method} {c : Code} {Q : State → Prop} {b Ln i : Nat} {xs : Nat → Int32} (C : LwC E p s m c b Ln xs) (hi : i + 6 ≤ Ln) {σ : Mm} {A : As} (hC : CR σ A) (hM : MR σ A) (kk : ∀ (σ' : Mm) (A' : As), CR σ' A' → MR σ' A' → GlL E p e s m b below meth c Q 1486 i [] σ') : GlL E p e s m b below meth c Q 465 i [] σ := by
  obtain ⟨K, L, g, F, tl, Bt, W, Z, N⟩ := A
  refine gl_aload_n C.1 dL_law_465 (by rfl) (by rfl) ?_
  refine gl_aload_n C.1 dL_law_466 (by rfl) (by rfl) ?_
  refine gl_iload_n C.1 dL_law_467 (by rfl) (by rfl) ?_
  refine gl_iconst (v := nI 1) C.1 dL_law_468 (by decide) ?_
  refine gl_add C.1 i 1 dL_law_469 ?_
  refine gl_sld C.1 C.2.1 C.2.2.1 C.2.2.2.1 (show i + 1 < Ln by omega) (by have := C.2.2.2.2; omega) dL_law_470 ?_
  refine gl_aload_n C.1 dL_law_471 (by rfl) (by rfl) ?_
  refine gl_iload_n C.1 dL_law_472 (by rfl) (by rfl) ?_
  refine gl_iconst (v := nI 2) C.1 dL_law_473 (by decide) ?_
  refine gl_add C.1 i 2 dL_law_474 ?_
  refine gl_sld C.1 C.2.1 C.2.2.1 C.2.2.2.1 (show i + 2 < Ln by omega) (by have := C.2.2.2.2; omega) dL_law_475 ?_
  refine gl_callVI (As := [.int (xs (i + 1)), .int (xs (i + 2))]) (rest := []) C.1 (c_X3_put E σ K L g F tl Bt W Z N hC (xs (i + 1)) (xs (i + 2))) z_X3_put ck3 (by rfl) (by rfl) ml_L_43 (by rfl) (Nat.le_of_ble_eq_true rfl) ⟨Nat.le_of_ble_eq_true rfl, Nat.le_of_ble_eq_true rfl⟩ ⟨Nat.le_of_ble_eq_true rfl, Nat.le_of_ble_eq_true rfl⟩ dL_law_476 (fun r1 σ1 w1 => ?_)
  obtain ⟨e1, hC1, hF1⟩ := w1
  refine gl_aload_n C.1 dL_law_479 (by rfl) (by rfl) ?_
  refine gl_aload_n C.1 dL_law_480 (by rfl) (by rfl) ?_
  refine gl_iload_n C.1 dL_law_481 (by rfl) (by rfl) ?_
  refine gl_iconst (v := nI 1) C.1 dL_law_482 (by decide) ?_
  refine gl_add C.1 i 1 dL_law_483 ?_
  refine gl_sld C.1 C.2.1 C.2.2.1 C.2.2.2.1 (show i + 1 < Ln by omega) (by have := C.2.2.2.2; omega) dL_law_484 ?_
  refine gl_aload_n C.1 dL_law_485 (by rfl) (by rfl) ?_
  refine gl_iload_n C.1 dL_law_486 (by rfl) (by rfl) ?_
  refine gl_iconst (v := nI 2) C.1 dL_law_487 (by decide) ?_
  refine gl_add C.1 i 2 dL_law_488 ?_
  refine gl_sld C.1 C.2.1 C.2.2.1 C.2.2.2.1 (show i + 2 < Ln by omega) (by have := C.2.2.2.2; omega) dL_law_489 ?_
  refine gl_callVI (As := [.int (xs (i + 1)), .int (xs (i + 2))]) (rest := [.int r1]) C.1 (c_X4_put E σ1 K L g F tl Bt W Z N (hM.fc hF1) (xs (i + 1)) (xs (i + 2))) z_X4_put ck4 (by rfl) (by rfl) ml_L_46 (by rfl) (Nat.le_of_ble_eq_true rfl) ⟨Nat.le_of_ble_eq_true rfl, Nat.le_of_ble_eq_true rfl⟩ ⟨Nat.le_of_ble_eq_true rfl, Nat.le_of_ble_eq_true rfl⟩ dL_law_490 (fun r2 σ2 w2 => ?_)
  obtain ⟨e2, hM2, hF2⟩ := w2
  exact gl_icmp_eq (tgt := 1486) C.1 dL_law_493 (by decide) (fun _ => kk σ2 _ (hC1.fm hF2) hM2) (fun h => absurd (e1.trans e2.symm) h)
set_option maxHeartbeats 4000000 in
set_option maxRecDepth 100000 in
theorem lc_8 {E : En} {p : Program} {e : Env} {s : State} {m : MethodId} {below : List Frame} {meth : Method} {c : Code} {Q : State → Prop} {b Ln i : Nat} {xs : Nat → Int32} (C : LwC E p s m c b Ln xs) (hi : i + 6 ≤ Ln) {σ : Mm} {A : As} (hC : CR σ A) (hM : MR σ A) (kk : ∀ (σ' : Mm) (A' : As), CR σ' A' → MR σ' A' → GlL E p e s m b below meth c Q 1486 i [] σ') : GlL E p e s m b below meth c Q 498 i [] σ := by
  obtain ⟨K, L, g, F, tl, Bt, W, Z, N⟩ := A
  refine gl_aload_n C.1 dL_law_498 (by rfl) (by rfl) ?_
  refine gl_aload_n C.1 dL_law_499 (by rfl) (by rfl) ?_
  refine gl_iload_n C.1 dL_law_500 (by rfl) (by rfl) ?_
  refine gl_iconst (v := nI 1) C.1 dL_law_501 (by decide) ?_
  refine gl_add C.1 i 1 dL_law_502 ?_
  refine gl_sld C.1 C.2.1 C.2.2.1 C.2.2.2.1 (show i + 1 < Ln by omega) (by have := C.2.2.2.2; omega) dL_law_503 ?_
  refine gl_aload_n C.1 dL_law_504 (by rfl) (by rfl) ?_
  refine gl_iload_n C.1 dL_law_505 (by rfl) (by rfl) ?_
  refine gl_iconst (v := nI 2) C.1 dL_law_506 (by decide) ?_
  refine gl_add C.1 i 2 dL_law_507 ?_
  refine gl_sld C.1 C.2.1 C.2.2.1 C.2.2.2.1 (show i + 2 < Ln by omega) (by have := C.2.2.2.2; omega) dL_law_508 ?_
  refine gl_callVI (As := [.int (xs (i + 1)), .int (xs (i + 2))]) (rest := []) C.1 (c_X3_gift E σ K L g F tl Bt W Z N hC (xs (i + 1)) (xs (i + 2))) z_X3_gift ck3 (by rfl) (by rfl) ml_L_47 (by rfl) (Nat.le_of_ble_eq_true rfl) ⟨Nat.le_of_ble_eq_true rfl, Nat.le_of_ble_eq_true rfl⟩ ⟨Nat.le_of_ble_eq_true rfl, Nat.le_of_ble_eq_true rfl⟩ dL_law_509 (fun r1 σ1 w1 => ?_)
  obtain ⟨e1, hC1, hF1⟩ := w1
  refine gl_aload_n C.1 dL_law_512 (by rfl) (by rfl) ?_
  refine gl_aload_n C.1 dL_law_513 (by rfl) (by rfl) ?_
  refine gl_iload_n C.1 dL_law_514 (by rfl) (by rfl) ?_
  refine gl_iconst (v := nI 1) C.1 dL_law_515 (by decide) ?_
  refine gl_add C.1 i 1 dL_law_516 ?_
  refine gl_sld C.1 C.2.1 C.2.2.1 C.2.2.2.1 (show i + 1 < Ln by omega) (by have := C.2.2.2.2; omega) dL_law_517 ?_
  refine gl_aload_n C.1 dL_law_518 (by rfl) (by rfl) ?_
  refine gl_iload_n C.1 dL_law_519 (by rfl) (by rfl) ?_
  refine gl_iconst (v := nI 2) C.1 dL_law_520 (by decide) ?_
  refine gl_add C.1 i 2 dL_law_521 ?_
  refine gl_sld C.1 C.2.1 C.2.2.1 C.2.2.2.1 (show i + 2 < Ln by omega) (by have := C.2.2.2.2; omega) dL_law_522 ?_
  refine gl_callVI (As := [.int (xs (i + 1)), .int (xs (i + 2))]) (rest := [.int r1]) C.1 (c_X4_gift E σ1 K L g F tl Bt W Z N (hM.fc hF1) (xs (i + 1)) (xs (i + 2))) z_X4_gift ck4 (by rfl) (by rfl) ml_L_50 (by rfl) (Nat.le_of_ble_eq_true rfl) ⟨Nat.le_of_ble_eq_true rfl, Nat.le_of_ble_eq_true rfl⟩ ⟨Nat.le_of_ble_eq_true rfl, Nat.le_of_ble_eq_true rfl⟩ dL_law_523 (fun r2 σ2 w2 => ?_)
  obtain ⟨e2, hM2, hF2⟩ := w2
  exact gl_icmp_eq (tgt := 1486) C.1 dL_law_526 (by decide) (fun _ => kk σ2 _ (hC1.fm hF2) hM2) (fun h => absurd (e1.trans e2.symm) h)
set_option maxHeartbeats 4000000 in
set_option maxRecDepth 100000 in
theorem lc_9 {E : En} {p : Program} {e : Env} {s : State} {m : MethodId} {below : List Frame} {meth : Method} {c : Code} {Q : State → Prop} {b Ln i : Nat} {xs : Nat → Int32} (C : LwC E p s m c b Ln xs) (hi : i + 6 ≤ Ln) {σ : Mm} {A : As} (hC : CR σ A) (hM : MR σ A) (kk : ∀ (σ' : Mm) (A' : As), CR σ' A' → MR σ' A' → GlL E p e s m b below meth c Q 1486 i [] σ') : GlL E p e s m b below meth c Q 531 i [] σ := by
  obtain ⟨K, L, g, F, tl, Bt, W, Z, N⟩ := A
  refine gl_aload_n C.1 dL_law_531 (by rfl) (by rfl) ?_
  refine gl_aload_n C.1 dL_law_532 (by rfl) (by rfl) ?_
  refine gl_iload_n C.1 dL_law_533 (by rfl) (by rfl) ?_
  refine gl_iconst (v := nI 1) C.1 dL_law_534 (by decide) ?_
  refine gl_add C.1 i 1 dL_law_535 ?_
  refine gl_sld C.1 C.2.1 C.2.2.1 C.2.2.2.1 (show i + 1 < Ln by omega) (by have := C.2.2.2.2; omega) dL_law_536 ?_
  refine gl_aload_n C.1 dL_law_537 (by rfl) (by rfl) ?_
  refine gl_iload_n C.1 dL_law_538 (by rfl) (by rfl) ?_
  refine gl_iconst (v := nI 2) C.1 dL_law_539 (by decide) ?_
  refine gl_add C.1 i 2 dL_law_540 ?_
  refine gl_sld C.1 C.2.1 C.2.2.1 C.2.2.2.1 (show i + 2 < Ln by omega) (by have := C.2.2.2.2; omega) dL_law_541 ?_
  refine gl_callVI (As := [.int (xs (i + 1)), .int (xs (i + 2))]) (rest := []) C.1 (c_X3_exchange E σ K L g F tl Bt W Z N hC (xs (i + 1)) (xs (i + 2))) z_X3_exchange ck3 (by rfl) (by rfl) ml_L_51 (by rfl) (Nat.le_of_ble_eq_true rfl) ⟨Nat.le_of_ble_eq_true rfl, Nat.le_of_ble_eq_true rfl⟩ ⟨Nat.le_of_ble_eq_true rfl, Nat.le_of_ble_eq_true rfl⟩ dL_law_542 (fun r1 σ1 w1 => ?_)
  obtain ⟨e1, hC1, hF1⟩ := w1
  refine gl_aload_n C.1 dL_law_545 (by rfl) (by rfl) ?_
  refine gl_aload_n C.1 dL_law_546 (by rfl) (by rfl) ?_
  refine gl_iload_n C.1 dL_law_547 (by rfl) (by rfl) ?_
  refine gl_iconst (v := nI 1) C.1 dL_law_548 (by decide) ?_
  refine gl_add C.1 i 1 dL_law_549 ?_
  refine gl_sld C.1 C.2.1 C.2.2.1 C.2.2.2.1 (show i + 1 < Ln by omega) (by have := C.2.2.2.2; omega) dL_law_550 ?_
  refine gl_aload_n C.1 dL_law_551 (by rfl) (by rfl) ?_
  refine gl_iload_n C.1 dL_law_552 (by rfl) (by rfl) ?_
  refine gl_iconst (v := nI 2) C.1 dL_law_553 (by decide) ?_
  refine gl_add C.1 i 2 dL_law_554 ?_
  refine gl_sld C.1 C.2.1 C.2.2.1 C.2.2.2.1 (show i + 2 < Ln by omega) (by have := C.2.2.2.2; omega) dL_law_555 ?_
  refine gl_callVI (As := [.int (xs (i + 1)), .int (xs (i + 2))]) (rest := [.int r1]) C.1 (c_X4_exchange E σ1 K L g F tl Bt W Z N (hM.fc hF1) (xs (i + 1)) (xs (i + 2))) z_X4_exchange ck4 (by rfl) (by rfl) ml_L_54 (by rfl) (Nat.le_of_ble_eq_true rfl) ⟨Nat.le_of_ble_eq_true rfl, Nat.le_of_ble_eq_true rfl⟩ ⟨Nat.le_of_ble_eq_true rfl, Nat.le_of_ble_eq_true rfl⟩ dL_law_556 (fun r2 σ2 w2 => ?_)
  obtain ⟨e2, hM2, hF2⟩ := w2
  exact gl_icmp_eq (tgt := 1486) C.1 dL_law_559 (by decide) (fun _ => kk σ2 _ (hC1.fm hF2) hM2) (fun h => absurd (e1.trans e2.symm) h)
set_option maxHeartbeats 4000000 in
set_option maxRecDepth 100000 in
theorem lc_10 {E : En} {p : Program} {e : Env} {s : State} {m : MethodId} {below : List Frame} {meth : Method} {c : Code} {Q : State → Prop} {b Ln i : Nat} {xs : Nat → Int32} (C : LwC E p s m c b Ln xs) (hi : i + 6 ≤ Ln) {σ : Mm} {A : As} (hC : CR σ A) (hM : MR σ A) (kk : ∀ (σ' : Mm) (A' : As), CR σ' A' → MR σ' A' → GlL E p e s m b below meth c Q 1486 i [] σ') : GlL E p e s m b below meth c Q 564 i [] σ := by
  obtain ⟨K, L, g, F, tl, Bt, W, Z, N⟩ := A
  refine gl_aload_n C.1 dL_law_564 (by rfl) (by rfl) ?_
  refine gl_aload_n C.1 dL_law_565 (by rfl) (by rfl) ?_
  refine gl_iload_n C.1 dL_law_566 (by rfl) (by rfl) ?_
  refine gl_iconst (v := nI 1) C.1 dL_law_567 (by decide) ?_
  refine gl_add C.1 i 1 dL_law_568 ?_
  refine gl_sld C.1 C.2.1 C.2.2.1 C.2.2.2.1 (show i + 1 < Ln by omega) (by have := C.2.2.2.2; omega) dL_law_569 ?_
  refine gl_aload_n C.1 dL_law_570 (by rfl) (by rfl) ?_
  refine gl_iload_n C.1 dL_law_571 (by rfl) (by rfl) ?_
  refine gl_iconst (v := nI 2) C.1 dL_law_572 (by decide) ?_
  refine gl_add C.1 i 2 dL_law_573 ?_
  refine gl_sld C.1 C.2.1 C.2.2.1 C.2.2.2.1 (show i + 2 < Ln by omega) (by have := C.2.2.2.2; omega) dL_law_574 ?_
  refine gl_callVI (As := [.int (xs (i + 1)), .int (xs (i + 2))]) (rest := []) C.1 (c_X3_wants E σ K L g F tl Bt W Z N hC (xs (i + 1)) (xs (i + 2))) z_X3_wants ck3 (by rfl) (by rfl) ml_L_55 (by rfl) (Nat.le_of_ble_eq_true rfl) ⟨Nat.le_of_ble_eq_true rfl, Nat.le_of_ble_eq_true rfl⟩ ⟨Nat.le_of_ble_eq_true rfl, Nat.le_of_ble_eq_true rfl⟩ dL_law_575 (fun r1 σ1 w1 => ?_)
  obtain ⟨e1, hC1, hF1⟩ := w1
  refine gl_aload_n C.1 dL_law_578 (by rfl) (by rfl) ?_
  refine gl_aload_n C.1 dL_law_579 (by rfl) (by rfl) ?_
  refine gl_iload_n C.1 dL_law_580 (by rfl) (by rfl) ?_
  refine gl_iconst (v := nI 1) C.1 dL_law_581 (by decide) ?_
  refine gl_add C.1 i 1 dL_law_582 ?_
  refine gl_sld C.1 C.2.1 C.2.2.1 C.2.2.2.1 (show i + 1 < Ln by omega) (by have := C.2.2.2.2; omega) dL_law_583 ?_
  refine gl_aload_n C.1 dL_law_584 (by rfl) (by rfl) ?_
  refine gl_iload_n C.1 dL_law_585 (by rfl) (by rfl) ?_
  refine gl_iconst (v := nI 2) C.1 dL_law_586 (by decide) ?_
  refine gl_add C.1 i 2 dL_law_587 ?_
  refine gl_sld C.1 C.2.1 C.2.2.1 C.2.2.2.1 (show i + 2 < Ln by omega) (by have := C.2.2.2.2; omega) dL_law_588 ?_
  refine gl_callVI (As := [.int (xs (i + 1)), .int (xs (i + 2))]) (rest := [.int r1]) C.1 (c_X4_wants E σ1 K L g F tl Bt W Z N (hM.fc hF1) (xs (i + 1)) (xs (i + 2))) z_X4_wants ck4 (by rfl) (by rfl) ml_L_58 (by rfl) (Nat.le_of_ble_eq_true rfl) ⟨Nat.le_of_ble_eq_true rfl, Nat.le_of_ble_eq_true rfl⟩ ⟨Nat.le_of_ble_eq_true rfl, Nat.le_of_ble_eq_true rfl⟩ dL_law_589 (fun r2 σ2 w2 => ?_)
  obtain ⟨e2, hM2, hF2⟩ := w2
  exact gl_icmp_eq (tgt := 1486) C.1 dL_law_592 (by decide) (fun _ => kk σ2 _ (hC1.fm hF2) hM2) (fun h => absurd (e1.trans e2.symm) h)
set_option maxHeartbeats 4000000 in
set_option maxRecDepth 100000 in
theorem lc_11 {E : En} {p : Program} {e : Env} {s : State} {m : MethodId} {below : List Frame} {meth : Method} {c : Code} {Q : State → Prop} {b Ln i : Nat} {xs : Nat → Int32} (C : LwC E p s m c b Ln xs) (hi : i + 6 ≤ Ln) {σ : Mm} {A : As} (hC : CR σ A) (hM : MR σ A) (kk : ∀ (σ' : Mm) (A' : As), CR σ' A' → MR σ' A' → GlL E p e s m b below meth c Q 1486 i [] σ') : GlL E p e s m b below meth c Q 597 i [] σ := by
  obtain ⟨K, L, g, F, tl, Bt, W, Z, N⟩ := A
  refine gl_aload_n C.1 dL_law_597 (by rfl) (by rfl) ?_
  refine gl_aload_n C.1 dL_law_598 (by rfl) (by rfl) ?_
  refine gl_iload_n C.1 dL_law_599 (by rfl) (by rfl) ?_
  refine gl_iconst (v := nI 1) C.1 dL_law_600 (by decide) ?_
  refine gl_add C.1 i 1 dL_law_601 ?_
  refine gl_sld C.1 C.2.1 C.2.2.1 C.2.2.2.1 (show i + 1 < Ln by omega) (by have := C.2.2.2.2; omega) dL_law_602 ?_
  refine gl_callVI (As := [.int (xs (i + 1))]) (rest := []) C.1 (c_X3_against E σ K L g F tl Bt W Z N hC (xs (i + 1))) z_X3_against ck3 (by rfl) (by rfl) ml_L_59 (by rfl) (Nat.le_of_ble_eq_true rfl) ⟨Nat.le_of_ble_eq_true rfl, Nat.le_of_ble_eq_true rfl⟩ ⟨Nat.le_of_ble_eq_true rfl, Nat.le_of_ble_eq_true rfl⟩ dL_law_603 (fun r1 σ1 w1 => ?_)
  obtain ⟨e1, hC1, hF1⟩ := w1
  refine gl_aload_n C.1 dL_law_606 (by rfl) (by rfl) ?_
  refine gl_aload_n C.1 dL_law_607 (by rfl) (by rfl) ?_
  refine gl_iload_n C.1 dL_law_608 (by rfl) (by rfl) ?_
  refine gl_iconst (v := nI 1) C.1 dL_law_609 (by decide) ?_
  refine gl_add C.1 i 1 dL_law_610 ?_
  refine gl_sld C.1 C.2.1 C.2.2.1 C.2.2.2.1 (show i + 1 < Ln by omega) (by have := C.2.2.2.2; omega) dL_law_611 ?_
  refine gl_callVI (As := [.int (xs (i + 1))]) (rest := [.int r1]) C.1 (c_X4_against E σ1 K L g F tl Bt W Z N (hM.fc hF1) (xs (i + 1))) z_X4_against ck4 (by rfl) (by rfl) ml_L_63 (by rfl) (Nat.le_of_ble_eq_true rfl) ⟨Nat.le_of_ble_eq_true rfl, Nat.le_of_ble_eq_true rfl⟩ ⟨Nat.le_of_ble_eq_true rfl, Nat.le_of_ble_eq_true rfl⟩ dL_law_612 (fun r2 σ2 w2 => ?_)
  obtain ⟨e2, hM2, hF2⟩ := w2
  exact gl_icmp_eq (tgt := 1486) C.1 dL_law_615 (by decide) (fun _ => kk σ2 _ (hC1.fm hF2) hM2) (fun h => absurd (e1.trans e2.symm) h)
set_option maxHeartbeats 4000000 in
set_option maxRecDepth 100000 in
theorem lc_12 {E : En} {p : Program} {e : Env} {s : State} {m : MethodId} {below : List Frame} {meth : Method} {c : Code} {Q : State → Prop} {b Ln i : Nat} {xs : Nat → Int32} (C : LwC E p s m c b Ln xs) (hi : i + 6 ≤ Ln) {σ : Mm} {A : As} (hC : CR σ A) (hM : MR σ A) (kk : ∀ (σ' : Mm) (A' : As), CR σ' A' → MR σ' A' → GlL E p e s m b below meth c Q 1486 i [] σ') : GlL E p e s m b below meth c Q 620 i [] σ := by
  obtain ⟨K, L, g, F, tl, Bt, W, Z, N⟩ := A
  refine gl_aload_n C.1 dL_law_620 (by rfl) (by rfl) ?_
  refine gl_aload_n C.1 dL_law_621 (by rfl) (by rfl) ?_
  refine gl_iload_n C.1 dL_law_622 (by rfl) (by rfl) ?_
  refine gl_iconst (v := nI 1) C.1 dL_law_623 (by decide) ?_
  refine gl_add C.1 i 1 dL_law_624 ?_
  refine gl_sld C.1 C.2.1 C.2.2.1 C.2.2.2.1 (show i + 1 < Ln by omega) (by have := C.2.2.2.2; omega) dL_law_625 ?_
  refine gl_callVI (As := [.int (xs (i + 1))]) (rest := []) C.1 (c_X3_lacks E σ K L g F tl Bt W Z N hC (xs (i + 1))) z_X3_lacks ck3 (by rfl) (by rfl) ml_L_64 (by rfl) (Nat.le_of_ble_eq_true rfl) ⟨Nat.le_of_ble_eq_true rfl, Nat.le_of_ble_eq_true rfl⟩ ⟨Nat.le_of_ble_eq_true rfl, Nat.le_of_ble_eq_true rfl⟩ dL_law_626 (fun r1 σ1 w1 => ?_)
  obtain ⟨e1, hC1, hF1⟩ := w1
  refine gl_aload_n C.1 dL_law_629 (by rfl) (by rfl) ?_
  refine gl_aload_n C.1 dL_law_630 (by rfl) (by rfl) ?_
  refine gl_iload_n C.1 dL_law_631 (by rfl) (by rfl) ?_
  refine gl_iconst (v := nI 1) C.1 dL_law_632 (by decide) ?_
  refine gl_add C.1 i 1 dL_law_633 ?_
  refine gl_sld C.1 C.2.1 C.2.2.1 C.2.2.2.1 (show i + 1 < Ln by omega) (by have := C.2.2.2.2; omega) dL_law_634 ?_
  refine gl_callVI (As := [.int (xs (i + 1))]) (rest := [.int r1]) C.1 (c_X4_lacks E σ1 K L g F tl Bt W Z N (hM.fc hF1) (xs (i + 1))) z_X4_lacks ck4 (by rfl) (by rfl) ml_L_67 (by rfl) (Nat.le_of_ble_eq_true rfl) ⟨Nat.le_of_ble_eq_true rfl, Nat.le_of_ble_eq_true rfl⟩ ⟨Nat.le_of_ble_eq_true rfl, Nat.le_of_ble_eq_true rfl⟩ dL_law_635 (fun r2 σ2 w2 => ?_)
  obtain ⟨e2, hM2, hF2⟩ := w2
  exact gl_icmp_eq (tgt := 1486) C.1 dL_law_638 (by decide) (fun _ => kk σ2 _ (hC1.fm hF2) hM2) (fun h => absurd (e1.trans e2.symm) h)
set_option maxHeartbeats 4000000 in
set_option maxRecDepth 100000 in
theorem lc_13 {E : En} {p : Program} {e : Env} {s : State} {m : MethodId} {below : List Frame} {meth : Method} {c : Code} {Q : State → Prop} {b Ln i : Nat} {xs : Nat → Int32} (C : LwC E p s m c b Ln xs) (hi : i + 6 ≤ Ln) {σ : Mm} {A : As} (hC : CR σ A) (hM : MR σ A) (kk : ∀ (σ' : Mm) (A' : As), CR σ' A' → MR σ' A' → GlL E p e s m b below meth c Q 1486 i [] σ') : GlL E p e s m b below meth c Q 643 i [] σ := by
  obtain ⟨K, L, g, F, tl, Bt, W, Z, N⟩ := A
  refine gl_aload_n C.1 dL_law_643 (by rfl) (by rfl) ?_
  refine gl_callVI (As := []) (rest := []) C.1 (c_X3_tremble E σ K L g F tl Bt W Z N hC) z_X3_tremble ck3 (by rfl) (by rfl) ml_L_68 (by rfl) (Nat.le_of_ble_eq_true rfl) ⟨Nat.le_of_ble_eq_true rfl, Nat.le_of_ble_eq_true rfl⟩ ⟨Nat.le_of_ble_eq_true rfl, Nat.le_of_ble_eq_true rfl⟩ dL_law_644 (fun r1 σ1 w1 => ?_)
  obtain ⟨e1, hC1, hF1⟩ := w1
  refine gl_aload_n C.1 dL_law_647 (by rfl) (by rfl) ?_
  refine gl_callVI (As := []) (rest := [.int r1]) C.1 (c_X4_tremble E σ1 K L g F tl Bt W Z N (hM.fc hF1)) z_X4_tremble ck4 (by rfl) (by rfl) ml_L_72 (by rfl) (Nat.le_of_ble_eq_true rfl) ⟨Nat.le_of_ble_eq_true rfl, Nat.le_of_ble_eq_true rfl⟩ ⟨Nat.le_of_ble_eq_true rfl, Nat.le_of_ble_eq_true rfl⟩ dL_law_648 (fun r2 σ2 w2 => ?_)
  obtain ⟨e2, hM2, hF2⟩ := w2
  exact gl_icmp_eq (tgt := 1486) C.1 dL_law_651 (by decide) (fun _ => kk σ2 _ (hC1.fm hF2) hM2) (fun h => absurd (e1.trans e2.symm) h)
set_option maxHeartbeats 4000000 in
set_option maxRecDepth 100000 in
theorem lc_14 {E : En} {p : Program} {e : Env} {s : State} {m : MethodId} {below : List Frame} {meth : Method} {c : Code} {Q : State → Prop} {b Ln i : Nat} {xs : Nat → Int32} (C : LwC E p s m c b Ln xs) (hi : i + 6 ≤ Ln) {σ : Mm} {A : As} (hC : CR σ A) (hM : MR σ A) (kk : ∀ (σ' : Mm) (A' : As), CR σ' A' → MR σ' A' → GlL E p e s m b below meth c Q 1486 i [] σ') : GlL E p e s m b below meth c Q 656 i [] σ := by
  obtain ⟨K, L, g, F, tl, Bt, W, Z, N⟩ := A
  refine gl_aload_n C.1 dL_law_656 (by rfl) (by rfl) ?_
  refine gl_aload_n C.1 dL_law_657 (by rfl) (by rfl) ?_
  refine gl_iload_n C.1 dL_law_658 (by rfl) (by rfl) ?_
  refine gl_iconst (v := nI 1) C.1 dL_law_659 (by decide) ?_
  refine gl_add C.1 i 1 dL_law_660 ?_
  refine gl_sld C.1 C.2.1 C.2.2.1 C.2.2.2.1 (show i + 1 < Ln by omega) (by have := C.2.2.2.2; omega) dL_law_661 ?_
  refine gl_callVI (As := [.int (xs (i + 1))]) (rest := []) C.1 (c_X3_heir E σ K L g F tl Bt W Z N hC (xs (i + 1))) z_X3_heir ck3 (by rfl) (by rfl) ml_L_73 (by rfl) (Nat.le_of_ble_eq_true rfl) ⟨Nat.le_of_ble_eq_true rfl, Nat.le_of_ble_eq_true rfl⟩ ⟨Nat.le_of_ble_eq_true rfl, Nat.le_of_ble_eq_true rfl⟩ dL_law_662 (fun r1 σ1 w1 => ?_)
  obtain ⟨e1, hC1, hF1⟩ := w1
  refine gl_aload_n C.1 dL_law_665 (by rfl) (by rfl) ?_
  refine gl_aload_n C.1 dL_law_666 (by rfl) (by rfl) ?_
  refine gl_iload_n C.1 dL_law_667 (by rfl) (by rfl) ?_
  refine gl_iconst (v := nI 1) C.1 dL_law_668 (by decide) ?_
  refine gl_add C.1 i 1 dL_law_669 ?_
  refine gl_sld C.1 C.2.1 C.2.2.1 C.2.2.2.1 (show i + 1 < Ln by omega) (by have := C.2.2.2.2; omega) dL_law_670 ?_
  refine gl_callVI (As := [.int (xs (i + 1))]) (rest := [.int r1]) C.1 (c_X4_heir E σ1 K L g F tl Bt W Z N (hM.fc hF1) (xs (i + 1))) z_X4_heir ck4 (by rfl) (by rfl) ml_L_76 (by rfl) (Nat.le_of_ble_eq_true rfl) ⟨Nat.le_of_ble_eq_true rfl, Nat.le_of_ble_eq_true rfl⟩ ⟨Nat.le_of_ble_eq_true rfl, Nat.le_of_ble_eq_true rfl⟩ dL_law_671 (fun r2 σ2 w2 => ?_)
  obtain ⟨e2, hM2, hF2⟩ := w2
  exact gl_icmp_eq (tgt := 1486) C.1 dL_law_674 (by decide) (fun _ => kk σ2 _ (hC1.fm hF2) hM2) (fun h => absurd (e1.trans e2.symm) h)
set_option maxHeartbeats 4000000 in
set_option maxRecDepth 100000 in
theorem lc_15 {E : En} {p : Program} {e : Env} {s : State} {m : MethodId} {below : List Frame} {meth : Method} {c : Code} {Q : State → Prop} {b Ln i : Nat} {xs : Nat → Int32} (C : LwC E p s m c b Ln xs) (hi : i + 6 ≤ Ln) {σ : Mm} {A : As} (hC : CR σ A) (hM : MR σ A) (kk : ∀ (σ' : Mm) (A' : As), CR σ' A' → MR σ' A' → GlL E p e s m b below meth c Q 1486 i [] σ') : GlL E p e s m b below meth c Q 679 i [] σ := by
  obtain ⟨K, L, g, F, tl, Bt, W, Z, N⟩ := A
  refine gl_aload_n C.1 dL_law_679 (by rfl) (by rfl) ?_
  refine gl_aload_n C.1 dL_law_680 (by rfl) (by rfl) ?_
  refine gl_iload_n C.1 dL_law_681 (by rfl) (by rfl) ?_
  refine gl_iconst (v := nI 1) C.1 dL_law_682 (by decide) ?_
  refine gl_add C.1 i 1 dL_law_683 ?_
  refine gl_sld C.1 C.2.1 C.2.2.1 C.2.2.2.1 (show i + 1 < Ln by omega) (by have := C.2.2.2.2; omega) dL_law_684 ?_
  refine gl_callVI (As := [.int (xs (i + 1))]) (rest := []) C.1 (c_X3_months E σ K L g F tl Bt W Z N hC (xs (i + 1))) z_X3_months ck3 (by rfl) (by rfl) ml_L_77 (by rfl) (Nat.le_of_ble_eq_true rfl) ⟨Nat.le_of_ble_eq_true rfl, Nat.le_of_ble_eq_true rfl⟩ ⟨Nat.le_of_ble_eq_true rfl, Nat.le_of_ble_eq_true rfl⟩ dL_law_685 (fun r1 σ1 w1 => ?_)
  obtain ⟨e1, hC1, hF1⟩ := w1
  refine gl_aload_n C.1 dL_law_688 (by rfl) (by rfl) ?_
  refine gl_aload_n C.1 dL_law_689 (by rfl) (by rfl) ?_
  refine gl_iload_n C.1 dL_law_690 (by rfl) (by rfl) ?_
  refine gl_iconst (v := nI 1) C.1 dL_law_691 (by decide) ?_
  refine gl_add C.1 i 1 dL_law_692 ?_
  refine gl_sld C.1 C.2.1 C.2.2.1 C.2.2.2.1 (show i + 1 < Ln by omega) (by have := C.2.2.2.2; omega) dL_law_693 ?_
  refine gl_callVI (As := [.int (xs (i + 1))]) (rest := [.int r1]) C.1 (c_X4_months E σ1 K L g F tl Bt W Z N (hM.fc hF1) (xs (i + 1))) z_X4_months ck4 (by rfl) (by rfl) ml_L_80 (by rfl) (Nat.le_of_ble_eq_true rfl) ⟨Nat.le_of_ble_eq_true rfl, Nat.le_of_ble_eq_true rfl⟩ ⟨Nat.le_of_ble_eq_true rfl, Nat.le_of_ble_eq_true rfl⟩ dL_law_694 (fun r2 σ2 w2 => ?_)
  obtain ⟨e2, hM2, hF2⟩ := w2
  exact gl_icmp_eq (tgt := 1486) C.1 dL_law_697 (by decide) (fun _ => kk σ2 _ (hC1.fm hF2) hM2) (fun h => absurd (e1.trans e2.symm) h)
set_option maxHeartbeats 4000000 in
set_option maxRecDepth 100000 in
theorem lc_16 {E : En} {p : Program} {e : Env} {s : State} {m : MethodId} {below : List Frame} {meth : Method} {c : Code} {Q : State → Prop} {b Ln i : Nat} {xs : Nat → Int32} (C : LwC E p s m c b Ln xs) (hi : i + 6 ≤ Ln) {σ : Mm} {A : As} (hC : CR σ A) (hM : MR σ A) (kk : ∀ (σ' : Mm) (A' : As), CR σ' A' → MR σ' A' → GlL E p e s m b below meth c Q 1486 i [] σ') : GlL E p e s m b below meth c Q 702 i [] σ := by
  obtain ⟨K, L, g, F, tl, Bt, W, Z, N⟩ := A
  refine gl_aload_n C.1 dL_law_702 (by rfl) (by rfl) ?_
  refine gl_aload_n C.1 dL_law_703 (by rfl) (by rfl) ?_
  refine gl_iload_n C.1 dL_law_704 (by rfl) (by rfl) ?_
  refine gl_iconst (v := nI 1) C.1 dL_law_705 (by decide) ?_
  refine gl_add C.1 i 1 dL_law_706 ?_
  refine gl_sld C.1 C.2.1 C.2.2.1 C.2.2.2.1 (show i + 1 < Ln by omega) (by have := C.2.2.2.2; omega) dL_law_707 ?_
  refine gl_aload_n C.1 dL_law_708 (by rfl) (by rfl) ?_
  refine gl_iload_n C.1 dL_law_709 (by rfl) (by rfl) ?_
  refine gl_iconst (v := nI 2) C.1 dL_law_710 (by decide) ?_
  refine gl_add C.1 i 2 dL_law_711 ?_
  refine gl_sld C.1 C.2.1 C.2.2.1 C.2.2.2.1 (show i + 2 < Ln by omega) (by have := C.2.2.2.2; omega) dL_law_712 ?_
  refine gl_callVI (As := [.int (xs (i + 1)), .int (xs (i + 2))]) (rest := []) C.1 (c_X3_ahead E σ K L g F tl Bt W Z N hC (xs (i + 1)) (xs (i + 2))) z_X3_ahead ck3 (by rfl) (by rfl) ml_L_81 (by rfl) (Nat.le_of_ble_eq_true rfl) ⟨Nat.le_of_ble_eq_true rfl, Nat.le_of_ble_eq_true rfl⟩ ⟨Nat.le_of_ble_eq_true rfl, Nat.le_of_ble_eq_true rfl⟩ dL_law_713 (fun r1 σ1 w1 => ?_)
  obtain ⟨e1, hC1, hF1⟩ := w1
  refine gl_aload_n C.1 dL_law_716 (by rfl) (by rfl) ?_
  refine gl_aload_n C.1 dL_law_717 (by rfl) (by rfl) ?_
  refine gl_iload_n C.1 dL_law_718 (by rfl) (by rfl) ?_
  refine gl_iconst (v := nI 1) C.1 dL_law_719 (by decide) ?_
  refine gl_add C.1 i 1 dL_law_720 ?_
  refine gl_sld C.1 C.2.1 C.2.2.1 C.2.2.2.1 (show i + 1 < Ln by omega) (by have := C.2.2.2.2; omega) dL_law_721 ?_
  refine gl_aload_n C.1 dL_law_722 (by rfl) (by rfl) ?_
  refine gl_iload_n C.1 dL_law_723 (by rfl) (by rfl) ?_
  refine gl_iconst (v := nI 2) C.1 dL_law_724 (by decide) ?_
  refine gl_add C.1 i 2 dL_law_725 ?_
  refine gl_sld C.1 C.2.1 C.2.2.1 C.2.2.2.1 (show i + 2 < Ln by omega) (by have := C.2.2.2.2; omega) dL_law_726 ?_
  refine gl_callVI (As := [.int (xs (i + 1)), .int (xs (i + 2))]) (rest := [.int r1]) C.1 (c_X4_ahead E σ1 K L g F tl Bt W Z N (hM.fc hF1) (xs (i + 1)) (xs (i + 2))) z_X4_ahead ck4 (by rfl) (by rfl) ml_L_84 (by rfl) (Nat.le_of_ble_eq_true rfl) ⟨Nat.le_of_ble_eq_true rfl, Nat.le_of_ble_eq_true rfl⟩ ⟨Nat.le_of_ble_eq_true rfl, Nat.le_of_ble_eq_true rfl⟩ dL_law_727 (fun r2 σ2 w2 => ?_)
  obtain ⟨e2, hM2, hF2⟩ := w2
  exact gl_icmp_eq (tgt := 1486) C.1 dL_law_730 (by decide) (fun _ => kk σ2 _ (hC1.fm hF2) hM2) (fun h => absurd (e1.trans e2.symm) h)
set_option maxHeartbeats 4000000 in
set_option maxRecDepth 100000 in
theorem lc_17 {E : En} {p : Program} {e : Env} {s : State} {m : MethodId} {below : List Frame} {meth : Method} {c : Code} {Q : State → Prop} {b Ln i : Nat} {xs : Nat → Int32} (C : LwC E p s m c b Ln xs) (hi : i + 6 ≤ Ln) {σ : Mm} {A : As} (hC : CR σ A) (hM : MR σ A) (kk : ∀ (σ' : Mm) (A' : As), CR σ' A' → MR σ' A' → GlL E p e s m b below meth c Q 1486 i [] σ') : GlL E p e s m b below meth c Q 735 i [] σ := by
  obtain ⟨K, L, g, F, tl, Bt, W, Z, N⟩ := A
  refine gl_aload_n C.1 dL_law_735 (by rfl) (by rfl) ?_
  refine gl_aload_n C.1 dL_law_736 (by rfl) (by rfl) ?_
  refine gl_iload_n C.1 dL_law_737 (by rfl) (by rfl) ?_
  refine gl_iconst (v := nI 1) C.1 dL_law_738 (by decide) ?_
  refine gl_add C.1 i 1 dL_law_739 ?_
  refine gl_sld C.1 C.2.1 C.2.2.1 C.2.2.2.1 (show i + 1 < Ln by omega) (by have := C.2.2.2.2; omega) dL_law_740 ?_
  refine gl_callVI (As := [.int (xs (i + 1))]) (rest := []) C.1 (c_X3_sits E σ K L g F tl Bt W Z N hC (xs (i + 1))) z_X3_sits ck3 (by rfl) (by rfl) ml_L_85 (by rfl) (Nat.le_of_ble_eq_true rfl) ⟨Nat.le_of_ble_eq_true rfl, Nat.le_of_ble_eq_true rfl⟩ ⟨Nat.le_of_ble_eq_true rfl, Nat.le_of_ble_eq_true rfl⟩ dL_law_741 (fun r1 σ1 w1 => ?_)
  obtain ⟨e1, hC1, hF1⟩ := w1
  refine gl_aload_n C.1 dL_law_744 (by rfl) (by rfl) ?_
  refine gl_aload_n C.1 dL_law_745 (by rfl) (by rfl) ?_
  refine gl_iload_n C.1 dL_law_746 (by rfl) (by rfl) ?_
  refine gl_iconst (v := nI 1) C.1 dL_law_747 (by decide) ?_
  refine gl_add C.1 i 1 dL_law_748 ?_
  refine gl_sld C.1 C.2.1 C.2.2.1 C.2.2.2.1 (show i + 1 < Ln by omega) (by have := C.2.2.2.2; omega) dL_law_749 ?_
  refine gl_callVI (As := [.int (xs (i + 1))]) (rest := [.int r1]) C.1 (c_X4_sits E σ1 K L g F tl Bt W Z N (hM.fc hF1) (xs (i + 1))) z_X4_sits ck4 (by rfl) (by rfl) ml_L_88 (by rfl) (Nat.le_of_ble_eq_true rfl) ⟨Nat.le_of_ble_eq_true rfl, Nat.le_of_ble_eq_true rfl⟩ ⟨Nat.le_of_ble_eq_true rfl, Nat.le_of_ble_eq_true rfl⟩ dL_law_750 (fun r2 σ2 w2 => ?_)
  obtain ⟨e2, hM2, hF2⟩ := w2
  exact gl_icmp_eq (tgt := 1486) C.1 dL_law_753 (by decide) (fun _ => kk σ2 _ (hC1.fm hF2) hM2) (fun h => absurd (e1.trans e2.symm) h)
set_option maxHeartbeats 4000000 in
set_option maxRecDepth 100000 in
theorem lc_18 {E : En} {p : Program} {e : Env} {s : State} {m : MethodId} {below : List Frame} {meth : Method} {c : Code} {Q : State → Prop} {b Ln i : Nat} {xs : Nat → Int32} (C : LwC E p s m c b Ln xs) (hi : i + 6 ≤ Ln) {σ : Mm} {A : As} (hC : CR σ A) (hM : MR σ A) (kk : ∀ (σ' : Mm) (A' : As), CR σ' A' → MR σ' A' → GlL E p e s m b below meth c Q 1486 i [] σ') : GlL E p e s m b below meth c Q 758 i [] σ := by
  obtain ⟨K, L, g, F, tl, Bt, W, Z, N⟩ := A
  refine gl_aload_n C.1 dL_law_758 (by rfl) (by rfl) ?_
  refine gl_aload_n C.1 dL_law_759 (by rfl) (by rfl) ?_
  refine gl_iload_n C.1 dL_law_760 (by rfl) (by rfl) ?_
  refine gl_iconst (v := nI 1) C.1 dL_law_761 (by decide) ?_
  refine gl_add C.1 i 1 dL_law_762 ?_
  refine gl_sld C.1 C.2.1 C.2.2.1 C.2.2.2.1 (show i + 1 < Ln by omega) (by have := C.2.2.2.2; omega) dL_law_763 ?_
  refine gl_aload_n C.1 dL_law_764 (by rfl) (by rfl) ?_
  refine gl_iload_n C.1 dL_law_765 (by rfl) (by rfl) ?_
  refine gl_iconst (v := nI 2) C.1 dL_law_766 (by decide) ?_
  refine gl_add C.1 i 2 dL_law_767 ?_
  refine gl_sld C.1 C.2.1 C.2.2.1 C.2.2.2.1 (show i + 2 < Ln by omega) (by have := C.2.2.2.2; omega) dL_law_768 ?_
  refine gl_callVI (As := [.int (xs (i + 1)), .int (xs (i + 2))]) (rest := []) C.1 (c_X3_rises E σ K L g F tl Bt W Z N hC (xs (i + 1)) (xs (i + 2))) z_X3_rises ck3 (by rfl) (by rfl) ml_L_89 (by rfl) (Nat.le_of_ble_eq_true rfl) ⟨Nat.le_of_ble_eq_true rfl, Nat.le_of_ble_eq_true rfl⟩ ⟨Nat.le_of_ble_eq_true rfl, Nat.le_of_ble_eq_true rfl⟩ dL_law_769 (fun r1 σ1 w1 => ?_)
  obtain ⟨e1, hC1, hF1⟩ := w1
  refine gl_aload_n C.1 dL_law_772 (by rfl) (by rfl) ?_
  refine gl_aload_n C.1 dL_law_773 (by rfl) (by rfl) ?_
  refine gl_iload_n C.1 dL_law_774 (by rfl) (by rfl) ?_
  refine gl_iconst (v := nI 1) C.1 dL_law_775 (by decide) ?_
  refine gl_add C.1 i 1 dL_law_776 ?_
  refine gl_sld C.1 C.2.1 C.2.2.1 C.2.2.2.1 (show i + 1 < Ln by omega) (by have := C.2.2.2.2; omega) dL_law_777 ?_
  refine gl_aload_n C.1 dL_law_778 (by rfl) (by rfl) ?_
  refine gl_iload_n C.1 dL_law_779 (by rfl) (by rfl) ?_
  refine gl_iconst (v := nI 2) C.1 dL_law_780 (by decide) ?_
  refine gl_add C.1 i 2 dL_law_781 ?_
  refine gl_sld C.1 C.2.1 C.2.2.1 C.2.2.2.1 (show i + 2 < Ln by omega) (by have := C.2.2.2.2; omega) dL_law_782 ?_
  refine gl_callVI (As := [.int (xs (i + 1)), .int (xs (i + 2))]) (rest := [.int r1]) C.1 (c_X4_rises E σ1 K L g F tl Bt W Z N (hM.fc hF1) (xs (i + 1)) (xs (i + 2))) z_X4_rises ck4 (by rfl) (by rfl) ml_L_92 (by rfl) (Nat.le_of_ble_eq_true rfl) ⟨Nat.le_of_ble_eq_true rfl, Nat.le_of_ble_eq_true rfl⟩ ⟨Nat.le_of_ble_eq_true rfl, Nat.le_of_ble_eq_true rfl⟩ dL_law_783 (fun r2 σ2 w2 => ?_)
  obtain ⟨e2, hM2, hF2⟩ := w2
  exact gl_icmp_eq (tgt := 1486) C.1 dL_law_786 (by decide) (fun _ => kk σ2 _ (hC1.fm hF2) hM2) (fun h => absurd (e1.trans e2.symm) h)
set_option maxHeartbeats 4000000 in
set_option maxRecDepth 100000 in
theorem lc_19 {E : En} {p : Program} {e : Env} {s : State} {m : MethodId} {below : List Frame} {meth : Method} {c : Code} {Q : State → Prop} {b Ln i : Nat} {xs : Nat → Int32} (C : LwC E p s m c b Ln xs) (hi : i + 6 ≤ Ln) {σ : Mm} {A : As} (hC : CR σ A) (hM : MR σ A) (kk : ∀ (σ' : Mm) (A' : As), CR σ' A' → MR σ' A' → GlL E p e s m b below meth c Q 1486 i [] σ') : GlL E p e s m b below meth c Q 791 i [] σ := by
  obtain ⟨K, L, g, F, tl, Bt, W, Z, N⟩ := A
  refine gl_aload_n C.1 dL_law_791 (by rfl) (by rfl) ?_
  refine gl_aload_n C.1 dL_law_792 (by rfl) (by rfl) ?_
  refine gl_iload_n C.1 dL_law_793 (by rfl) (by rfl) ?_
  refine gl_iconst (v := nI 1) C.1 dL_law_794 (by decide) ?_
  refine gl_add C.1 i 1 dL_law_795 ?_
  refine gl_sld C.1 C.2.1 C.2.2.1 C.2.2.2.1 (show i + 1 < Ln by omega) (by have := C.2.2.2.2; omega) dL_law_796 ?_
  refine gl_aload_n C.1 dL_law_797 (by rfl) (by rfl) ?_
  refine gl_iload_n C.1 dL_law_798 (by rfl) (by rfl) ?_
  refine gl_iconst (v := nI 2) C.1 dL_law_799 (by decide) ?_
  refine gl_add C.1 i 2 dL_law_800 ?_
  refine gl_sld C.1 C.2.1 C.2.2.1 C.2.2.2.1 (show i + 2 < Ln by omega) (by have := C.2.2.2.2; omega) dL_law_801 ?_
  refine gl_aload_n C.1 dL_law_802 (by rfl) (by rfl) ?_
  refine gl_iload_n C.1 dL_law_803 (by rfl) (by rfl) ?_
  refine gl_iconst (v := nI 3) C.1 dL_law_804 (by decide) ?_
  refine gl_add C.1 i 3 dL_law_805 ?_
  refine gl_sld C.1 C.2.1 C.2.2.1 C.2.2.2.1 (show i + 3 < Ln by omega) (by have := C.2.2.2.2; omega) dL_law_806 ?_
  refine gl_callVI (As := [.int (xs (i + 1)), .int (xs (i + 2)), .int (xs (i + 3))]) (rest := []) C.1 (c_X3_worth E σ K L g F tl Bt W Z N hC (xs (i + 1)) (xs (i + 2)) (xs (i + 3))) z_X3_worth ck3 (by rfl) (by rfl) ml_L_93 (by rfl) (Nat.le_of_ble_eq_true rfl) ⟨Nat.le_of_ble_eq_true rfl, Nat.le_of_ble_eq_true rfl⟩ ⟨Nat.le_of_ble_eq_true rfl, Nat.le_of_ble_eq_true rfl⟩ dL_law_807 (fun r1 σ1 w1 => ?_)
  obtain ⟨e1, hC1, hF1⟩ := w1
  refine gl_aload_n C.1 dL_law_810 (by rfl) (by rfl) ?_
  refine gl_aload_n C.1 dL_law_811 (by rfl) (by rfl) ?_
  refine gl_iload_n C.1 dL_law_812 (by rfl) (by rfl) ?_
  refine gl_iconst (v := nI 1) C.1 dL_law_813 (by decide) ?_
  refine gl_add C.1 i 1 dL_law_814 ?_
  refine gl_sld C.1 C.2.1 C.2.2.1 C.2.2.2.1 (show i + 1 < Ln by omega) (by have := C.2.2.2.2; omega) dL_law_815 ?_
  refine gl_aload_n C.1 dL_law_816 (by rfl) (by rfl) ?_
  refine gl_iload_n C.1 dL_law_817 (by rfl) (by rfl) ?_
  refine gl_iconst (v := nI 2) C.1 dL_law_818 (by decide) ?_
  refine gl_add C.1 i 2 dL_law_819 ?_
  refine gl_sld C.1 C.2.1 C.2.2.1 C.2.2.2.1 (show i + 2 < Ln by omega) (by have := C.2.2.2.2; omega) dL_law_820 ?_
  refine gl_aload_n C.1 dL_law_821 (by rfl) (by rfl) ?_
  refine gl_iload_n C.1 dL_law_822 (by rfl) (by rfl) ?_
  refine gl_iconst (v := nI 3) C.1 dL_law_823 (by decide) ?_
  refine gl_add C.1 i 3 dL_law_824 ?_
  refine gl_sld C.1 C.2.1 C.2.2.1 C.2.2.2.1 (show i + 3 < Ln by omega) (by have := C.2.2.2.2; omega) dL_law_825 ?_
  refine gl_callVI (As := [.int (xs (i + 1)), .int (xs (i + 2)), .int (xs (i + 3))]) (rest := [.int r1]) C.1 (c_X4_worth E σ1 K L g F tl Bt W Z N (hM.fc hF1) (xs (i + 1)) (xs (i + 2)) (xs (i + 3))) z_X4_worth ck4 (by rfl) (by rfl) ml_L_96 (by rfl) (Nat.le_of_ble_eq_true rfl) ⟨Nat.le_of_ble_eq_true rfl, Nat.le_of_ble_eq_true rfl⟩ ⟨Nat.le_of_ble_eq_true rfl, Nat.le_of_ble_eq_true rfl⟩ dL_law_826 (fun r2 σ2 w2 => ?_)
  obtain ⟨e2, hM2, hF2⟩ := w2
  exact gl_icmp_eq (tgt := 1486) C.1 dL_law_829 (by decide) (fun _ => kk σ2 _ (hC1.fm hF2) hM2) (fun h => absurd (e1.trans e2.symm) h)
set_option maxHeartbeats 4000000 in
set_option maxRecDepth 100000 in
theorem lc_20 {E : En} {p : Program} {e : Env} {s : State} {m : MethodId} {below : List Frame} {meth : Method} {c : Code} {Q : State → Prop} {b Ln i : Nat} {xs : Nat → Int32} (C : LwC E p s m c b Ln xs) (hi : i + 6 ≤ Ln) {σ : Mm} {A : As} (hC : CR σ A) (hM : MR σ A) (kk : ∀ (σ' : Mm) (A' : As), CR σ' A' → MR σ' A' → GlL E p e s m b below meth c Q 1486 i [] σ') : GlL E p e s m b below meth c Q 834 i [] σ := by
  obtain ⟨K, L, g, F, tl, Bt, W, Z, N⟩ := A
  refine gl_aload_n C.1 dL_law_834 (by rfl) (by rfl) ?_
  refine gl_aload_n C.1 dL_law_835 (by rfl) (by rfl) ?_
  refine gl_iload_n C.1 dL_law_836 (by rfl) (by rfl) ?_
  refine gl_iconst (v := nI 1) C.1 dL_law_837 (by decide) ?_
  refine gl_add C.1 i 1 dL_law_838 ?_
  refine gl_sld C.1 C.2.1 C.2.2.1 C.2.2.2.1 (show i + 1 < Ln by omega) (by have := C.2.2.2.2; omega) dL_law_839 ?_
  refine gl_aload_n C.1 dL_law_840 (by rfl) (by rfl) ?_
  refine gl_iload_n C.1 dL_law_841 (by rfl) (by rfl) ?_
  refine gl_iconst (v := nI 2) C.1 dL_law_842 (by decide) ?_
  refine gl_add C.1 i 2 dL_law_843 ?_
  refine gl_sld C.1 C.2.1 C.2.2.1 C.2.2.2.1 (show i + 2 < Ln by omega) (by have := C.2.2.2.2; omega) dL_law_844 ?_
  refine gl_callVI (As := [.int (xs (i + 1)), .int (xs (i + 2))]) (rest := []) C.1 (c_X3_least E σ K L g F tl Bt W Z N hC (xs (i + 1)) (xs (i + 2))) z_X3_least ck3 (by rfl) (by rfl) ml_L_97 (by rfl) (Nat.le_of_ble_eq_true rfl) ⟨Nat.le_of_ble_eq_true rfl, Nat.le_of_ble_eq_true rfl⟩ ⟨Nat.le_of_ble_eq_true rfl, Nat.le_of_ble_eq_true rfl⟩ dL_law_845 (fun r1 σ1 w1 => ?_)
  obtain ⟨e1, hC1, hF1⟩ := w1
  refine gl_aload_n C.1 dL_law_848 (by rfl) (by rfl) ?_
  refine gl_aload_n C.1 dL_law_849 (by rfl) (by rfl) ?_
  refine gl_iload_n C.1 dL_law_850 (by rfl) (by rfl) ?_
  refine gl_iconst (v := nI 1) C.1 dL_law_851 (by decide) ?_
  refine gl_add C.1 i 1 dL_law_852 ?_
  refine gl_sld C.1 C.2.1 C.2.2.1 C.2.2.2.1 (show i + 1 < Ln by omega) (by have := C.2.2.2.2; omega) dL_law_853 ?_
  refine gl_aload_n C.1 dL_law_854 (by rfl) (by rfl) ?_
  refine gl_iload_n C.1 dL_law_855 (by rfl) (by rfl) ?_
  refine gl_iconst (v := nI 2) C.1 dL_law_856 (by decide) ?_
  refine gl_add C.1 i 2 dL_law_857 ?_
  refine gl_sld C.1 C.2.1 C.2.2.1 C.2.2.2.1 (show i + 2 < Ln by omega) (by have := C.2.2.2.2; omega) dL_law_858 ?_
  refine gl_callVI (As := [.int (xs (i + 1)), .int (xs (i + 2))]) (rest := [.int r1]) C.1 (c_X4_least E σ1 K L g F tl Bt W Z N (hM.fc hF1) (xs (i + 1)) (xs (i + 2))) z_X4_least ck4 (by rfl) (by rfl) ml_L_100 (by rfl) (Nat.le_of_ble_eq_true rfl) ⟨Nat.le_of_ble_eq_true rfl, Nat.le_of_ble_eq_true rfl⟩ ⟨Nat.le_of_ble_eq_true rfl, Nat.le_of_ble_eq_true rfl⟩ dL_law_859 (fun r2 σ2 w2 => ?_)
  obtain ⟨e2, hM2, hF2⟩ := w2
  exact gl_icmp_eq (tgt := 1486) C.1 dL_law_862 (by decide) (fun _ => kk σ2 _ (hC1.fm hF2) hM2) (fun h => absurd (e1.trans e2.symm) h)
set_option maxHeartbeats 4000000 in
set_option maxRecDepth 100000 in
theorem lc_21 {E : En} {p : Program} {e : Env} {s : State} {m : MethodId} {below : List Frame} {meth : Method} {c : Code} {Q : State → Prop} {b Ln i : Nat} {xs : Nat → Int32} (C : LwC E p s m c b Ln xs) (hi : i + 6 ≤ Ln) {σ : Mm} {A : As} (hC : CR σ A) (hM : MR σ A) (kk : ∀ (σ' : Mm) (A' : As), CR σ' A' → MR σ' A' → GlL E p e s m b below meth c Q 1486 i [] σ') : GlL E p e s m b below meth c Q 867 i [] σ := by
  obtain ⟨K, L, g, F, tl, Bt, W, Z, N⟩ := A
  refine gl_aload_n C.1 dL_law_867 (by rfl) (by rfl) ?_
  refine gl_aload_n C.1 dL_law_868 (by rfl) (by rfl) ?_
  refine gl_iload_n C.1 dL_law_869 (by rfl) (by rfl) ?_
  refine gl_iconst (v := nI 1) C.1 dL_law_870 (by decide) ?_
  refine gl_add C.1 i 1 dL_law_871 ?_
  refine gl_sld C.1 C.2.1 C.2.2.1 C.2.2.2.1 (show i + 1 < Ln by omega) (by have := C.2.2.2.2; omega) dL_law_872 ?_
  refine gl_aload_n C.1 dL_law_873 (by rfl) (by rfl) ?_
  refine gl_iload_n C.1 dL_law_874 (by rfl) (by rfl) ?_
  refine gl_iconst (v := nI 2) C.1 dL_law_875 (by decide) ?_
  refine gl_add C.1 i 2 dL_law_876 ?_
  refine gl_sld C.1 C.2.1 C.2.2.1 C.2.2.2.1 (show i + 2 < Ln by omega) (by have := C.2.2.2.2; omega) dL_law_877 ?_
  refine gl_callVI (As := [.int (xs (i + 1)), .int (xs (i + 2))]) (rest := []) C.1 (c_X3_best E σ K L g F tl Bt W Z N hC (xs (i + 1)) (xs (i + 2))) z_X3_best ck3 (by rfl) (by rfl) ml_L_101 (by rfl) (Nat.le_of_ble_eq_true rfl) ⟨Nat.le_of_ble_eq_true rfl, Nat.le_of_ble_eq_true rfl⟩ ⟨Nat.le_of_ble_eq_true rfl, Nat.le_of_ble_eq_true rfl⟩ dL_law_878 (fun r1 σ1 w1 => ?_)
  obtain ⟨e1, hC1, hF1⟩ := w1
  refine gl_aload_n C.1 dL_law_881 (by rfl) (by rfl) ?_
  refine gl_aload_n C.1 dL_law_882 (by rfl) (by rfl) ?_
  refine gl_iload_n C.1 dL_law_883 (by rfl) (by rfl) ?_
  refine gl_iconst (v := nI 1) C.1 dL_law_884 (by decide) ?_
  refine gl_add C.1 i 1 dL_law_885 ?_
  refine gl_sld C.1 C.2.1 C.2.2.1 C.2.2.2.1 (show i + 1 < Ln by omega) (by have := C.2.2.2.2; omega) dL_law_886 ?_
  refine gl_aload_n C.1 dL_law_887 (by rfl) (by rfl) ?_
  refine gl_iload_n C.1 dL_law_888 (by rfl) (by rfl) ?_
  refine gl_iconst (v := nI 2) C.1 dL_law_889 (by decide) ?_
  refine gl_add C.1 i 2 dL_law_890 ?_
  refine gl_sld C.1 C.2.1 C.2.2.1 C.2.2.2.1 (show i + 2 < Ln by omega) (by have := C.2.2.2.2; omega) dL_law_891 ?_
  refine gl_callVI (As := [.int (xs (i + 1)), .int (xs (i + 2))]) (rest := [.int r1]) C.1 (c_X4_best E σ1 K L g F tl Bt W Z N (hM.fc hF1) (xs (i + 1)) (xs (i + 2))) z_X4_best ck4 (by rfl) (by rfl) ml_L_104 (by rfl) (Nat.le_of_ble_eq_true rfl) ⟨Nat.le_of_ble_eq_true rfl, Nat.le_of_ble_eq_true rfl⟩ ⟨Nat.le_of_ble_eq_true rfl, Nat.le_of_ble_eq_true rfl⟩ dL_law_892 (fun r2 σ2 w2 => ?_)
  obtain ⟨e2, hM2, hF2⟩ := w2
  exact gl_icmp_eq (tgt := 1486) C.1 dL_law_895 (by decide) (fun _ => kk σ2 _ (hC1.fm hF2) hM2) (fun h => absurd (e1.trans e2.symm) h)
set_option maxHeartbeats 4000000 in
set_option maxRecDepth 100000 in
theorem lc_22 {E : En} {p : Program} {e : Env} {s : State} {m : MethodId} {below : List Frame} {meth : Method} {c : Code} {Q : State → Prop} {b Ln i : Nat} {xs : Nat → Int32} (C : LwC E p s m c b Ln xs) (hi : i + 6 ≤ Ln) {σ : Mm} {A : As} (hC : CR σ A) (hM : MR σ A) (kk : ∀ (σ' : Mm) (A' : As), CR σ' A' → MR σ' A' → GlL E p e s m b below meth c Q 1486 i [] σ') : GlL E p e s m b below meth c Q 900 i [] σ := by
  obtain ⟨K, L, g, F, tl, Bt, W, Z, N⟩ := A
  refine gl_aload_n C.1 dL_law_900 (by rfl) (by rfl) ?_
  refine gl_aload_n C.1 dL_law_901 (by rfl) (by rfl) ?_
  refine gl_iload_n C.1 dL_law_902 (by rfl) (by rfl) ?_
  refine gl_iconst (v := nI 1) C.1 dL_law_903 (by decide) ?_
  refine gl_add C.1 i 1 dL_law_904 ?_
  refine gl_sld C.1 C.2.1 C.2.2.1 C.2.2.2.1 (show i + 1 < Ln by omega) (by have := C.2.2.2.2; omega) dL_law_905 ?_
  refine gl_callVI (As := [.int (xs (i + 1))]) (rest := []) C.1 (c_X3_partsFor E σ K L g F tl Bt W Z N hC (xs (i + 1))) z_X3_partsFor ck3 (by rfl) (by rfl) ml_L_105 (by rfl) (Nat.le_of_ble_eq_true rfl) ⟨Nat.le_of_ble_eq_true rfl, Nat.le_of_ble_eq_true rfl⟩ ⟨Nat.le_of_ble_eq_true rfl, Nat.le_of_ble_eq_true rfl⟩ dL_law_906 (fun r1 σ1 w1 => ?_)
  obtain ⟨e1, hC1, hF1⟩ := w1
  refine gl_aload_n C.1 dL_law_909 (by rfl) (by rfl) ?_
  refine gl_aload_n C.1 dL_law_910 (by rfl) (by rfl) ?_
  refine gl_iload_n C.1 dL_law_911 (by rfl) (by rfl) ?_
  refine gl_iconst (v := nI 1) C.1 dL_law_912 (by decide) ?_
  refine gl_add C.1 i 1 dL_law_913 ?_
  refine gl_sld C.1 C.2.1 C.2.2.1 C.2.2.2.1 (show i + 1 < Ln by omega) (by have := C.2.2.2.2; omega) dL_law_914 ?_
  refine gl_callVI (As := [.int (xs (i + 1))]) (rest := [.int r1]) C.1 (c_X4_partsFor E σ1 K L g F tl Bt W Z N (hM.fc hF1) (xs (i + 1))) z_X4_partsFor ck4 (by rfl) (by rfl) ml_L_108 (by rfl) (Nat.le_of_ble_eq_true rfl) ⟨Nat.le_of_ble_eq_true rfl, Nat.le_of_ble_eq_true rfl⟩ ⟨Nat.le_of_ble_eq_true rfl, Nat.le_of_ble_eq_true rfl⟩ dL_law_915 (fun r2 σ2 w2 => ?_)
  obtain ⟨e2, hM2, hF2⟩ := w2
  exact gl_icmp_eq (tgt := 1486) C.1 dL_law_918 (by decide) (fun _ => kk σ2 _ (hC1.fm hF2) hM2) (fun h => absurd (e1.trans e2.symm) h)
set_option maxHeartbeats 4000000 in
set_option maxRecDepth 100000 in
theorem lc_23 {E : En} {p : Program} {e : Env} {s : State} {m : MethodId} {below : List Frame} {meth : Method} {c : Code} {Q : State → Prop} {b Ln i : Nat} {xs : Nat → Int32} (C : LwC E p s m c b Ln xs) (hi : i + 6 ≤ Ln) {σ : Mm} {A : As} (hC : CR σ A) (hM : MR σ A) (kk : ∀ (σ' : Mm) (A' : As), CR σ' A' → MR σ' A' → GlL E p e s m b below meth c Q 1486 i [] σ') : GlL E p e s m b below meth c Q 923 i [] σ := by
  obtain ⟨K, L, g, F, tl, Bt, W, Z, N⟩ := A
  refine gl_aload_n C.1 dL_law_923 (by rfl) (by rfl) ?_
  refine gl_aload_n C.1 dL_law_924 (by rfl) (by rfl) ?_
  refine gl_iload_n C.1 dL_law_925 (by rfl) (by rfl) ?_
  refine gl_iconst (v := nI 1) C.1 dL_law_926 (by decide) ?_
  refine gl_add C.1 i 1 dL_law_927 ?_
  refine gl_sld C.1 C.2.1 C.2.2.1 C.2.2.2.1 (show i + 1 < Ln by omega) (by have := C.2.2.2.2; omega) dL_law_928 ?_
  refine gl_aload_n C.1 dL_law_929 (by rfl) (by rfl) ?_
  refine gl_iload_n C.1 dL_law_930 (by rfl) (by rfl) ?_
  refine gl_iconst (v := nI 2) C.1 dL_law_931 (by decide) ?_
  refine gl_add C.1 i 2 dL_law_932 ?_
  refine gl_sld C.1 C.2.1 C.2.2.1 C.2.2.2.1 (show i + 2 < Ln by omega) (by have := C.2.2.2.2; omega) dL_law_933 ?_
  refine gl_callVI (As := [.int (xs (i + 1)), .int (xs (i + 2))]) (rest := []) C.1 (c_X3_kindFor E σ K L g F tl Bt W Z N hC (xs (i + 1)) (xs (i + 2))) z_X3_kindFor ck3 (by rfl) (by rfl) ml_L_109 (by rfl) (Nat.le_of_ble_eq_true rfl) ⟨Nat.le_of_ble_eq_true rfl, Nat.le_of_ble_eq_true rfl⟩ ⟨Nat.le_of_ble_eq_true rfl, Nat.le_of_ble_eq_true rfl⟩ dL_law_934 (fun r1 σ1 w1 => ?_)
  obtain ⟨e1, hC1, hF1⟩ := w1
  refine gl_aload_n C.1 dL_law_937 (by rfl) (by rfl) ?_
  refine gl_aload_n C.1 dL_law_938 (by rfl) (by rfl) ?_
  refine gl_iload_n C.1 dL_law_939 (by rfl) (by rfl) ?_
  refine gl_iconst (v := nI 1) C.1 dL_law_940 (by decide) ?_
  refine gl_add C.1 i 1 dL_law_941 ?_
  refine gl_sld C.1 C.2.1 C.2.2.1 C.2.2.2.1 (show i + 1 < Ln by omega) (by have := C.2.2.2.2; omega) dL_law_942 ?_
  refine gl_aload_n C.1 dL_law_943 (by rfl) (by rfl) ?_
  refine gl_iload_n C.1 dL_law_944 (by rfl) (by rfl) ?_
  refine gl_iconst (v := nI 2) C.1 dL_law_945 (by decide) ?_
  refine gl_add C.1 i 2 dL_law_946 ?_
  refine gl_sld C.1 C.2.1 C.2.2.1 C.2.2.2.1 (show i + 2 < Ln by omega) (by have := C.2.2.2.2; omega) dL_law_947 ?_
  refine gl_callVI (As := [.int (xs (i + 1)), .int (xs (i + 2))]) (rest := [.int r1]) C.1 (c_X4_kindFor E σ1 K L g F tl Bt W Z N (hM.fc hF1) (xs (i + 1)) (xs (i + 2))) z_X4_kindFor ck4 (by rfl) (by rfl) ml_L_112 (by rfl) (Nat.le_of_ble_eq_true rfl) ⟨Nat.le_of_ble_eq_true rfl, Nat.le_of_ble_eq_true rfl⟩ ⟨Nat.le_of_ble_eq_true rfl, Nat.le_of_ble_eq_true rfl⟩ dL_law_948 (fun r2 σ2 w2 => ?_)
  obtain ⟨e2, hM2, hF2⟩ := w2
  exact gl_icmp_eq (tgt := 1486) C.1 dL_law_951 (by decide) (fun _ => kk σ2 _ (hC1.fm hF2) hM2) (fun h => absurd (e1.trans e2.symm) h)
set_option maxHeartbeats 4000000 in
set_option maxRecDepth 100000 in
theorem lc_24 {E : En} {p : Program} {e : Env} {s : State} {m : MethodId} {below : List Frame} {meth : Method} {c : Code} {Q : State → Prop} {b Ln i : Nat} {xs : Nat → Int32} (C : LwC E p s m c b Ln xs) (hi : i + 6 ≤ Ln) {σ : Mm} {A : As} (hC : CR σ A) (hM : MR σ A) (kk : ∀ (σ' : Mm) (A' : As), CR σ' A' → MR σ' A' → GlL E p e s m b below meth c Q 1486 i [] σ') : GlL E p e s m b below meth c Q 956 i [] σ := by
  obtain ⟨K, L, g, F, tl, Bt, W, Z, N⟩ := A
  refine gl_aload_n C.1 dL_law_956 (by rfl) (by rfl) ?_
  refine gl_aload_n C.1 dL_law_957 (by rfl) (by rfl) ?_
  refine gl_iload_n C.1 dL_law_958 (by rfl) (by rfl) ?_
  refine gl_iconst (v := nI 1) C.1 dL_law_959 (by decide) ?_
  refine gl_add C.1 i 1 dL_law_960 ?_
  refine gl_sld C.1 C.2.1 C.2.2.1 C.2.2.2.1 (show i + 1 < Ln by omega) (by have := C.2.2.2.2; omega) dL_law_961 ?_
  refine gl_aload_n C.1 dL_law_962 (by rfl) (by rfl) ?_
  refine gl_iload_n C.1 dL_law_963 (by rfl) (by rfl) ?_
  refine gl_iconst (v := nI 2) C.1 dL_law_964 (by decide) ?_
  refine gl_add C.1 i 2 dL_law_965 ?_
  refine gl_sld C.1 C.2.1 C.2.2.1 C.2.2.2.1 (show i + 2 < Ln by omega) (by have := C.2.2.2.2; omega) dL_law_966 ?_
  refine gl_callVI (As := [.int (xs (i + 1)), .int (xs (i + 2))]) (rest := []) C.1 (c_X3_plot E σ K L g F tl Bt W Z N hC (xs (i + 1)) (xs (i + 2))) z_X3_plot ck3 (by rfl) (by rfl) ml_L_113 (by rfl) (Nat.le_of_ble_eq_true rfl) ⟨Nat.le_of_ble_eq_true rfl, Nat.le_of_ble_eq_true rfl⟩ ⟨Nat.le_of_ble_eq_true rfl, Nat.le_of_ble_eq_true rfl⟩ dL_law_967 (fun r1 σ1 w1 => ?_)
  obtain ⟨e1, hC1, hF1⟩ := w1
  refine gl_aload_n C.1 dL_law_970 (by rfl) (by rfl) ?_
  refine gl_aload_n C.1 dL_law_971 (by rfl) (by rfl) ?_
  refine gl_iload_n C.1 dL_law_972 (by rfl) (by rfl) ?_
  refine gl_iconst (v := nI 1) C.1 dL_law_973 (by decide) ?_
  refine gl_add C.1 i 1 dL_law_974 ?_
  refine gl_sld C.1 C.2.1 C.2.2.1 C.2.2.2.1 (show i + 1 < Ln by omega) (by have := C.2.2.2.2; omega) dL_law_975 ?_
  refine gl_aload_n C.1 dL_law_976 (by rfl) (by rfl) ?_
  refine gl_iload_n C.1 dL_law_977 (by rfl) (by rfl) ?_
  refine gl_iconst (v := nI 2) C.1 dL_law_978 (by decide) ?_
  refine gl_add C.1 i 2 dL_law_979 ?_
  refine gl_sld C.1 C.2.1 C.2.2.1 C.2.2.2.1 (show i + 2 < Ln by omega) (by have := C.2.2.2.2; omega) dL_law_980 ?_
  refine gl_callVI (As := [.int (xs (i + 1)), .int (xs (i + 2))]) (rest := [.int r1]) C.1 (c_X4_plot E σ1 K L g F tl Bt W Z N (hM.fc hF1) (xs (i + 1)) (xs (i + 2))) z_X4_plot ck4 (by rfl) (by rfl) ml_L_116 (by rfl) (Nat.le_of_ble_eq_true rfl) ⟨Nat.le_of_ble_eq_true rfl, Nat.le_of_ble_eq_true rfl⟩ ⟨Nat.le_of_ble_eq_true rfl, Nat.le_of_ble_eq_true rfl⟩ dL_law_981 (fun r2 σ2 w2 => ?_)
  obtain ⟨e2, hM2, hF2⟩ := w2
  exact gl_icmp_eq (tgt := 1486) C.1 dL_law_984 (by decide) (fun _ => kk σ2 _ (hC1.fm hF2) hM2) (fun h => absurd (e1.trans e2.symm) h)
set_option maxHeartbeats 4000000 in
set_option maxRecDepth 100000 in
theorem lc_25 {E : En} {p : Program} {e : Env} {s : State} {m : MethodId} {below : List Frame} {meth : Method} {c : Code} {Q : State → Prop} {b Ln i : Nat} {xs : Nat → Int32} (C : LwC E p s m c b Ln xs) (hi : i + 6 ≤ Ln) {σ : Mm} {A : As} (hC : CR σ A) (hM : MR σ A) (kk : ∀ (σ' : Mm) (A' : As), CR σ' A' → MR σ' A' → GlL E p e s m b below meth c Q 1486 i [] σ') : GlL E p e s m b below meth c Q 989 i [] σ := by
  obtain ⟨K, L, g, F, tl, Bt, W, Z, N⟩ := A
  refine gl_aload_n C.1 dL_law_989 (by rfl) (by rfl) ?_
  refine gl_aload_n C.1 dL_law_990 (by rfl) (by rfl) ?_
  refine gl_iload_n C.1 dL_law_991 (by rfl) (by rfl) ?_
  refine gl_iconst (v := nI 1) C.1 dL_law_992 (by decide) ?_
  refine gl_add C.1 i 1 dL_law_993 ?_
  refine gl_sld C.1 C.2.1 C.2.2.1 C.2.2.2.1 (show i + 1 < Ln by omega) (by have := C.2.2.2.2; omega) dL_law_994 ?_
  refine gl_aload_n C.1 dL_law_995 (by rfl) (by rfl) ?_
  refine gl_iload_n C.1 dL_law_996 (by rfl) (by rfl) ?_
  refine gl_iconst (v := nI 2) C.1 dL_law_997 (by decide) ?_
  refine gl_add C.1 i 2 dL_law_998 ?_
  refine gl_sld C.1 C.2.1 C.2.2.1 C.2.2.2.1 (show i + 2 < Ln by omega) (by have := C.2.2.2.2; omega) dL_law_999 ?_
  refine gl_callVI (As := [.int (xs (i + 1)), .int (xs (i + 2))]) (rest := []) C.1 (c_X3_undo E σ K L g F tl Bt W Z N hC (xs (i + 1)) (xs (i + 2))) z_X3_undo ck3 (by rfl) (by rfl) ml_L_117 (by rfl) (Nat.le_of_ble_eq_true rfl) ⟨Nat.le_of_ble_eq_true rfl, Nat.le_of_ble_eq_true rfl⟩ ⟨Nat.le_of_ble_eq_true rfl, Nat.le_of_ble_eq_true rfl⟩ dL_law_1000 (fun r1 σ1 w1 => ?_)
  obtain ⟨e1, hC1, hF1⟩ := w1
  refine gl_aload_n C.1 dL_law_1003 (by rfl) (by rfl) ?_
  refine gl_aload_n C.1 dL_law_1004 (by rfl) (by rfl) ?_
  refine gl_iload_n C.1 dL_law_1005 (by rfl) (by rfl) ?_
  refine gl_iconst (v := nI 1) C.1 dL_law_1006 (by decide) ?_
  refine gl_add C.1 i 1 dL_law_1007 ?_
  refine gl_sld C.1 C.2.1 C.2.2.1 C.2.2.2.1 (show i + 1 < Ln by omega) (by have := C.2.2.2.2; omega) dL_law_1008 ?_
  refine gl_aload_n C.1 dL_law_1009 (by rfl) (by rfl) ?_
  refine gl_iload_n C.1 dL_law_1010 (by rfl) (by rfl) ?_
  refine gl_iconst (v := nI 2) C.1 dL_law_1011 (by decide) ?_
  refine gl_add C.1 i 2 dL_law_1012 ?_
  refine gl_sld C.1 C.2.1 C.2.2.1 C.2.2.2.1 (show i + 2 < Ln by omega) (by have := C.2.2.2.2; omega) dL_law_1013 ?_
  refine gl_callVI (As := [.int (xs (i + 1)), .int (xs (i + 2))]) (rest := [.int r1]) C.1 (c_X4_undo E σ1 K L g F tl Bt W Z N (hM.fc hF1) (xs (i + 1)) (xs (i + 2))) z_X4_undo ck4 (by rfl) (by rfl) ml_L_120 (by rfl) (Nat.le_of_ble_eq_true rfl) ⟨Nat.le_of_ble_eq_true rfl, Nat.le_of_ble_eq_true rfl⟩ ⟨Nat.le_of_ble_eq_true rfl, Nat.le_of_ble_eq_true rfl⟩ dL_law_1014 (fun r2 σ2 w2 => ?_)
  obtain ⟨e2, hM2, hF2⟩ := w2
  exact gl_icmp_eq (tgt := 1486) C.1 dL_law_1017 (by decide) (fun _ => kk σ2 _ (hC1.fm hF2) hM2) (fun h => absurd (e1.trans e2.symm) h)
set_option maxHeartbeats 4000000 in
set_option maxRecDepth 100000 in
theorem lc_26 {E : En} {p : Program} {e : Env} {s : State} {m : MethodId} {below : List Frame} {meth : Method} {c : Code} {Q : State → Prop} {b Ln i : Nat} {xs : Nat → Int32} (C : LwC E p s m c b Ln xs) (hi : i + 6 ≤ Ln) {σ : Mm} {A : As} (hC : CR σ A) (hM : MR σ A) (kk : ∀ (σ' : Mm) (A' : As), CR σ' A' → MR σ' A' → GlL E p e s m b below meth c Q 1486 i [] σ') : GlL E p e s m b below meth c Q 1022 i [] σ := by
  obtain ⟨K, L, g, F, tl, Bt, W, Z, N⟩ := A
  refine gl_aload_n C.1 dL_law_1022 (by rfl) (by rfl) ?_
  refine gl_callVI (As := []) (rest := []) C.1 (c_X3_safe E σ K L g F tl Bt W Z N hC) z_X3_safe ck3 (by rfl) (by rfl) ml_L_121 (by rfl) (Nat.le_of_ble_eq_true rfl) ⟨Nat.le_of_ble_eq_true rfl, Nat.le_of_ble_eq_true rfl⟩ ⟨Nat.le_of_ble_eq_true rfl, Nat.le_of_ble_eq_true rfl⟩ dL_law_1023 (fun r1 σ1 w1 => ?_)
  obtain ⟨e1, hC1, hF1⟩ := w1
  refine gl_aload_n C.1 dL_law_1026 (by rfl) (by rfl) ?_
  refine gl_callVI (As := []) (rest := [.int r1]) C.1 (c_X4_safe E σ1 K L g F tl Bt W Z N (hM.fc hF1)) z_X4_safe ck4 (by rfl) (by rfl) ml_L_124 (by rfl) (Nat.le_of_ble_eq_true rfl) ⟨Nat.le_of_ble_eq_true rfl, Nat.le_of_ble_eq_true rfl⟩ ⟨Nat.le_of_ble_eq_true rfl, Nat.le_of_ble_eq_true rfl⟩ dL_law_1027 (fun r2 σ2 w2 => ?_)
  obtain ⟨e2, hM2, hF2⟩ := w2
  exact gl_icmp_eq (tgt := 1486) C.1 dL_law_1030 (by decide) (fun _ => kk σ2 _ (hC1.fm hF2) hM2) (fun h => absurd (e1.trans e2.symm) h)
set_option maxHeartbeats 4000000 in
set_option maxRecDepth 100000 in
theorem lc_27 {E : En} {p : Program} {e : Env} {s : State} {m : MethodId} {below : List Frame} {meth : Method} {c : Code} {Q : State → Prop} {b Ln i : Nat} {xs : Nat → Int32} (C : LwC E p s m c b Ln xs) (hi : i + 6 ≤ Ln) {σ : Mm} {A : As} (hC : CR σ A) (hM : MR σ A) (kk : ∀ (σ' : Mm) (A' : As), CR σ' A' → MR σ' A' → GlL E p e s m b below meth c Q 1486 i [] σ') : GlL E p e s m b below meth c Q 1035 i [] σ := by
  obtain ⟨K, L, g, F, tl, Bt, W, Z, N⟩ := A
  refine gl_aload_n C.1 dL_law_1035 (by rfl) (by rfl) ?_
  refine gl_aload_n C.1 dL_law_1036 (by rfl) (by rfl) ?_
  refine gl_iload_n C.1 dL_law_1037 (by rfl) (by rfl) ?_
  refine gl_iconst (v := nI 1) C.1 dL_law_1038 (by decide) ?_
  refine gl_add C.1 i 1 dL_law_1039 ?_
  refine gl_sld C.1 C.2.1 C.2.2.1 C.2.2.2.1 (show i + 1 < Ln by omega) (by have := C.2.2.2.2; omega) dL_law_1040 ?_
  refine gl_callVI (As := [.int (xs (i + 1))]) (rest := []) C.1 (c_X3_rumours E σ K L g F tl Bt W Z N hC (xs (i + 1))) z_X3_rumours ck3 (by rfl) (by rfl) ml_L_125 (by rfl) (Nat.le_of_ble_eq_true rfl) ⟨Nat.le_of_ble_eq_true rfl, Nat.le_of_ble_eq_true rfl⟩ ⟨Nat.le_of_ble_eq_true rfl, Nat.le_of_ble_eq_true rfl⟩ dL_law_1041 (fun r1 σ1 w1 => ?_)
  obtain ⟨e1, hC1, hF1⟩ := w1
  refine gl_aload_n C.1 dL_law_1044 (by rfl) (by rfl) ?_
  refine gl_aload_n C.1 dL_law_1045 (by rfl) (by rfl) ?_
  refine gl_iload_n C.1 dL_law_1046 (by rfl) (by rfl) ?_
  refine gl_iconst (v := nI 1) C.1 dL_law_1047 (by decide) ?_
  refine gl_add C.1 i 1 dL_law_1048 ?_
  refine gl_sld C.1 C.2.1 C.2.2.1 C.2.2.2.1 (show i + 1 < Ln by omega) (by have := C.2.2.2.2; omega) dL_law_1049 ?_
  refine gl_callVI (As := [.int (xs (i + 1))]) (rest := [.int r1]) C.1 (c_X4_rumours E σ1 K L g F tl Bt W Z N (hM.fc hF1) (xs (i + 1))) z_X4_rumours ck4 (by rfl) (by rfl) ml_L_128 (by rfl) (Nat.le_of_ble_eq_true rfl) ⟨Nat.le_of_ble_eq_true rfl, Nat.le_of_ble_eq_true rfl⟩ ⟨Nat.le_of_ble_eq_true rfl, Nat.le_of_ble_eq_true rfl⟩ dL_law_1050 (fun r2 σ2 w2 => ?_)
  obtain ⟨e2, hM2, hF2⟩ := w2
  exact gl_icmp_eq (tgt := 1486) C.1 dL_law_1053 (by decide) (fun _ => kk σ2 _ (hC1.fm hF2) hM2) (fun h => absurd (e1.trans e2.symm) h)
set_option maxHeartbeats 4000000 in
set_option maxRecDepth 100000 in
theorem lc_28 {E : En} {p : Program} {e : Env} {s : State} {m : MethodId} {below : List Frame} {meth : Method} {c : Code} {Q : State → Prop} {b Ln i : Nat} {xs : Nat → Int32} (C : LwC E p s m c b Ln xs) (hi : i + 6 ≤ Ln) {σ : Mm} {A : As} (hC : CR σ A) (hM : MR σ A) (kk : ∀ (σ' : Mm) (A' : As), CR σ' A' → MR σ' A' → GlL E p e s m b below meth c Q 1486 i [] σ') : GlL E p e s m b below meth c Q 1058 i [] σ := by
  obtain ⟨K, L, g, F, tl, Bt, W, Z, N⟩ := A
  refine gl_aload_n C.1 dL_law_1058 (by rfl) (by rfl) ?_
  refine gl_aload_n C.1 dL_law_1059 (by rfl) (by rfl) ?_
  refine gl_iload_n C.1 dL_law_1060 (by rfl) (by rfl) ?_
  refine gl_iconst (v := nI 1) C.1 dL_law_1061 (by decide) ?_
  refine gl_add C.1 i 1 dL_law_1062 ?_
  refine gl_sld C.1 C.2.1 C.2.2.1 C.2.2.2.1 (show i + 1 < Ln by omega) (by have := C.2.2.2.2; omega) dL_law_1063 ?_
  refine gl_callVI (As := [.int (xs (i + 1))]) (rest := []) C.1 (c_X3_seed E σ K L g F tl Bt W Z N hC (xs (i + 1))) z_X3_seed ck3 (by rfl) (by rfl) ml_L_129 (by rfl) (Nat.le_of_ble_eq_true rfl) ⟨Nat.le_of_ble_eq_true rfl, Nat.le_of_ble_eq_true rfl⟩ ⟨Nat.le_of_ble_eq_true rfl, Nat.le_of_ble_eq_true rfl⟩ dL_law_1064 (fun r1 σ1 w1 => ?_)
  obtain ⟨e1, hC1, hF1⟩ := w1
  refine gl_aload_n C.1 dL_law_1067 (by rfl) (by rfl) ?_
  refine gl_aload_n C.1 dL_law_1068 (by rfl) (by rfl) ?_
  refine gl_iload_n C.1 dL_law_1069 (by rfl) (by rfl) ?_
  refine gl_iconst (v := nI 1) C.1 dL_law_1070 (by decide) ?_
  refine gl_add C.1 i 1 dL_law_1071 ?_
  refine gl_sld C.1 C.2.1 C.2.2.1 C.2.2.2.1 (show i + 1 < Ln by omega) (by have := C.2.2.2.2; omega) dL_law_1072 ?_
  refine gl_callVI (As := [.int (xs (i + 1))]) (rest := [.int r1]) C.1 (c_X4_seed E σ1 K L g F tl Bt W Z N (hM.fc hF1) (xs (i + 1))) z_X4_seed ck4 (by rfl) (by rfl) ml_L_132 (by rfl) (Nat.le_of_ble_eq_true rfl) ⟨Nat.le_of_ble_eq_true rfl, Nat.le_of_ble_eq_true rfl⟩ ⟨Nat.le_of_ble_eq_true rfl, Nat.le_of_ble_eq_true rfl⟩ dL_law_1073 (fun r2 σ2 w2 => ?_)
  obtain ⟨e2, hM2, hF2⟩ := w2
  exact gl_icmp_eq (tgt := 1486) C.1 dL_law_1076 (by decide) (fun _ => kk σ2 _ (hC1.fm hF2) hM2) (fun h => absurd (e1.trans e2.symm) h)
set_option maxHeartbeats 4000000 in
set_option maxRecDepth 100000 in
theorem lc_29 {E : En} {p : Program} {e : Env} {s : State} {m : MethodId} {below : List Frame} {meth : Method} {c : Code} {Q : State → Prop} {b Ln i : Nat} {xs : Nat → Int32} (C : LwC E p s m c b Ln xs) (hi : i + 6 ≤ Ln) {σ : Mm} {A : As} (hC : CR σ A) (hM : MR σ A) (kk : ∀ (σ' : Mm) (A' : As), CR σ' A' → MR σ' A' → GlL E p e s m b below meth c Q 1486 i [] σ') : GlL E p e s m b below meth c Q 1081 i [] σ := by
  obtain ⟨K, L, g, F, tl, Bt, W, Z, N⟩ := A
  refine gl_aload_n C.1 dL_law_1081 (by rfl) (by rfl) ?_
  refine gl_aload_n C.1 dL_law_1082 (by rfl) (by rfl) ?_
  refine gl_iload_n C.1 dL_law_1083 (by rfl) (by rfl) ?_
  refine gl_iconst (v := nI 1) C.1 dL_law_1084 (by decide) ?_
  refine gl_add C.1 i 1 dL_law_1085 ?_
  refine gl_sld C.1 C.2.1 C.2.2.1 C.2.2.2.1 (show i + 1 < Ln by omega) (by have := C.2.2.2.2; omega) dL_law_1086 ?_
  refine gl_aload_n C.1 dL_law_1087 (by rfl) (by rfl) ?_
  refine gl_iload_n C.1 dL_law_1088 (by rfl) (by rfl) ?_
  refine gl_iconst (v := nI 2) C.1 dL_law_1089 (by decide) ?_
  refine gl_add C.1 i 2 dL_law_1090 ?_
  refine gl_sld C.1 C.2.1 C.2.2.1 C.2.2.2.1 (show i + 2 < Ln by omega) (by have := C.2.2.2.2; omega) dL_law_1091 ?_
  refine gl_callVI (As := [.int (xs (i + 1)), .int (xs (i + 2))]) (rest := []) C.1 (c_X3_feed E σ K L g F tl Bt W Z N hC (xs (i + 1)) (xs (i + 2))) z_X3_feed ck3 (by rfl) (by rfl) ml_L_133 (by rfl) (Nat.le_of_ble_eq_true rfl) ⟨Nat.le_of_ble_eq_true rfl, Nat.le_of_ble_eq_true rfl⟩ ⟨Nat.le_of_ble_eq_true rfl, Nat.le_of_ble_eq_true rfl⟩ dL_law_1092 (fun r1 σ1 w1 => ?_)
  obtain ⟨e1, hC1, hF1⟩ := w1
  refine gl_aload_n C.1 dL_law_1095 (by rfl) (by rfl) ?_
  refine gl_aload_n C.1 dL_law_1096 (by rfl) (by rfl) ?_
  refine gl_iload_n C.1 dL_law_1097 (by rfl) (by rfl) ?_
  refine gl_iconst (v := nI 1) C.1 dL_law_1098 (by decide) ?_
  refine gl_add C.1 i 1 dL_law_1099 ?_
  refine gl_sld C.1 C.2.1 C.2.2.1 C.2.2.2.1 (show i + 1 < Ln by omega) (by have := C.2.2.2.2; omega) dL_law_1100 ?_
  refine gl_aload_n C.1 dL_law_1101 (by rfl) (by rfl) ?_
  refine gl_iload_n C.1 dL_law_1102 (by rfl) (by rfl) ?_
  refine gl_iconst (v := nI 2) C.1 dL_law_1103 (by decide) ?_
  refine gl_add C.1 i 2 dL_law_1104 ?_
  refine gl_sld C.1 C.2.1 C.2.2.1 C.2.2.2.1 (show i + 2 < Ln by omega) (by have := C.2.2.2.2; omega) dL_law_1105 ?_
  refine gl_callVI (As := [.int (xs (i + 1)), .int (xs (i + 2))]) (rest := [.int r1]) C.1 (c_X4_feed E σ1 K L g F tl Bt W Z N (hM.fc hF1) (xs (i + 1)) (xs (i + 2))) z_X4_feed ck4 (by rfl) (by rfl) ml_L_136 (by rfl) (Nat.le_of_ble_eq_true rfl) ⟨Nat.le_of_ble_eq_true rfl, Nat.le_of_ble_eq_true rfl⟩ ⟨Nat.le_of_ble_eq_true rfl, Nat.le_of_ble_eq_true rfl⟩ dL_law_1106 (fun r2 σ2 w2 => ?_)
  obtain ⟨e2, hM2, hF2⟩ := w2
  exact gl_icmp_eq (tgt := 1486) C.1 dL_law_1109 (by decide) (fun _ => kk σ2 _ (hC1.fm hF2) hM2) (fun h => absurd (e1.trans e2.symm) h)
set_option maxHeartbeats 4000000 in
set_option maxRecDepth 100000 in
theorem lc_30 {E : En} {p : Program} {e : Env} {s : State} {m : MethodId} {below : List Frame} {meth : Method} {c : Code} {Q : State → Prop} {b Ln i : Nat} {xs : Nat → Int32} (C : LwC E p s m c b Ln xs) (hi : i + 6 ≤ Ln) {σ : Mm} {A : As} (hC : CR σ A) (hM : MR σ A) (kk : ∀ (σ' : Mm) (A' : As), CR σ' A' → MR σ' A' → GlL E p e s m b below meth c Q 1486 i [] σ') : GlL E p e s m b below meth c Q 1114 i [] σ := by
  obtain ⟨K, L, g, F, tl, Bt, W, Z, N⟩ := A
  refine gl_aload_n C.1 dL_law_1114 (by rfl) (by rfl) ?_
  refine gl_callVI (As := []) (rest := []) C.1 (c_X3_wipe E σ K L g F tl Bt W Z N hC) z_X3_wipe ck3 (by rfl) (by rfl) ml_L_137 (by rfl) (Nat.le_of_ble_eq_true rfl) ⟨Nat.le_of_ble_eq_true rfl, Nat.le_of_ble_eq_true rfl⟩ ⟨Nat.le_of_ble_eq_true rfl, Nat.le_of_ble_eq_true rfl⟩ dL_law_1115 (fun r1 σ1 w1 => ?_)
  obtain ⟨e1, hC1, hF1⟩ := w1
  refine gl_aload_n C.1 dL_law_1118 (by rfl) (by rfl) ?_
  refine gl_callVI (As := []) (rest := [.int r1]) C.1 (c_X4_wipe E σ1 K L g F tl Bt W Z N (hM.fc hF1)) z_X4_wipe ck4 (by rfl) (by rfl) ml_L_140 (by rfl) (Nat.le_of_ble_eq_true rfl) ⟨Nat.le_of_ble_eq_true rfl, Nat.le_of_ble_eq_true rfl⟩ ⟨Nat.le_of_ble_eq_true rfl, Nat.le_of_ble_eq_true rfl⟩ dL_law_1119 (fun r2 σ2 w2 => ?_)
  obtain ⟨e2, hM2, hF2⟩ := w2
  exact gl_icmp_eq (tgt := 1486) C.1 dL_law_1122 (by decide) (fun _ => kk σ2 _ (hC1.fm hF2) hM2) (fun h => absurd (e1.trans e2.symm) h)
set_option maxHeartbeats 4000000 in
set_option maxRecDepth 100000 in
theorem lc_31 {E : En} {p : Program} {e : Env} {s : State} {m : MethodId} {below : List Frame} {meth : Method} {c : Code} {Q : State → Prop} {b Ln i : Nat} {xs : Nat → Int32} (C : LwC E p s m c b Ln xs) (hi : i + 6 ≤ Ln) {σ : Mm} {A : As} (hC : CR σ A) (hM : MR σ A) (kk : ∀ (σ' : Mm) (A' : As), CR σ' A' → MR σ' A' → GlL E p e s m b below meth c Q 1486 i [] σ') : GlL E p e s m b below meth c Q 1127 i [] σ := by
  obtain ⟨K, L, g, F, tl, Bt, W, Z, N⟩ := A
  refine gl_aload_n C.1 dL_law_1127 (by rfl) (by rfl) ?_
  refine gl_callVI (As := []) (rest := []) C.1 (c_X3_text E σ K L g F tl Bt W Z N hC) z_X3_text ck3 (by rfl) (by rfl) ml_L_141 (by rfl) (Nat.le_of_ble_eq_true rfl) ⟨Nat.le_of_ble_eq_true rfl, Nat.le_of_ble_eq_true rfl⟩ ⟨Nat.le_of_ble_eq_true rfl, Nat.le_of_ble_eq_true rfl⟩ dL_law_1128 (fun r1 σ1 w1 => ?_)
  obtain ⟨e1, hC1, hF1⟩ := w1
  refine gl_aload_n C.1 dL_law_1131 (by rfl) (by rfl) ?_
  refine gl_callVI (As := []) (rest := [.int r1]) C.1 (c_X4_text E σ1 K L g F tl Bt W Z N (hM.fc hF1)) z_X4_text ck4 (by rfl) (by rfl) ml_L_144 (by rfl) (Nat.le_of_ble_eq_true rfl) ⟨Nat.le_of_ble_eq_true rfl, Nat.le_of_ble_eq_true rfl⟩ ⟨Nat.le_of_ble_eq_true rfl, Nat.le_of_ble_eq_true rfl⟩ dL_law_1132 (fun r2 σ2 w2 => ?_)
  obtain ⟨e2, hM2, hF2⟩ := w2
  exact gl_icmp_eq (tgt := 1486) C.1 dL_law_1135 (by decide) (fun _ => kk σ2 _ (hC1.fm hF2) hM2) (fun h => absurd (e1.trans e2.symm) h)
set_option maxHeartbeats 4000000 in
set_option maxRecDepth 100000 in
theorem lc_32 {E : En} {p : Program} {e : Env} {s : State} {m : MethodId} {below : List Frame} {meth : Method} {c : Code} {Q : State → Prop} {b Ln i : Nat} {xs : Nat → Int32} (C : LwC E p s m c b Ln xs) (hi : i + 6 ≤ Ln) {σ : Mm} {A : As} (hC : CR σ A) (hM : MR σ A) (kk : ∀ (σ' : Mm) (A' : As), CR σ' A' → MR σ' A' → GlL E p e s m b below meth c Q 1486 i [] σ') : GlL E p e s m b below meth c Q 1140 i [] σ := by
  obtain ⟨K, L, g, F, tl, Bt, W, Z, N⟩ := A
  refine gl_aload_n C.1 dL_law_1140 (by rfl) (by rfl) ?_
  refine gl_aload_n C.1 dL_law_1141 (by rfl) (by rfl) ?_
  refine gl_iload_n C.1 dL_law_1142 (by rfl) (by rfl) ?_
  refine gl_iconst (v := nI 1) C.1 dL_law_1143 (by decide) ?_
  refine gl_add C.1 i 1 dL_law_1144 ?_
  refine gl_sld C.1 C.2.1 C.2.2.1 C.2.2.2.1 (show i + 1 < Ln by omega) (by have := C.2.2.2.2; omega) dL_law_1145 ?_
  refine gl_aload_n C.1 dL_law_1146 (by rfl) (by rfl) ?_
  refine gl_iload_n C.1 dL_law_1147 (by rfl) (by rfl) ?_
  refine gl_iconst (v := nI 2) C.1 dL_law_1148 (by decide) ?_
  refine gl_add C.1 i 2 dL_law_1149 ?_
  refine gl_sld C.1 C.2.1 C.2.2.1 C.2.2.2.1 (show i + 2 < Ln by omega) (by have := C.2.2.2.2; omega) dL_law_1150 ?_
  refine gl_callVI (As := [.int (xs (i + 1)), .int (xs (i + 2))]) (rest := []) C.1 (c_X3_hold E σ K L g F tl Bt W Z N hC (xs (i + 1)) (xs (i + 2))) z_X3_hold ck3 (by rfl) (by rfl) ml_L_145 (by rfl) (Nat.le_of_ble_eq_true rfl) ⟨Nat.le_of_ble_eq_true rfl, Nat.le_of_ble_eq_true rfl⟩ ⟨Nat.le_of_ble_eq_true rfl, Nat.le_of_ble_eq_true rfl⟩ dL_law_1151 (fun r1 σ1 w1 => ?_)
  obtain ⟨e1, hC1, hF1⟩ := w1
  refine gl_aload_n C.1 dL_law_1154 (by rfl) (by rfl) ?_
  refine gl_aload_n C.1 dL_law_1155 (by rfl) (by rfl) ?_
  refine gl_iload_n C.1 dL_law_1156 (by rfl) (by rfl) ?_
  refine gl_iconst (v := nI 1) C.1 dL_law_1157 (by decide) ?_
  refine gl_add C.1 i 1 dL_law_1158 ?_
  refine gl_sld C.1 C.2.1 C.2.2.1 C.2.2.2.1 (show i + 1 < Ln by omega) (by have := C.2.2.2.2; omega) dL_law_1159 ?_
  refine gl_aload_n C.1 dL_law_1160 (by rfl) (by rfl) ?_
  refine gl_iload_n C.1 dL_law_1161 (by rfl) (by rfl) ?_
  refine gl_iconst (v := nI 2) C.1 dL_law_1162 (by decide) ?_
  refine gl_add C.1 i 2 dL_law_1163 ?_
  refine gl_sld C.1 C.2.1 C.2.2.1 C.2.2.2.1 (show i + 2 < Ln by omega) (by have := C.2.2.2.2; omega) dL_law_1164 ?_
  refine gl_callVI (As := [.int (xs (i + 1)), .int (xs (i + 2))]) (rest := [.int r1]) C.1 (c_X4_hold E σ1 K L g F tl Bt W Z N (hM.fc hF1) (xs (i + 1)) (xs (i + 2))) z_X4_hold ck4 (by rfl) (by rfl) ml_L_148 (by rfl) (Nat.le_of_ble_eq_true rfl) ⟨Nat.le_of_ble_eq_true rfl, Nat.le_of_ble_eq_true rfl⟩ ⟨Nat.le_of_ble_eq_true rfl, Nat.le_of_ble_eq_true rfl⟩ dL_law_1165 (fun r2 σ2 w2 => ?_)
  obtain ⟨e2, hM2, hF2⟩ := w2
  exact gl_icmp_eq (tgt := 1486) C.1 dL_law_1168 (by decide) (fun _ => kk σ2 _ (hC1.fm hF2) hM2) (fun h => absurd (e1.trans e2.symm) h)
set_option maxHeartbeats 4000000 in
set_option maxRecDepth 100000 in
theorem lc_33 {E : En} {p : Program} {e : Env} {s : State} {m : MethodId} {below : List Frame} {meth : Method} {c : Code} {Q : State → Prop} {b Ln i : Nat} {xs : Nat → Int32} (C : LwC E p s m c b Ln xs) (hi : i + 6 ≤ Ln) {σ : Mm} {A : As} (hC : CR σ A) (hM : MR σ A) (kk : ∀ (σ' : Mm) (A' : As), CR σ' A' → MR σ' A' → GlL E p e s m b below meth c Q 1486 i [] σ') : GlL E p e s m b below meth c Q 1173 i [] σ := by
  obtain ⟨K, L, g, F, tl, Bt, W, Z, N⟩ := A
  refine gl_aload_n C.1 dL_law_1173 (by rfl) (by rfl) ?_
  refine gl_aload_n C.1 dL_law_1174 (by rfl) (by rfl) ?_
  refine gl_iload_n C.1 dL_law_1175 (by rfl) (by rfl) ?_
  refine gl_iconst (v := nI 1) C.1 dL_law_1176 (by decide) ?_
  refine gl_add C.1 i 1 dL_law_1177 ?_
  refine gl_sld C.1 C.2.1 C.2.2.1 C.2.2.2.1 (show i + 1 < Ln by omega) (by have := C.2.2.2.2; omega) dL_law_1178 ?_
  refine gl_aload_n C.1 dL_law_1179 (by rfl) (by rfl) ?_
  refine gl_iload_n C.1 dL_law_1180 (by rfl) (by rfl) ?_
  refine gl_iconst (v := nI 2) C.1 dL_law_1181 (by decide) ?_
  refine gl_add C.1 i 2 dL_law_1182 ?_
  refine gl_sld C.1 C.2.1 C.2.2.1 C.2.2.2.1 (show i + 2 < Ln by omega) (by have := C.2.2.2.2; omega) dL_law_1183 ?_
  refine gl_callVI (As := [.int (xs (i + 1)), .int (xs (i + 2))]) (rest := []) C.1 (c_X3_as E σ K L g F tl Bt W Z N hC (xs (i + 1)) (xs (i + 2))) z_X3_as ck3 (by rfl) (by rfl) ml_L_149 (by rfl) (Nat.le_of_ble_eq_true rfl) ⟨Nat.le_of_ble_eq_true rfl, Nat.le_of_ble_eq_true rfl⟩ ⟨Nat.le_of_ble_eq_true rfl, Nat.le_of_ble_eq_true rfl⟩ dL_law_1184 (fun r1 σ1 w1 => ?_)
  obtain ⟨e1, hC1, hF1⟩ := w1
  refine gl_aload_n C.1 dL_law_1187 (by rfl) (by rfl) ?_
  refine gl_aload_n C.1 dL_law_1188 (by rfl) (by rfl) ?_
  refine gl_iload_n C.1 dL_law_1189 (by rfl) (by rfl) ?_
  refine gl_iconst (v := nI 1) C.1 dL_law_1190 (by decide) ?_
  refine gl_add C.1 i 1 dL_law_1191 ?_
  refine gl_sld C.1 C.2.1 C.2.2.1 C.2.2.2.1 (show i + 1 < Ln by omega) (by have := C.2.2.2.2; omega) dL_law_1192 ?_
  refine gl_aload_n C.1 dL_law_1193 (by rfl) (by rfl) ?_
  refine gl_iload_n C.1 dL_law_1194 (by rfl) (by rfl) ?_
  refine gl_iconst (v := nI 2) C.1 dL_law_1195 (by decide) ?_
  refine gl_add C.1 i 2 dL_law_1196 ?_
  refine gl_sld C.1 C.2.1 C.2.2.1 C.2.2.2.1 (show i + 2 < Ln by omega) (by have := C.2.2.2.2; omega) dL_law_1197 ?_
  refine gl_callVI (As := [.int (xs (i + 1)), .int (xs (i + 2))]) (rest := [.int r1]) C.1 (c_X4_as E σ1 K L g F tl Bt W Z N (hM.fc hF1) (xs (i + 1)) (xs (i + 2))) z_X4_as ck4 (by rfl) (by rfl) ml_L_152 (by rfl) (Nat.le_of_ble_eq_true rfl) ⟨Nat.le_of_ble_eq_true rfl, Nat.le_of_ble_eq_true rfl⟩ ⟨Nat.le_of_ble_eq_true rfl, Nat.le_of_ble_eq_true rfl⟩ dL_law_1198 (fun r2 σ2 w2 => ?_)
  obtain ⟨e2, hM2, hF2⟩ := w2
  exact gl_icmp_eq (tgt := 1486) C.1 dL_law_1201 (by decide) (fun _ => kk σ2 _ (hC1.fm hF2) hM2) (fun h => absurd (e1.trans e2.symm) h)
set_option maxHeartbeats 4000000 in
set_option maxRecDepth 100000 in
theorem lc_34 {E : En} {p : Program} {e : Env} {s : State} {m : MethodId} {below : List Frame} {meth : Method} {c : Code} {Q : State → Prop} {b Ln i : Nat} {xs : Nat → Int32} (C : LwC E p s m c b Ln xs) (hi : i + 6 ≤ Ln) {σ : Mm} {A : As} (hC : CR σ A) (hM : MR σ A) (kk : ∀ (σ' : Mm) (A' : As), CR σ' A' → MR σ' A' → GlL E p e s m b below meth c Q 1486 i [] σ') : GlL E p e s m b below meth c Q 1206 i [] σ := by
  obtain ⟨K, L, g, F, tl, Bt, W, Z, N⟩ := A
  refine gl_aload_n C.1 dL_law_1206 (by rfl) (by rfl) ?_
  refine gl_aload_n C.1 dL_law_1207 (by rfl) (by rfl) ?_
  refine gl_iload_n C.1 dL_law_1208 (by rfl) (by rfl) ?_
  refine gl_iconst (v := nI 1) C.1 dL_law_1209 (by decide) ?_
  refine gl_add C.1 i 1 dL_law_1210 ?_
  refine gl_sld C.1 C.2.1 C.2.2.1 C.2.2.2.1 (show i + 1 < Ln by omega) (by have := C.2.2.2.2; omega) dL_law_1211 ?_
  refine gl_aload_n C.1 dL_law_1212 (by rfl) (by rfl) ?_
  refine gl_iload_n C.1 dL_law_1213 (by rfl) (by rfl) ?_
  refine gl_iconst (v := nI 2) C.1 dL_law_1214 (by decide) ?_
  refine gl_add C.1 i 2 dL_law_1215 ?_
  refine gl_sld C.1 C.2.1 C.2.2.1 C.2.2.2.1 (show i + 2 < Ln by omega) (by have := C.2.2.2.2; omega) dL_law_1216 ?_
  refine gl_aload_n C.1 dL_law_1217 (by rfl) (by rfl) ?_
  refine gl_iload_n C.1 dL_law_1218 (by rfl) (by rfl) ?_
  refine gl_iconst (v := nI 3) C.1 dL_law_1219 (by decide) ?_
  refine gl_add C.1 i 3 dL_law_1220 ?_
  refine gl_sld C.1 C.2.1 C.2.2.1 C.2.2.2.1 (show i + 3 < Ln by omega) (by have := C.2.2.2.2; omega) dL_law_1221 ?_
  refine gl_callVI (As := [.int (xs (i + 1)), .int (xs (i + 2)), .int (xs (i + 3))]) (rest := []) C.1 (c_X3_sheet E σ K L g F tl Bt W Z N hC (xs (i + 1)) (xs (i + 2)) (xs (i + 3))) z_X3_sheet ck3 (by rfl) (by rfl) ml_L_153 (by rfl) (Nat.le_of_ble_eq_true rfl) ⟨Nat.le_of_ble_eq_true rfl, Nat.le_of_ble_eq_true rfl⟩ ⟨Nat.le_of_ble_eq_true rfl, Nat.le_of_ble_eq_true rfl⟩ dL_law_1222 (fun r1 σ1 w1 => ?_)
  obtain ⟨e1, hC1, hF1⟩ := w1
  refine gl_aload_n C.1 dL_law_1225 (by rfl) (by rfl) ?_
  refine gl_aload_n C.1 dL_law_1226 (by rfl) (by rfl) ?_
  refine gl_iload_n C.1 dL_law_1227 (by rfl) (by rfl) ?_
  refine gl_iconst (v := nI 1) C.1 dL_law_1228 (by decide) ?_
  refine gl_add C.1 i 1 dL_law_1229 ?_
  refine gl_sld C.1 C.2.1 C.2.2.1 C.2.2.2.1 (show i + 1 < Ln by omega) (by have := C.2.2.2.2; omega) dL_law_1230 ?_
  refine gl_aload_n C.1 dL_law_1231 (by rfl) (by rfl) ?_
  refine gl_iload_n C.1 dL_law_1232 (by rfl) (by rfl) ?_
  refine gl_iconst (v := nI 2) C.1 dL_law_1233 (by decide) ?_
  refine gl_add C.1 i 2 dL_law_1234 ?_
  refine gl_sld C.1 C.2.1 C.2.2.1 C.2.2.2.1 (show i + 2 < Ln by omega) (by have := C.2.2.2.2; omega) dL_law_1235 ?_
  refine gl_aload_n C.1 dL_law_1236 (by rfl) (by rfl) ?_
  refine gl_iload_n C.1 dL_law_1237 (by rfl) (by rfl) ?_
  refine gl_iconst (v := nI 3) C.1 dL_law_1238 (by decide) ?_
  refine gl_add C.1 i 3 dL_law_1239 ?_
  refine gl_sld C.1 C.2.1 C.2.2.1 C.2.2.2.1 (show i + 3 < Ln by omega) (by have := C.2.2.2.2; omega) dL_law_1240 ?_
  refine gl_callVI (As := [.int (xs (i + 1)), .int (xs (i + 2)), .int (xs (i + 3))]) (rest := [.int r1]) C.1 (c_X4_sheet E σ1 K L g F tl Bt W Z N (hM.fc hF1) (xs (i + 1)) (xs (i + 2)) (xs (i + 3))) z_X4_sheet ck4 (by rfl) (by rfl) ml_L_156 (by rfl) (Nat.le_of_ble_eq_true rfl) ⟨Nat.le_of_ble_eq_true rfl, Nat.le_of_ble_eq_true rfl⟩ ⟨Nat.le_of_ble_eq_true rfl, Nat.le_of_ble_eq_true rfl⟩ dL_law_1241 (fun r2 σ2 w2 => ?_)
  obtain ⟨e2, hM2, hF2⟩ := w2
  exact gl_icmp_eq (tgt := 1486) C.1 dL_law_1244 (by decide) (fun _ => kk σ2 _ (hC1.fm hF2) hM2) (fun h => absurd (e1.trans e2.symm) h)
set_option maxHeartbeats 4000000 in
set_option maxRecDepth 100000 in
theorem lc_35 {E : En} {p : Program} {e : Env} {s : State} {m : MethodId} {below : List Frame} {meth : Method} {c : Code} {Q : State → Prop} {b Ln i : Nat} {xs : Nat → Int32} (C : LwC E p s m c b Ln xs) (hi : i + 6 ≤ Ln) {σ : Mm} {A : As} (hC : CR σ A) (hM : MR σ A) (kk : ∀ (σ' : Mm) (A' : As), CR σ' A' → MR σ' A' → GlL E p e s m b below meth c Q 1486 i [] σ') : GlL E p e s m b below meth c Q 1249 i [] σ := by
  obtain ⟨K, L, g, F, tl, Bt, W, Z, N⟩ := A
  refine gl_aload_n C.1 dL_law_1249 (by rfl) (by rfl) ?_
  refine gl_aload_n C.1 dL_law_1250 (by rfl) (by rfl) ?_
  refine gl_iload_n C.1 dL_law_1251 (by rfl) (by rfl) ?_
  refine gl_iconst (v := nI 1) C.1 dL_law_1252 (by decide) ?_
  refine gl_add C.1 i 1 dL_law_1253 ?_
  refine gl_sld C.1 C.2.1 C.2.2.1 C.2.2.2.1 (show i + 1 < Ln by omega) (by have := C.2.2.2.2; omega) dL_law_1254 ?_
  refine gl_aload_n C.1 dL_law_1255 (by rfl) (by rfl) ?_
  refine gl_iload_n C.1 dL_law_1256 (by rfl) (by rfl) ?_
  refine gl_iconst (v := nI 2) C.1 dL_law_1257 (by decide) ?_
  refine gl_add C.1 i 2 dL_law_1258 ?_
  refine gl_sld C.1 C.2.1 C.2.2.1 C.2.2.2.1 (show i + 2 < Ln by omega) (by have := C.2.2.2.2; omega) dL_law_1259 ?_
  refine gl_aload_n C.1 dL_law_1260 (by rfl) (by rfl) ?_
  refine gl_iload_n C.1 dL_law_1261 (by rfl) (by rfl) ?_
  refine gl_iconst (v := nI 3) C.1 dL_law_1262 (by decide) ?_
  refine gl_add C.1 i 3 dL_law_1263 ?_
  refine gl_sld C.1 C.2.1 C.2.2.1 C.2.2.2.1 (show i + 3 < Ln by omega) (by have := C.2.2.2.2; omega) dL_law_1264 ?_
  refine gl_callVI (As := [.int (xs (i + 1)), .int (xs (i + 2)), .int (xs (i + 3))]) (rest := []) C.1 (c_X3_write E σ K L g F tl Bt W Z N hC (xs (i + 1)) (xs (i + 2)) (xs (i + 3))) z_X3_write ck3 (by rfl) (by rfl) ml_L_157 (by rfl) (Nat.le_of_ble_eq_true rfl) ⟨Nat.le_of_ble_eq_true rfl, Nat.le_of_ble_eq_true rfl⟩ ⟨Nat.le_of_ble_eq_true rfl, Nat.le_of_ble_eq_true rfl⟩ dL_law_1265 (fun r1 σ1 w1 => ?_)
  obtain ⟨e1, hC1, hF1⟩ := w1
  refine gl_aload_n C.1 dL_law_1268 (by rfl) (by rfl) ?_
  refine gl_aload_n C.1 dL_law_1269 (by rfl) (by rfl) ?_
  refine gl_iload_n C.1 dL_law_1270 (by rfl) (by rfl) ?_
  refine gl_iconst (v := nI 1) C.1 dL_law_1271 (by decide) ?_
  refine gl_add C.1 i 1 dL_law_1272 ?_
  refine gl_sld C.1 C.2.1 C.2.2.1 C.2.2.2.1 (show i + 1 < Ln by omega) (by have := C.2.2.2.2; omega) dL_law_1273 ?_
  refine gl_aload_n C.1 dL_law_1274 (by rfl) (by rfl) ?_
  refine gl_iload_n C.1 dL_law_1275 (by rfl) (by rfl) ?_
  refine gl_iconst (v := nI 2) C.1 dL_law_1276 (by decide) ?_
  refine gl_add C.1 i 2 dL_law_1277 ?_
  refine gl_sld C.1 C.2.1 C.2.2.1 C.2.2.2.1 (show i + 2 < Ln by omega) (by have := C.2.2.2.2; omega) dL_law_1278 ?_
  refine gl_aload_n C.1 dL_law_1279 (by rfl) (by rfl) ?_
  refine gl_iload_n C.1 dL_law_1280 (by rfl) (by rfl) ?_
  refine gl_iconst (v := nI 3) C.1 dL_law_1281 (by decide) ?_
  refine gl_add C.1 i 3 dL_law_1282 ?_
  refine gl_sld C.1 C.2.1 C.2.2.1 C.2.2.2.1 (show i + 3 < Ln by omega) (by have := C.2.2.2.2; omega) dL_law_1283 ?_
  refine gl_callVI (As := [.int (xs (i + 1)), .int (xs (i + 2)), .int (xs (i + 3))]) (rest := [.int r1]) C.1 (c_X4_write E σ1 K L g F tl Bt W Z N (hM.fc hF1) (xs (i + 1)) (xs (i + 2)) (xs (i + 3))) z_X4_write ck4 (by rfl) (by rfl) ml_L_160 (by rfl) (Nat.le_of_ble_eq_true rfl) ⟨Nat.le_of_ble_eq_true rfl, Nat.le_of_ble_eq_true rfl⟩ ⟨Nat.le_of_ble_eq_true rfl, Nat.le_of_ble_eq_true rfl⟩ dL_law_1284 (fun r2 σ2 w2 => ?_)
  obtain ⟨e2, hM2, hF2⟩ := w2
  exact gl_icmp_eq (tgt := 1486) C.1 dL_law_1287 (by decide) (fun _ => kk σ2 _ (hC1.fm hF2) hM2) (fun h => absurd (e1.trans e2.symm) h)
set_option maxHeartbeats 4000000 in
set_option maxRecDepth 100000 in
theorem lc_36 {E : En} {p : Program} {e : Env} {s : State} {m : MethodId} {below : List Frame} {meth : Method} {c : Code} {Q : State → Prop} {b Ln i : Nat} {xs : Nat → Int32} (C : LwC E p s m c b Ln xs) (hi : i + 6 ≤ Ln) {σ : Mm} {A : As} (hC : CR σ A) (hM : MR σ A) (kk : ∀ (σ' : Mm) (A' : As), CR σ' A' → MR σ' A' → GlL E p e s m b below meth c Q 1486 i [] σ') : GlL E p e s m b below meth c Q 1292 i [] σ := by
  obtain ⟨K, L, g, F, tl, Bt, W, Z, N⟩ := A
  refine gl_aload_n C.1 dL_law_1292 (by rfl) (by rfl) ?_
  refine gl_aload_n C.1 dL_law_1293 (by rfl) (by rfl) ?_
  refine gl_iload_n C.1 dL_law_1294 (by rfl) (by rfl) ?_
  refine gl_iconst (v := nI 1) C.1 dL_law_1295 (by decide) ?_
  refine gl_add C.1 i 1 dL_law_1296 ?_
  refine gl_sld C.1 C.2.1 C.2.2.1 C.2.2.2.1 (show i + 1 < Ln by omega) (by have := C.2.2.2.2; omega) dL_law_1297 ?_
  refine gl_aload_n C.1 dL_law_1298 (by rfl) (by rfl) ?_
  refine gl_iload_n C.1 dL_law_1299 (by rfl) (by rfl) ?_
  refine gl_iconst (v := nI 2) C.1 dL_law_1300 (by decide) ?_
  refine gl_add C.1 i 2 dL_law_1301 ?_
  refine gl_sld C.1 C.2.1 C.2.2.1 C.2.2.2.1 (show i + 2 < Ln by omega) (by have := C.2.2.2.2; omega) dL_law_1302 ?_
  refine gl_aload_n C.1 dL_law_1303 (by rfl) (by rfl) ?_
  refine gl_iload_n C.1 dL_law_1304 (by rfl) (by rfl) ?_
  refine gl_iconst (v := nI 3) C.1 dL_law_1305 (by decide) ?_
  refine gl_add C.1 i 3 dL_law_1306 ?_
  refine gl_sld C.1 C.2.1 C.2.2.1 C.2.2.2.1 (show i + 3 < Ln by omega) (by have := C.2.2.2.2; omega) dL_law_1307 ?_
  refine gl_aload_n C.1 dL_law_1308 (by rfl) (by rfl) ?_
  refine gl_iload_n C.1 dL_law_1309 (by rfl) (by rfl) ?_
  refine gl_iconst (v := nI 4) C.1 dL_law_1310 (by decide) ?_
  refine gl_add C.1 i 4 dL_law_1311 ?_
  refine gl_sld C.1 C.2.1 C.2.2.1 C.2.2.2.1 (show i + 4 < Ln by omega) (by have := C.2.2.2.2; omega) dL_law_1312 ?_
  refine gl_aload_n C.1 dL_law_1313 (by rfl) (by rfl) ?_
  refine gl_iload_n C.1 dL_law_1314 (by rfl) (by rfl) ?_
  refine gl_iconst (v := nI 5) C.1 dL_law_1315 (by decide) ?_
  refine gl_add C.1 i 5 dL_law_1316 ?_
  refine gl_sld C.1 C.2.1 C.2.2.1 C.2.2.2.1 (show i + 5 < Ln by omega) (by have := C.2.2.2.2; omega) dL_law_1317 ?_
  refine gl_callVI (As := [.int (xs (i + 1)), .int (xs (i + 2)), .int (xs (i + 3)), .int (xs (i + 4)), .int (xs (i + 5))]) (rest := []) C.1 (c_X3_copy E σ K L g F tl Bt W Z N hC (xs (i + 1)) (xs (i + 2)) (xs (i + 3)) (xs (i + 4)) (xs (i + 5))) z_X3_copy ck3 (by rfl) (by rfl) ml_L_161 (by rfl) (Nat.le_of_ble_eq_true rfl) ⟨Nat.le_of_ble_eq_true rfl, Nat.le_of_ble_eq_true rfl⟩ ⟨Nat.le_of_ble_eq_true rfl, Nat.le_of_ble_eq_true rfl⟩ dL_law_1318 (fun r1 σ1 w1 => ?_)
  obtain ⟨e1, hC1, hF1⟩ := w1
  refine gl_aload_n C.1 dL_law_1321 (by rfl) (by rfl) ?_
  refine gl_aload_n C.1 dL_law_1322 (by rfl) (by rfl) ?_
  refine gl_iload_n C.1 dL_law_1323 (by rfl) (by rfl) ?_
  refine gl_iconst (v := nI 1) C.1 dL_law_1324 (by decide) ?_
  refine gl_add C.1 i 1 dL_law_1325 ?_
  refine gl_sld C.1 C.2.1 C.2.2.1 C.2.2.2.1 (show i + 1 < Ln by omega) (by have := C.2.2.2.2; omega) dL_law_1326 ?_
  refine gl_aload_n C.1 dL_law_1327 (by rfl) (by rfl) ?_
  refine gl_iload_n C.1 dL_law_1328 (by rfl) (by rfl) ?_
  refine gl_iconst (v := nI 2) C.1 dL_law_1329 (by decide) ?_
  refine gl_add C.1 i 2 dL_law_1330 ?_
  refine gl_sld C.1 C.2.1 C.2.2.1 C.2.2.2.1 (show i + 2 < Ln by omega) (by have := C.2.2.2.2; omega) dL_law_1331 ?_
  refine gl_aload_n C.1 dL_law_1332 (by rfl) (by rfl) ?_
  refine gl_iload_n C.1 dL_law_1333 (by rfl) (by rfl) ?_
  refine gl_iconst (v := nI 3) C.1 dL_law_1334 (by decide) ?_
  refine gl_add C.1 i 3 dL_law_1335 ?_
  refine gl_sld C.1 C.2.1 C.2.2.1 C.2.2.2.1 (show i + 3 < Ln by omega) (by have := C.2.2.2.2; omega) dL_law_1336 ?_
  refine gl_aload_n C.1 dL_law_1337 (by rfl) (by rfl) ?_
  refine gl_iload_n C.1 dL_law_1338 (by rfl) (by rfl) ?_
  refine gl_iconst (v := nI 4) C.1 dL_law_1339 (by decide) ?_
  refine gl_add C.1 i 4 dL_law_1340 ?_
  refine gl_sld C.1 C.2.1 C.2.2.1 C.2.2.2.1 (show i + 4 < Ln by omega) (by have := C.2.2.2.2; omega) dL_law_1341 ?_
  refine gl_aload_n C.1 dL_law_1342 (by rfl) (by rfl) ?_
  refine gl_iload_n C.1 dL_law_1343 (by rfl) (by rfl) ?_
  refine gl_iconst (v := nI 5) C.1 dL_law_1344 (by decide) ?_
  refine gl_add C.1 i 5 dL_law_1345 ?_
  refine gl_sld C.1 C.2.1 C.2.2.1 C.2.2.2.1 (show i + 5 < Ln by omega) (by have := C.2.2.2.2; omega) dL_law_1346 ?_
  refine gl_callVI (As := [.int (xs (i + 1)), .int (xs (i + 2)), .int (xs (i + 3)), .int (xs (i + 4)), .int (xs (i + 5))]) (rest := [.int r1]) C.1 (c_X4_copy E σ1 K L g F tl Bt W Z N (hM.fc hF1) (xs (i + 1)) (xs (i + 2)) (xs (i + 3)) (xs (i + 4)) (xs (i + 5))) z_X4_copy ck4 (by rfl) (by rfl) ml_L_165 (by rfl) (Nat.le_of_ble_eq_true rfl) ⟨Nat.le_of_ble_eq_true rfl, Nat.le_of_ble_eq_true rfl⟩ ⟨Nat.le_of_ble_eq_true rfl, Nat.le_of_ble_eq_true rfl⟩ dL_law_1347 (fun r2 σ2 w2 => ?_)
  obtain ⟨e2, hM2, hF2⟩ := w2
  exact gl_icmp_eq (tgt := 1486) C.1 dL_law_1350 (by decide) (fun _ => kk σ2 _ (hC1.fm hF2) hM2) (fun h => absurd (e1.trans e2.symm) h)
set_option maxHeartbeats 4000000 in
set_option maxRecDepth 100000 in
theorem lc_37 {E : En} {p : Program} {e : Env} {s : State} {m : MethodId} {below : List Frame} {meth : Method} {c : Code} {Q : State → Prop} {b Ln i : Nat} {xs : Nat → Int32} (C : LwC E p s m c b Ln xs) (hi : i + 6 ≤ Ln) {σ : Mm} {A : As} (hC : CR σ A) (hM : MR σ A) (kk : ∀ (σ' : Mm) (A' : As), CR σ' A' → MR σ' A' → GlL E p e s m b below meth c Q 1486 i [] σ') : GlL E p e s m b below meth c Q 1355 i [] σ := by
  obtain ⟨K, L, g, F, tl, Bt, W, Z, N⟩ := A
  refine gl_aload_n C.1 dL_law_1355 (by rfl) (by rfl) ?_
  refine gl_aload_n C.1 dL_law_1356 (by rfl) (by rfl) ?_
  refine gl_iload_n C.1 dL_law_1357 (by rfl) (by rfl) ?_
  refine gl_iconst (v := nI 1) C.1 dL_law_1358 (by decide) ?_
  refine gl_add C.1 i 1 dL_law_1359 ?_
  refine gl_sld C.1 C.2.1 C.2.2.1 C.2.2.2.1 (show i + 1 < Ln by omega) (by have := C.2.2.2.2; omega) dL_law_1360 ?_
  refine gl_callVI (As := [.int (xs (i + 1))]) (rest := []) C.1 (c_X3_load E σ K L g F tl Bt W Z N hC (xs (i + 1))) z_X3_load ck3 (by rfl) (by rfl) ml_L_166 (by rfl) (Nat.le_of_ble_eq_true rfl) ⟨Nat.le_of_ble_eq_true rfl, Nat.le_of_ble_eq_true rfl⟩ ⟨Nat.le_of_ble_eq_true rfl, Nat.le_of_ble_eq_true rfl⟩ dL_law_1361 (fun r1 σ1 w1 => ?_)
  obtain ⟨e1, hC1, hF1⟩ := w1
  refine gl_aload_n C.1 dL_law_1364 (by rfl) (by rfl) ?_
  refine gl_aload_n C.1 dL_law_1365 (by rfl) (by rfl) ?_
  refine gl_iload_n C.1 dL_law_1366 (by rfl) (by rfl) ?_
  refine gl_iconst (v := nI 1) C.1 dL_law_1367 (by decide) ?_
  refine gl_add C.1 i 1 dL_law_1368 ?_
  refine gl_sld C.1 C.2.1 C.2.2.1 C.2.2.2.1 (show i + 1 < Ln by omega) (by have := C.2.2.2.2; omega) dL_law_1369 ?_
  refine gl_callVI (As := [.int (xs (i + 1))]) (rest := [.int r1]) C.1 (c_X4_load E σ1 K L g F tl Bt W Z N (hM.fc hF1) (xs (i + 1))) z_X4_load ck4 (by rfl) (by rfl) ml_L_169 (by rfl) (Nat.le_of_ble_eq_true rfl) ⟨Nat.le_of_ble_eq_true rfl, Nat.le_of_ble_eq_true rfl⟩ ⟨Nat.le_of_ble_eq_true rfl, Nat.le_of_ble_eq_true rfl⟩ dL_law_1370 (fun r2 σ2 w2 => ?_)
  obtain ⟨e2, hM2, hF2⟩ := w2
  exact gl_icmp_eq (tgt := 1486) C.1 dL_law_1373 (by decide) (fun _ => kk σ2 _ (hC1.fm hF2) hM2) (fun h => absurd (e1.trans e2.symm) h)
set_option maxHeartbeats 4000000 in
set_option maxRecDepth 100000 in
theorem lc_38 {E : En} {p : Program} {e : Env} {s : State} {m : MethodId} {below : List Frame} {meth : Method} {c : Code} {Q : State → Prop} {b Ln i : Nat} {xs : Nat → Int32} (C : LwC E p s m c b Ln xs) (hi : i + 6 ≤ Ln) {σ : Mm} {A : As} (hC : CR σ A) (hM : MR σ A) (kk : ∀ (σ' : Mm) (A' : As), CR σ' A' → MR σ' A' → GlL E p e s m b below meth c Q 1486 i [] σ') : GlL E p e s m b below meth c Q 1378 i [] σ := by
  obtain ⟨K, L, g, F, tl, Bt, W, Z, N⟩ := A
  refine gl_aload_n C.1 dL_law_1378 (by rfl) (by rfl) ?_
  refine gl_aload_n C.1 dL_law_1379 (by rfl) (by rfl) ?_
  refine gl_iload_n C.1 dL_law_1380 (by rfl) (by rfl) ?_
  refine gl_iconst (v := nI 1) C.1 dL_law_1381 (by decide) ?_
  refine gl_add C.1 i 1 dL_law_1382 ?_
  refine gl_sld C.1 C.2.1 C.2.2.1 C.2.2.2.1 (show i + 1 < Ln by omega) (by have := C.2.2.2.2; omega) dL_law_1383 ?_
  refine gl_callVI (As := [.int (xs (i + 1))]) (rest := []) C.1 (c_X3_judge E σ K L g F tl Bt W Z N hC (xs (i + 1))) z_X3_judge ck3 (by rfl) (by rfl) ml_L_170 (by rfl) (Nat.le_of_ble_eq_true rfl) ⟨Nat.le_of_ble_eq_true rfl, Nat.le_of_ble_eq_true rfl⟩ ⟨Nat.le_of_ble_eq_true rfl, Nat.le_of_ble_eq_true rfl⟩ dL_law_1384 (fun r1 σ1 w1 => ?_)
  obtain ⟨e1, hC1, hF1⟩ := w1
  refine gl_aload_n C.1 dL_law_1387 (by rfl) (by rfl) ?_
  refine gl_aload_n C.1 dL_law_1388 (by rfl) (by rfl) ?_
  refine gl_iload_n C.1 dL_law_1389 (by rfl) (by rfl) ?_
  refine gl_iconst (v := nI 1) C.1 dL_law_1390 (by decide) ?_
  refine gl_add C.1 i 1 dL_law_1391 ?_
  refine gl_sld C.1 C.2.1 C.2.2.1 C.2.2.2.1 (show i + 1 < Ln by omega) (by have := C.2.2.2.2; omega) dL_law_1392 ?_
  refine gl_callVI (As := [.int (xs (i + 1))]) (rest := [.int r1]) C.1 (c_X4_judge E σ1 K L g F tl Bt W Z N (hM.fc hF1) (xs (i + 1))) z_X4_judge ck4 (by rfl) (by rfl) ml_L_173 (by rfl) (Nat.le_of_ble_eq_true rfl) ⟨Nat.le_of_ble_eq_true rfl, Nat.le_of_ble_eq_true rfl⟩ ⟨Nat.le_of_ble_eq_true rfl, Nat.le_of_ble_eq_true rfl⟩ dL_law_1393 (fun r2 σ2 w2 => ?_)
  obtain ⟨e2, hM2, hF2⟩ := w2
  exact gl_icmp_eq (tgt := 1486) C.1 dL_law_1396 (by decide) (fun _ => kk σ2 _ (hC1.fm hF2) hM2) (fun h => absurd (e1.trans e2.symm) h)
set_option maxHeartbeats 4000000 in
set_option maxRecDepth 100000 in
theorem lc_39 {E : En} {p : Program} {e : Env} {s : State} {m : MethodId} {below : List Frame} {meth : Method} {c : Code} {Q : State → Prop} {b Ln i : Nat} {xs : Nat → Int32} (C : LwC E p s m c b Ln xs) (hi : i + 6 ≤ Ln) {σ : Mm} {A : As} (hC : CR σ A) (hM : MR σ A) (kk : ∀ (σ' : Mm) (A' : As), CR σ' A' → MR σ' A' → GlL E p e s m b below meth c Q 1486 i [] σ') : GlL E p e s m b below meth c Q 1401 i [] σ := by
  obtain ⟨K, L, g, F, tl, Bt, W, Z, N⟩ := A
  refine gl_aload_n C.1 dL_law_1401 (by rfl) (by rfl) ?_
  refine gl_callVI (As := []) (rest := []) C.1 (c_X3_image E σ K L g F tl Bt W Z N hC) z_X3_image ck3 (by rfl) (by rfl) ml_L_174 (by rfl) (Nat.le_of_ble_eq_true rfl) ⟨Nat.le_of_ble_eq_true rfl, Nat.le_of_ble_eq_true rfl⟩ ⟨Nat.le_of_ble_eq_true rfl, Nat.le_of_ble_eq_true rfl⟩ dL_law_1402 (fun r1 σ1 w1 => ?_)
  obtain ⟨e1, hC1, hF1⟩ := w1
  refine gl_aload_n C.1 dL_law_1405 (by rfl) (by rfl) ?_
  refine gl_callVI (As := []) (rest := [.int r1]) C.1 (c_X4_image E σ1 K L g F tl Bt W Z N (hM.fc hF1)) z_X4_image ck4 (by rfl) (by rfl) ml_L_177 (by rfl) (Nat.le_of_ble_eq_true rfl) ⟨Nat.le_of_ble_eq_true rfl, Nat.le_of_ble_eq_true rfl⟩ ⟨Nat.le_of_ble_eq_true rfl, Nat.le_of_ble_eq_true rfl⟩ dL_law_1406 (fun r2 σ2 w2 => ?_)
  obtain ⟨e2, hM2, hF2⟩ := w2
  exact gl_icmp_eq (tgt := 1486) C.1 dL_law_1409 (by decide) (fun _ => kk σ2 _ (hC1.fm hF2) hM2) (fun h => absurd (e1.trans e2.symm) h)
set_option maxHeartbeats 4000000 in
set_option maxRecDepth 100000 in
theorem lc_40 {E : En} {p : Program} {e : Env} {s : State} {m : MethodId} {below : List Frame} {meth : Method} {c : Code} {Q : State → Prop} {b Ln i : Nat} {xs : Nat → Int32} (C : LwC E p s m c b Ln xs) (hi : i + 6 ≤ Ln) {σ : Mm} {A : As} (hC : CR σ A) (hM : MR σ A) (kk : ∀ (σ' : Mm) (A' : As), CR σ' A' → MR σ' A' → GlL E p e s m b below meth c Q 1486 i [] σ') : GlL E p e s m b below meth c Q 1414 i [] σ := by
  obtain ⟨K, L, g, F, tl, Bt, W, Z, N⟩ := A
  refine gl_aload_n C.1 dL_law_1414 (by rfl) (by rfl) ?_
  refine gl_callVI (As := []) (rest := []) C.1 (c_X3_back E σ K L g F tl Bt W Z N hC) z_X3_back ck3 (by rfl) (by rfl) ml_L_178 (by rfl) (Nat.le_of_ble_eq_true rfl) ⟨Nat.le_of_ble_eq_true rfl, Nat.le_of_ble_eq_true rfl⟩ ⟨Nat.le_of_ble_eq_true rfl, Nat.le_of_ble_eq_true rfl⟩ dL_law_1415 (fun r1 σ1 w1 => ?_)
  obtain ⟨e1, hC1, hF1⟩ := w1
  refine gl_aload_n C.1 dL_law_1418 (by rfl) (by rfl) ?_
  refine gl_callVI (As := []) (rest := [.int r1]) C.1 (c_X4_back E σ1 K L g F tl Bt W Z N (hM.fc hF1)) z_X4_back ck4 (by rfl) (by rfl) ml_L_181 (by rfl) (Nat.le_of_ble_eq_true rfl) ⟨Nat.le_of_ble_eq_true rfl, Nat.le_of_ble_eq_true rfl⟩ ⟨Nat.le_of_ble_eq_true rfl, Nat.le_of_ble_eq_true rfl⟩ dL_law_1419 (fun r2 σ2 w2 => ?_)
  obtain ⟨e2, hM2, hF2⟩ := w2
  exact gl_icmp_eq (tgt := 1486) C.1 dL_law_1422 (by decide) (fun _ => kk σ2 _ (hC1.fm hF2) hM2) (fun h => absurd (e1.trans e2.symm) h)
set_option maxHeartbeats 4000000 in
set_option maxRecDepth 100000 in
theorem lc_41 {E : En} {p : Program} {e : Env} {s : State} {m : MethodId} {below : List Frame} {meth : Method} {c : Code} {Q : State → Prop} {b Ln i : Nat} {xs : Nat → Int32} (C : LwC E p s m c b Ln xs) (hi : i + 6 ≤ Ln) {σ : Mm} {A : As} (hC : CR σ A) (hM : MR σ A) (kk : ∀ (σ' : Mm) (A' : As), CR σ' A' → MR σ' A' → GlL E p e s m b below meth c Q 1486 i [] σ') : GlL E p e s m b below meth c Q 1427 i [] σ := by
  obtain ⟨K, L, g, F, tl, Bt, W, Z, N⟩ := A
  refine gl_aload_n C.1 dL_law_1427 (by rfl) (by rfl) ?_
  refine gl_callVI (As := []) (rest := []) C.1 (c_X3_tear E σ K L g F tl Bt W Z N hC) z_X3_tear ck3 (by rfl) (by rfl) ml_L_182 (by rfl) (Nat.le_of_ble_eq_true rfl) ⟨Nat.le_of_ble_eq_true rfl, Nat.le_of_ble_eq_true rfl⟩ ⟨Nat.le_of_ble_eq_true rfl, Nat.le_of_ble_eq_true rfl⟩ dL_law_1428 (fun r1 σ1 w1 => ?_)
  obtain ⟨e1, hC1, hF1⟩ := w1
  refine gl_aload_n C.1 dL_law_1431 (by rfl) (by rfl) ?_
  refine gl_callVI (As := []) (rest := [.int r1]) C.1 (c_X4_tear E σ1 K L g F tl Bt W Z N (hM.fc hF1)) z_X4_tear ck4 (by rfl) (by rfl) ml_L_185 (by rfl) (Nat.le_of_ble_eq_true rfl) ⟨Nat.le_of_ble_eq_true rfl, Nat.le_of_ble_eq_true rfl⟩ ⟨Nat.le_of_ble_eq_true rfl, Nat.le_of_ble_eq_true rfl⟩ dL_law_1432 (fun r2 σ2 w2 => ?_)
  obtain ⟨e2, hM2, hF2⟩ := w2
  exact gl_icmp_eq (tgt := 1486) C.1 dL_law_1435 (by decide) (fun _ => kk σ2 _ (hC1.fm hF2) hM2) (fun h => absurd (e1.trans e2.symm) h)
set_option maxHeartbeats 4000000 in
set_option maxRecDepth 100000 in
theorem lc_42 {E : En} {p : Program} {e : Env} {s : State} {m : MethodId} {below : List Frame} {meth : Method} {c : Code} {Q : State → Prop} {b Ln i : Nat} {xs : Nat → Int32} (C : LwC E p s m c b Ln xs) (hi : i + 6 ≤ Ln) {σ : Mm} {A : As} (hC : CR σ A) (hM : MR σ A) (kk : ∀ (σ' : Mm) (A' : As), CR σ' A' → MR σ' A' → GlL E p e s m b below meth c Q 1486 i [] σ') : GlL E p e s m b below meth c Q 1440 i [] σ := by
  obtain ⟨K, L, g, F, tl, Bt, W, Z, N⟩ := A
  refine gl_aload_n C.1 dL_law_1440 (by rfl) (by rfl) ?_
  refine gl_aload_n C.1 dL_law_1441 (by rfl) (by rfl) ?_
  refine gl_iload_n C.1 dL_law_1442 (by rfl) (by rfl) ?_
  refine gl_iconst (v := nI 1) C.1 dL_law_1443 (by decide) ?_
  refine gl_add C.1 i 1 dL_law_1444 ?_
  refine gl_sld C.1 C.2.1 C.2.2.1 C.2.2.2.1 (show i + 1 < Ln by omega) (by have := C.2.2.2.2; omega) dL_law_1445 ?_
  refine gl_callVI (As := [.int (xs (i + 1))]) (rest := []) C.1 (c_X3_count E σ K L g F tl Bt W Z N hC (xs (i + 1))) z_X3_count ck3 (by rfl) (by rfl) ml_L_186 (by rfl) (Nat.le_of_ble_eq_true rfl) ⟨Nat.le_of_ble_eq_true rfl, Nat.le_of_ble_eq_true rfl⟩ ⟨Nat.le_of_ble_eq_true rfl, Nat.le_of_ble_eq_true rfl⟩ dL_law_1446 (fun r1 σ1 w1 => ?_)
  obtain ⟨e1, hC1, hF1⟩ := w1
  refine gl_aload_n C.1 dL_law_1449 (by rfl) (by rfl) ?_
  refine gl_aload_n C.1 dL_law_1450 (by rfl) (by rfl) ?_
  refine gl_iload_n C.1 dL_law_1451 (by rfl) (by rfl) ?_
  refine gl_iconst (v := nI 1) C.1 dL_law_1452 (by decide) ?_
  refine gl_add C.1 i 1 dL_law_1453 ?_
  refine gl_sld C.1 C.2.1 C.2.2.1 C.2.2.2.1 (show i + 1 < Ln by omega) (by have := C.2.2.2.2; omega) dL_law_1454 ?_
  refine gl_callVI (As := [.int (xs (i + 1))]) (rest := [.int r1]) C.1 (c_X4_count E σ1 K L g F tl Bt W Z N (hM.fc hF1) (xs (i + 1))) z_X4_count ck4 (by rfl) (by rfl) ml_L_189 (by rfl) (Nat.le_of_ble_eq_true rfl) ⟨Nat.le_of_ble_eq_true rfl, Nat.le_of_ble_eq_true rfl⟩ ⟨Nat.le_of_ble_eq_true rfl, Nat.le_of_ble_eq_true rfl⟩ dL_law_1455 (fun r2 σ2 w2 => ?_)
  obtain ⟨e2, hM2, hF2⟩ := w2
  exact gl_icmp_eq (tgt := 1486) C.1 dL_law_1458 (by decide) (fun _ => kk σ2 _ (hC1.fm hF2) hM2) (fun h => absurd (e1.trans e2.symm) h)
set_option maxHeartbeats 4000000 in
set_option maxRecDepth 100000 in
theorem lc_43 {E : En} {p : Program} {e : Env} {s : State} {m : MethodId} {below : List Frame} {meth : Method} {c : Code} {Q : State → Prop} {b Ln i : Nat} {xs : Nat → Int32} (C : LwC E p s m c b Ln xs) (hi : i + 6 ≤ Ln) {σ : Mm} {A : As} (hC : CR σ A) (hM : MR σ A) (kk : ∀ (σ' : Mm) (A' : As), CR σ' A' → MR σ' A' → GlL E p e s m b below meth c Q 1486 i [] σ') : GlL E p e s m b below meth c Q 1463 i [] σ := by
  obtain ⟨K, L, g, F, tl, Bt, W, Z, N⟩ := A
  refine gl_aload_n C.1 dL_law_1463 (by rfl) (by rfl) ?_
  refine gl_aload_n C.1 dL_law_1464 (by rfl) (by rfl) ?_
  refine gl_iload_n C.1 dL_law_1465 (by rfl) (by rfl) ?_
  refine gl_iconst (v := nI 1) C.1 dL_law_1466 (by decide) ?_
  refine gl_add C.1 i 1 dL_law_1467 ?_
  refine gl_sld C.1 C.2.1 C.2.2.1 C.2.2.2.1 (show i + 1 < Ln by omega) (by have := C.2.2.2.2; omega) dL_law_1468 ?_
  refine gl_callVI (As := [.int (xs (i + 1))]) (rest := []) C.1 (c_X3_status E σ K L g F tl Bt W Z N hC (xs (i + 1))) z_X3_status ck3 (by rfl) (by rfl) ml_L_190 (by rfl) (Nat.le_of_ble_eq_true rfl) ⟨Nat.le_of_ble_eq_true rfl, Nat.le_of_ble_eq_true rfl⟩ ⟨Nat.le_of_ble_eq_true rfl, Nat.le_of_ble_eq_true rfl⟩ dL_law_1469 (fun r1 σ1 w1 => ?_)
  obtain ⟨e1, hC1, hF1⟩ := w1
  refine gl_aload_n C.1 dL_law_1472 (by rfl) (by rfl) ?_
  refine gl_aload_n C.1 dL_law_1473 (by rfl) (by rfl) ?_
  refine gl_iload_n C.1 dL_law_1474 (by rfl) (by rfl) ?_
  refine gl_iconst (v := nI 1) C.1 dL_law_1475 (by decide) ?_
  refine gl_add C.1 i 1 dL_law_1476 ?_
  refine gl_sld C.1 C.2.1 C.2.2.1 C.2.2.2.1 (show i + 1 < Ln by omega) (by have := C.2.2.2.2; omega) dL_law_1477 ?_
  refine gl_callVI (As := [.int (xs (i + 1))]) (rest := [.int r1]) C.1 (c_X4_status E σ1 K L g F tl Bt W Z N (hM.fc hF1) (xs (i + 1))) z_X4_status ck4 (by rfl) (by rfl) ml_L_193 (by rfl) (Nat.le_of_ble_eq_true rfl) ⟨Nat.le_of_ble_eq_true rfl, Nat.le_of_ble_eq_true rfl⟩ ⟨Nat.le_of_ble_eq_true rfl, Nat.le_of_ble_eq_true rfl⟩ dL_law_1478 (fun r2 σ2 w2 => ?_)
  obtain ⟨e2, hM2, hF2⟩ := w2
  exact gl_icmp_eq (tgt := 1486) C.1 dL_law_1481 (by decide) (fun _ => kk σ2 _ (hC1.fm hF2) hM2) (fun h => absurd (e1.trans e2.symm) h)
