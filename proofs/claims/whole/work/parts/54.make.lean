/-! MAKING THE OBJECTS: a world that grows (ws), rows of constructors' instructions -/
def zI : Nat → Int32 := fun _ => 0
def jFirst : List Int32 := [0, 3, 50]
/-- what constructors read outside their world -/
def Sto (z0 : Nat) (B : Nat → Prop) (U : State) (H : Heap) : Prop :=
  (va_Z RX3 "FIRST_OF_LAW" "[I" (.ref z0) B U H ∧ va_T .int z0 3 (fun j => .int (jFirst.getD j 0)) B U H) ∧ va_Nw (.fieldLinkNest RX0 49 RX3 "FIRST_OF_LAW" "[I" RX3) U ∧ va_Nw (.methodLinkNest RX3 24 yX2_init RX3) U ∧ va_Nw (.methodLinkNest RX3 39 yX1_init RX3) U ∧ va_AO RX1 U
theorem Sto.kept {z0 : Nat} {B : Nat → Prop} {U : State} {H H1 : Heap} (h : Sto z0 B U H) (hq : ∀ a : Nat, a < H.size → ¬ B a → H1[a]? = H[a]?) : Sto z0 B U H1 := ⟨⟨h.1.1.kept hq, h.1.2.kept hq⟩, h.2⟩
theorem Sto.same {z0 : Nat} {B : Nat → Prop} {u U : State} {H : Heap} (hv : U.vm = u.vm) (h : Sto z0 B u H) : Sto z0 B U H := by
  have ha : u.vm.Alike U.vm := by rw [hv]; exact Vm.Alike.refl u.vm
  exact ⟨⟨h.1.1.moved ha, h.1.2.moved ha⟩, h.2.1.same rfl hv.symm, h.2.2.1.same rfl hv.symm, h.2.2.2.1.same rfl hv.symm, h.2.2.2.2.moved ha⟩
theorem Sto.warm {z0 : Nat} {B : Nat → Prop} {u U : State} {H : Heap} (hW : u.WarmedH U.vm) (h : Sto z0 B u H) : Sto z0 B U H := by
  have ha : u.vm.Alike U.vm := hW.alike
  exact ⟨⟨h.1.1.moved ha, h.1.2.moved ha⟩, va_Nw.warmF hW h.2.1, va_Nw.warmM hW h.2.2.1, va_Nw.warmM hW h.2.2.2.1, h.2.2.2.2.moved ha⟩
theorem Sto.weak {z0 : Nat} {A B : Nat → Prop} {U : State} {H : Heap} (h : Sto z0 A U H) (hB : ∀ q, q < H.size → B q → A q) : Sto z0 B U H := by
  obtain ⟨⟨⟨cf, kf, fi, f, a, cell, h1, h2, h3, h4, h5, h6, h7, h8⟩, ⟨c2, g1, g2, g3, g4, g5, g6, g7⟩⟩, h9⟩ := h
  exact ⟨⟨⟨cf, kf, fi, f, a, cell, h1, h2, h3, h4, h5, h6, h7, fun q => h8 (hB a (Array.getElem?_eq_some_iff.mp h5).1 q)⟩, ⟨c2, g1, g2, g3, g4, g5, g6, fun q => g7 (hB z0 (Array.getElem?_eq_some_iff.mp g1).1 q)⟩⟩, h9⟩
def wA (ws : va_W) : Nat → Prop := fun q => ∃ (k : Nat) (e : va_E), ws[k]? = some (q, e)
abbrev tyE (cI cS : ClassId) : List (ClassId × FieldType) := [(cI, .int), (cS, .object RX1)]
/-- a constructor: from the one cell h0, new, to the world w u -/
def KP (D : va_G) (cI cS : ClassId) (z0 sz : Nat) (ws : va_W) (U : State) : Prop := U.heap.size = sz ∧ va_P D vwCl ws U.heap ∧ va_K D vwCl (tyE cI cS) U ∧ va_D (fun _ => True) ws ∧ Sto z0 (wA ws) U U.heap
def KQ (D : va_G) (A : Nat → Prop) (w : (Nat → Nat) → va_W) (u : Nat → Nat) (t : State) : Prop := va_P D vwCl (w u) t.heap ∧ va_D A (w u)
def CtN (l : Launch) (D : va_G) (cI cS : ClassId) (z0 : Nat) (y : MethodName) (cc : ByteArray) (mL fr lo mc ms h0 : Nat) (ws : va_W) (w : (Nat → Nat) → va_W) : Prop :=
  ∀ sz : Nat, Met l y (.code y cc mL none :: wsA) ({ frames := fr, cells := mc, slots := ms, locals := lo } : Room) (va_Pc [.ref h0] (KP D cI cS z0 sz ws)) (va_Qv (fun u : Nat → Nat => u 0 = h0) (KQ D (va_A ws sz) w) (va_A ws sz)) mc ms (va_A ws sz)
def Cy (D : va_G) (cI cS : ClassId) (z0 : Nat) (A : Nat → Prop) (p : Program) (s : State) (m : MethodId) (args : Array Value) (c : Code) (cc : ByteArray) (own : String) (nL : Nat) (w0 : Cond) : Prop :=
  p.tables.exec = Jvm.exec ∧ c.code = cc ∧ c.maxLocals = nL ∧ s.vm.findClass own = some m.cls ∧ (∀ w ∈ w0 :: wsA, w.before args s = true) ∧ va_K D vwCl (tyE cI cS) s ∧ (∀ q : Nat, s.heap.size ≤ q → A q) ∧ Sto z0 A s s.heap
def Gy (l : Launch) (D : va_G) (A : Nat → Prop) (p : Program) (e : Env) (R : Room) (s : State) (m : MethodId) (args : Array Value) (below : List Frame) (meth : Method) (c : Code) (Q : State → Prop) (nL pc : Nat) (lv : List (Nat × Value)) (st : List Value) (ws : va_W) (k n : Nat) : Prop :=
  ∀ (H : Heap) (locs : List Loc) (ls : Array Slot), va_P D vwCl ws H → va_D A ws → va_S A s.heap H locs → lv_has ls nL lv → W p l e R s m args below meth c H locs k n Q (F0 m pc ls st)
section GY
variable {l : Launch} {D : va_G} {cI cS : ClassId} {z0 : Nat} {A : Nat → Prop} {p : Program} {e : Env} {R : Room} {s : State} {m : MethodId} {args : Array Value} {below : List Frame} {meth : Method} {c : Code} {Q : State → Prop} {nL pc : Nat} {lv : List (Nat × Value)} {st : List Value} {ws : va_W} {k n : Nat} {cc : ByteArray} {own : String} {w0 : Cond}
theorem gy_ws {ws2 : va_W} (h : ws = ws2) (kk : Gy l D A p e R s m args below meth c Q nL pc lv st ws2 k n) : Gy l D A p e R s m args below meth c Q nL pc lv st ws k n := h ▸ kk
theorem gy_lv {lv' : List (Nat × Value)} (h : lv = lv') (kk : Gy l D A p e R s m args below meth c Q nL pc lv' st ws k n) : Gy l D A p e R s m args below meth c Q nL pc lv st ws k n := h ▸ kk
theorem gy_num {k' n' : Nat} (h : k = k') (h2 : n = n') (kk : Gy l D A p e R s m args below meth c Q nL pc lv st ws k' n') : Gy l D A p e R s m args below meth c Q nL pc lv st ws k n := h ▸ h2 ▸ kk
theorem gy_iconst (C : Cy D cI cS z0 A p s m args c cc own nL w0) {i : Int} {v : Int32} (d : decode cc pc = .ok (.iconst i, 1)) (hv : Int32.ofInt i = v) (kk : Gy l D A p e R s m args below meth c Q nL (pc + 1) lv (.int v :: st) ws k n) : Gy l D A p e R s m args below meth c Q nL pc lv st ws k n := fun H locs ls hP hD hS hl => lv_iconst C.1 C.2.1 d hv (kk H locs ls hP hD hS hl)
theorem gy_bipush (C : Cy D cI cS z0 A p s m args c cc own nL w0) {i : Int} {v : Int32} (d : decode cc pc = .ok (.bipush i, 2)) (hv : (Int8.ofInt i).toInt32 = v) (kk : Gy l D A p e R s m args below meth c Q nL (pc + 2) lv (.int v :: st) ws k n) : Gy l D A p e R s m args below meth c Q nL pc lv st ws k n := fun H locs ls hP hD hS hl => lv_bipush C.1 C.2.1 d hv (kk H locs ls hP hD hS hl)
theorem gy_sipush (C : Cy D cI cS z0 A p s m args c cc own nL w0) {i : Int} {v : Int32} (d : decode cc pc = .ok (.sipush i, 3)) (hv : (Int16.ofInt i).toInt32 = v) (kk : Gy l D A p e R s m args below meth c Q nL (pc + 3) lv (.int v :: st) ws k n) : Gy l D A p e R s m args below meth c Q nL pc lv st ws k n := fun H locs ls hP hD hS hl => lv_sipush C.1 C.2.1 d hv (kk H locs ls hP hD hS hl)
theorem gy_aload_n (C : Cy D cI cS z0 A p s m args c cc own nL w0) {j : Fin 4} {i x : Nat} (d : decode cc pc = .ok (.aload_n j, 1)) (hi : (j : Nat) = i) (h : lvg lv i = some (.ref x)) (kk : Gy l D A p e R s m args below meth c Q nL (pc + 1) lv (.ref x :: st) ws k n) : Gy l D A p e R s m args below meth c Q nL pc lv st ws k n := fun H locs ls hP hD hS hl => lv_aload_n C.1 C.2.1 d hi (lvg_has hl h) (kk H locs ls hP hD hS hl)
theorem gy_iload_n (C : Cy D cI cS z0 A p s m args c cc own nL w0) {j : Fin 4} {i : Nat} {x : Int32} (d : decode cc pc = .ok (.iload_n j, 1)) (hi : (j : Nat) = i) (h : lvg lv i = some (.int x)) (kk : Gy l D A p e R s m args below meth c Q nL (pc + 1) lv (.int x :: st) ws k n) : Gy l D A p e R s m args below meth c Q nL pc lv st ws k n := fun H locs ls hP hD hS hl => lv_iload_n C.1 C.2.1 d hi (lvg_has hl h) (kk H locs ls hP hD hS hl)
theorem gy_istore_n (C : Cy D cI cS z0 A p s m args c cc own nL w0) {j : Fin 4} {i : Nat} {x : Int32} {lv2 : List (Nat × Value)} (d : decode cc pc = .ok (.istore_n j, 1)) (hi : (j : Nat) = i) (hn : i < nL) (h2 : lvs lv i (.int x) = lv2) (kk : Gy l D A p e R s m args below meth c Q nL (pc + 1) lv2 st ws k n) : Gy l D A p e R s m args below meth c Q nL pc lv (.int x :: st) ws k n := fun H locs ls hP hD hS hl => lv_istore_n C.1 C.2.1 d hi hl hn h2 (fun ls hl => kk H locs ls hP hD hS hl)
theorem gy_astore_n (C : Cy D cI cS z0 A p s m args c cc own nL w0) {j : Fin 4} {i x : Nat} {lv2 : List (Nat × Value)} (d : decode cc pc = .ok (.astore_n j, 1)) (hi : (j : Nat) = i) (hn : i < nL) (h2 : lvs lv i (.ref x) = lv2) (kk : Gy l D A p e R s m args below meth c Q nL (pc + 1) lv2 st ws k n) : Gy l D A p e R s m args below meth c Q nL pc lv (.ref x :: st) ws k n := fun H locs ls hP hD hS hl => lv_astore_n C.1 C.2.1 d hi hl hn h2 (fun ls hl => kk H locs ls hP hD hS hl)
theorem gy_iinc (C : Cy D cI cS z0 A p s m args c cc own nL w0) {i : Nat} {b : Int} {x v : Int32} {lv2 : List (Nat × Value)} (d : decode cc pc = .ok (.iinc i b, 3)) (h : lvg lv i = some (.int x)) (hv : x + Int32.ofInt b = v) (hn : i < nL) (h2 : lvs lv i (.int v) = lv2) (kk : Gy l D A p e R s m args below meth c Q nL (pc + 3) lv2 st ws k n) : Gy l D A p e R s m args below meth c Q nL pc lv st ws k n := fun H locs ls hP hD hS hl => by
  obtain ⟨j, hj⟩ := lvg_idx h
  exact lv_iinc C.1 C.2.1 d hl hj hv hn h2 (fun ls hl => kk H locs ls hP hD hS hl)
theorem gy_iadd (C : Cy D cI cS z0 A p s m args c cc own nL w0) {x y v : Int32} (d : decode cc pc = .ok (.iadd, 1)) (hv : x + y = v) (kk : Gy l D A p e R s m args below meth c Q nL (pc + 1) lv (.int v :: st) ws k n) : Gy l D A p e R s m args below meth c Q nL pc lv (.int y :: .int x :: st) ws k n := by
  subst hv
  exact fun H locs ls hP hD hS hl => lv_iadd C.1 C.2.1 d (kk H locs ls hP hD hS hl)
theorem gy_dup (C : Cy D cI cS z0 A p s m args c cc own nL w0) {v : Value} (hv : v.category = 1) (d : decode cc pc = .ok (.dup, 1)) (kk : Gy l D A p e R s m args below meth c Q nL (pc + 1) lv (v :: v :: st) ws k n) : Gy l D A p e R s m args below meth c Q nL pc lv (v :: st) ws k n := fun H locs ls hP hD hS hl => lv_dup C.1 C.2.1 d hv (kk H locs ls hP hD hS hl)
theorem gy_goto (C : Cy D cI cS z0 A p s m args c cc own nL w0) {off : Int} {tgt : Nat} (d : decode cc pc = .ok (.goto off, 3)) (ht : (pc : Int) + off = (tgt : Int)) (kk : Gy l D A p e R s m args below meth c Q nL tgt lv st ws k n) : Gy l D A p e R s m args below meth c Q nL pc lv st ws k n := fun H locs ls hP hD hS hl => lv_goto C.1 C.2.1 d ht (kk H locs ls hP hD hS hl)
theorem gy_ge_t (C : Cy D cI cS z0 A p s m args c cc own nL w0) {x y : Int32} {off : Int} {tgt : Nat} (d : decode cc pc = .ok (.if_icmp .ge off, 3)) (ht : (pc : Int) + off = (tgt : Int)) (h : y ≤ x) (kk : Gy l D A p e R s m args below meth c Q nL tgt lv st ws k n) : Gy l D A p e R s m args below meth c Q nL pc lv (.int y :: .int x :: st) ws k n := fun H locs ls hP hD hS hl => lv_icmp_ge C.1 C.2.1 d ht (fun _ => kk H locs ls hP hD hS hl) (fun h2 => absurd h h2)
theorem gy_ge_f (C : Cy D cI cS z0 A p s m args c cc own nL w0) {x y : Int32} {off : Int} {tgt : Nat} (d : decode cc pc = .ok (.if_icmp .ge off, 3)) (ht : (pc : Int) + off = (tgt : Int)) (h : ¬ y ≤ x) (kk : Gy l D A p e R s m args below meth c Q nL (pc + 3) lv st ws k n) : Gy l D A p e R s m args below meth c Q nL pc lv (.int y :: .int x :: st) ws k n := fun H locs ls hP hD hS hl => lv_icmp_ge C.1 C.2.1 d ht (fun h2 => absurd h2 h) (fun _ => kk H locs ls hP hD hS hl)
theorem gy_obj (C : Cy D cI cS z0 A p s m args c cc own nL w0) {idx a : Nat} (hm : Cond.methodLink own idx objectInit ∈ wsA) (d : decode cc pc = .ok (.invokespecial idx, 3)) (hf : 1 ≤ R.frames) (hlo : (st.map fun v => v.category).sum + 12 ≤ R.locals) (kk : Gy l D A p e R s m args below meth c Q nL (pc + 3) lv st ws k n) : Gy l D A p e R s m args below meth c Q nL pc lv (.ref a :: st) ws k n := fun H locs ls hP hD hS hl =>
  W.objInit C.1 C.2.1 C.2.2.2.1 (C.2.2.2.2.1 _ (List.mem_cons_of_mem _ hm)) (C.2.2.2.2.1 _ (List.mem_cons_of_mem _ wi_objectInit)) (C.2.2.2.2.1 _ (List.mem_cons_of_mem _ wc_objectInit)) rfl (by rw [C.2.2.1]; exact hl.1) rfl d hf (by show 2 * 0 + _ + 12 ≤ _; omega) (kk H locs ls hP hD hS hl)
theorem K_int {cA : ClassId} (hK : va_K D vwCl (tyE cI cS) s) (h : va_K D vwCl (tyE cI cS ++ [(cA, .int)]) s) : cA = cI := by
  have h1 := (hK.2 0 _ rfl).2
  have h2 := (h.2 2 _ rfl).2
  exact Option.some.inj (h2.symm.trans h1)
theorem K_obj {cA : ClassId} (hK : va_K D vwCl (tyE cI cS) s) (h : va_K D vwCl (tyE cI cS ++ [(cA, .object RX1)]) s) : cA = cS := by
  obtain ⟨_, _, _, _, _, h1⟩ := (hK.2 1 _ rfl).2
  obtain ⟨_, _, _, _, _, h2⟩ := (h.2 2 _ rfl).2
  exact Option.some.inj (h2.symm.trans h1)
theorem gy_newa (C : Cy D cI cS z0 A p s m args c cc own nL w0) {x : Int32} (N' : Nat) (hx : ¬ x < 0) (hN : x.toNatClampNeg = N') (hb : N' * 4 ≤ 536870912) (hc : k + 1 ≤ R.cells) (hs : n + N' ≤ R.slots) (d : decode cc pc = .ok (.newarray .int, 2)) (kk : ∀ q : Nat, Gy l D A p e R s m args below meth c Q nL (pc + 2) lv (.ref q :: st) (ws ++ [(q, .inl (cI, N', .inl zI))]) (k + 1) (n + N')) : Gy l D A p e R s m args below meth c Q nL pc lv (.int x :: st) ws k n := fun H locs ls hP hD hS hl => by
  refine va_newa (atype := .int) (a0 := (N', .inl zI)) C.1 C.2.1 (C.2.2.2.2.1 _ (List.mem_cons_of_mem _ ac_int)) rfl C.2.2.2.2.2.1 hP hD hS C.2.2.2.2.2.2.1 (fun _ => rfl) hx hN hb hc hs d (fun q cA H1 hK1 hP1 hD1 hS1 => ?_)
  obtain rfl := K_int C.2.2.2.2.2.1 hK1
  exact kk q H1 locs ls hP1 hD1 hS1 hl
theorem gy_newq (C : Cy D cI cS z0 A p s m args c cc own nL w0) {x : Int32} {index : Nat} (N' : Nat) (hm : Cond.classLink own index RX1 ∈ wsA) (hx : ¬ x < 0) (hN : x.toNatClampNeg = N') (hb : N' * 4 ≤ 536870912) (hc : k + 1 ≤ R.cells) (hs : n + N' ≤ R.slots) (d : decode cc pc = .ok (.anewarray index, 3)) (kk : ∀ q : Nat, Gy l D A p e R s m args below meth c Q nL (pc + 3) lv (.ref q :: st) (ws ++ [(q, .inl (cS, N', .inr (.inr (.inr (.inr (fun _ => none))))))]) (k + 1) (n + N')) : Gy l D A p e R s m args below meth c Q nL pc lv (.int x :: st) ws k n := fun H locs ls hP hD hS hl => by
  refine va_newq C.1 C.2.1 C.2.2.2.1 (C.2.2.2.2.1 _ (List.mem_cons_of_mem _ hm)) C.2.2.2.2.2.2.2.2.2.2.2 C.2.2.2.2.2.1 hP hD hS C.2.2.2.2.2.2.1 hx hN hb hc hs d (fun q cA H1 hK1 hP1 hD1 hS1 => ?_)
  obtain rfl := K_obj C.2.2.2.2.2.1 hK1
  exact kk q H1 locs ls hP1 hD1 hS1 hl
theorem gy_new (C : Cy D cI cS z0 A p s m args c cc own nL w0) {ci index N : Nat} {Cn : String} {T : u_T} {ty : Nat → FieldType} (K : ckok ci Cn T N ty) (fs : List Value) (hfs : ∀ j, j < N → defaultValue (ty j) = vp_V fs j) (hm : Cond.classLink own index Cn ∈ wsA) (hi : Cond.instantiable Cn N ∈ wsA) (hz : Cond.initialized Cn ∈ wsA) (hc : k + 1 ≤ R.cells) (hs : n + N ≤ R.slots) (d : decode cc pc = .ok (.new index, 3)) (kk : ∀ q : Nat, Gy l D A p e R s m args below meth c Q nL (pc + 3) lv (.ref q :: st) (ws ++ [(q, .inr (ci, fs))]) (k + 1) (n + N)) : Gy l D A p e R s m args below meth c Q nL pc lv st ws k n := fun H locs ls hP hD hS hl =>
  va_new C.1 C.2.1 C.2.2.2.2.1 (fun w h => List.mem_cons_of_mem _ (K.2.1 w h)) ty K.2.2.1 C.2.2.2.1 (C.2.2.2.2.1 _ (List.mem_cons_of_mem _ hm)) (C.2.2.2.2.1 _ (List.mem_cons_of_mem _ hi)) (C.2.2.2.2.1 _ (List.mem_cons_of_mem _ hz)) C.2.2.2.2.2.1 hP hD hS C.2.2.2.2.2.2.1 K.1 hfs hc hs d (fun q H1 hP1 hD1 hS1 => kk q H1 locs ls hP1 hD1 hS1 hl)
theorem gy_putF (C : Cy D cI cS z0 A p s m args c cc own nL w0) {ci index N a : Nat} {Cn : String} {T : u_T} {ty : Nat → FieldType} (K : ckok ci Cn T N ty) (q0 j : Nat) {v : Value} {fs : List Value} {ws2 : va_W} (he : ws[q0]? = some (a, .inr (ci, fs))) (hj : j < N) (hm : Cond.fieldLink own index (T j).1 (T j).2.1 (T j).2.2.1 ∈ wsA) (hfin : (T j).2.2.2 = true) (hin : meth.name = "<init>") (hl9 : (T j).1 = own) (hn : narrow (ty j) v = v) (hfit : fits (ty j) v = true) (hlen : j < fs.length) (hw : ws.set q0 (a, .inr (ci, fs.set j v)) = ws2) (d : decode cc pc = .ok (.putfield index, 3)) (kk : Gy l D A p e R s m args below meth c Q nL (pc + 3) lv st ws2 k n) : Gy l D A p e R s m args below meth c Q nL pc lv (v :: .ref a :: st) ws k n := fun H locs ls hP hD hS hl => by
  subst hw
  exact va_putF C.1 C.2.1 C.2.2.2.2.1 (fun w h => List.mem_cons_of_mem _ (K.2.1 w h)) ty K.2.2.1 K.2.2.2 C.2.2.2.1 C.2.2.2.2.2.1 hP hD hS q0 he K.1 j hj (C.2.2.2.2.1 _ (List.mem_cons_of_mem _ hm)) (fun _ h9 => h9) hfin hin hl9 (K.2.2.1 j hj) hn hfit hlen d (fun H1 locs1 hP1 hD1 hS1 => kk H1 locs1 ls hP1 hD1 hS1 hl)
theorem gy_puti (C : Cy D cI cS z0 A p s m args c cc own nL w0) {ci index N a : Nat} {Cn : String} {T : u_T} {ty : Nat → FieldType} (K : ckok ci Cn T N ty) (q0 j : Nat) {v : Value} {fs : List Value} {ws2 : va_W} (he : ws[q0]? = some (a, .inr (ci, fs))) (hj : j < N) (hm : Cond.fieldLink own index (T j).1 (T j).2.1 (T j).2.2.1 ∈ wsA) (hfin : (T j).2.2.2 = false) (hn : narrow (ty j) v = v) (hfit : fits (ty j) v = true) (hlen : j < fs.length) (hw : ws.set q0 (a, .inr (ci, fs.set j v)) = ws2) (d : decode cc pc = .ok (.putfield index, 3)) (kk : Gy l D A p e R s m args below meth c Q nL (pc + 3) lv st ws2 k n) : Gy l D A p e R s m args below meth c Q nL pc lv (v :: .ref a :: st) ws k n := fun H locs ls hP hD hS hl => by
  subst hw
  exact va_put C.1 C.2.1 C.2.2.2.2.1 (fun w h => List.mem_cons_of_mem _ (K.2.1 w h)) ty K.2.2.1 K.2.2.2 C.2.2.2.1 C.2.2.2.2.2.1 hP hD hS q0 he K.1 j hj (C.2.2.2.2.1 _ (List.mem_cons_of_mem _ hm)) (fun _ h9 => h9) hfin (K.2.2.1 j hj) hn hfit hlen d (fun H1 locs1 hP1 hD1 hS1 => kk H1 locs1 ls hP1 hD1 hS1 hl)
theorem gy_get (C : Cy D cI cS z0 A p s m args c cc own nL w0) {ci index N a : Nat} {Cn : String} {T : u_T} {ty : Nat → FieldType} (K : ckok ci Cn T N ty) (q0 j : Nat) {v : Value} {fs : List Value} (he : ws[q0]? = some (a, .inr (ci, fs))) (hj : j < N) (hm : Cond.fieldLink own index (T j).1 (T j).2.1 (T j).2.2.1 ∈ wsA) (hv : fs[j]? = some v) (d : decode cc pc = .ok (.getfield index, 3)) (kk : Gy l D A p e R s m args below meth c Q nL (pc + 3) lv (v :: st) ws k n) : Gy l D A p e R s m args below meth c Q nL pc lv (.ref a :: st) ws k n := fun H locs ls hP hD hS hl =>
  va_get C.1 C.2.1 C.2.2.2.2.1 (fun w h => List.mem_cons_of_mem _ (K.2.1 w h)) C.2.2.2.1 C.2.2.2.2.2.1 hP q0 he K.1 j hj (C.2.2.2.2.1 _ (List.mem_cons_of_mem _ hm)) (fun _ h9 => h9) (v := v) hv d (kk H locs ls hP hD hS hl)
theorem gy_iast (C : Cy D cI cS z0 A p s m args c cc own nL w0) (q0 j : Nat) {a N : Nat} {x v : Int32} {f : Nat → Int32} {ws2 : va_W} (he : ws[q0]? = some (a, .inl (cI, N, .inl f))) (hx : vp_in x N) (hj : x.toNatClampNeg = j) (hw : ws.set q0 (a, .inl (cI, N, .inl (upd f j v))) = ws2) (d : decode cc pc = .ok (.iastore, 1)) (kk : Gy l D A p e R s m args below meth c Q nL (pc + 1) lv st ws2 k n) : Gy l D A p e R s m args below meth c Q nL pc lv (.int v :: .int x :: .ref a :: st) ws k n := fun H locs ls hP hD hS hl => by
  subst hw
  subst hj
  exact va_iast C.1 C.2.1 C.2.2.2.2.2.1 hP hD hS q0 0 he rfl hx d (fun H1 locs1 hP1 hD1 hS1 => kk H1 locs1 ls hP1 hD1 hS1 hl)
theorem gy_aast (C : Cy D cI cS z0 A p s m args c cc own nL w0) (q0 qk j : Nat) {a N v : Nat} {x : Int32} {vs : List Value} {f : Nat → Option Nat} {ws2 : va_W} (he : ws[q0]? = some (a, .inl (cS, N, .inr (.inr (.inr (.inr f)))))) (hv : ws[qk]? = some (v, .inr (1, vs))) (hx : vp_in x N) (hj : x.toNatClampNeg = j) (hw : ws.set q0 (a, .inl (cS, N, .inr (.inr (.inr (.inr (va_up f j (some v))))))) = ws2) (d : decode cc pc = .ok (.aastore, 1)) (kk : Gy l D A p e R s m args below meth c Q nL (pc + 1) lv st ws2 k n) : Gy l D A p e R s m args below meth c Q nL pc lv (.ref v :: .int x :: .ref a :: st) ws k n := fun H locs ls hP hD hS hl => by
  subst hw
  subst hj
  exact va_astq (r := (RX1, TX1, 3)) C.1 C.2.1 C.2.2.2.2.2.1 hP hD hS q0 1 qk 1 he rfl hv rfl hx d (fun H1 locs1 hP1 hD1 hS1 => kk H1 locs1 ls hP1 hD1 hS1 hl)
theorem gy_first (C : Cy D cI cS z0 A p s m args c cc RX0 nL w0) (d : decode cc pc = .ok (.getstatic 49, 3)) (kk : Gy l D A p e R s m args below meth c Q nL (pc + 3) lv (.ref z0 :: st) ws k n) : Gy l D A p e R s m args below meth c Q nL pc lv st ws k n := fun H locs ls hP hD hS hl =>
  va_getsN C.1 C.2.1 C.2.2.2.2.2.2.2.1.1 hS C.2.2.2.1 (va_Nw.use rfl C.2.2.2.2.2.2.2.2.1) (fun _ h => h) d (kk H locs ls hP hD hS hl)
theorem gy_fld (C : Cy D cI cS z0 A p s m args c cc own nL w0) (j : Nat) {x v : Int32} (hx : vp_in x 3) (hj : x.toNatClampNeg = j) (hv : jFirst.getD j 0 = v) (d : decode cc pc = .ok (.iaload, 1)) (kk : Gy l D A p e R s m args below meth c Q nL (pc + 1) lv (.int v :: st) ws k n) : Gy l D A p e R s m args below meth c Q nL pc lv (.int x :: .ref z0 :: st) ws k n := fun H locs ls hP hD hS hl =>
  va_ti C.1 C.2.1 C.2.2.2.2.2.2.2.1.2 hS hx (by rw [hj, hv]) d (kk H locs ls hP hD hS hl)
theorem blindK {h0 sz : Nat} : FrameBlind (va_Pc [.ref h0] (KP D cI cS z0 sz ws)) := by
  intro a U g mk q
  obtain ⟨q0, q1, qP, qK, qD, qZ⟩ := q
  exact ⟨q0, q1, qP, va_K.moved (u := U) (U := U.calling g mk a) (Vm.Alike.refl U.vm) qK, qD, Sto.same (u := U) (U := U.calling g mk a) rfl qZ⟩
theorem preK (C : Cy D cI cS z0 A p s m args c cc own nL w0) {H : Heap} {locs : List Loc} {h0 : Nat} {wc : va_W} (hP : va_P D vwCl wc H) (hD : va_D A wc) (hS : va_S A s.heap H locs) : ∀ U : State, U.heap = H → s.WarmedH U.vm → va_Pc [.ref h0] (KP D cI cS z0 H.size wc) ([.ref h0] : List Value).toArray U := by
  intro U hU hW
  refine ⟨rfl, by rw [hU], by rw [hU]; exact hP, va_K.moved hW.alike C.2.2.2.2.2.1, hD.weaken (fun _ _ _ _ => trivial), ?_⟩
  rw [hU]
  refine Sto.warm hW (Sto.weak (C.2.2.2.2.2.2.2.kept (fun a h1 h2 => hS.2.1 a h1 h2)) (fun q _ h => ?_))
  obtain ⟨k, e, h⟩ := h
  exact hD.2 k _ h
/-- a constructor's call on the cell h0 -/
theorem gy_callI (C : Cy D cI cS z0 A p s m args c cc own nL w0) {y : MethodName} {cy : ByteArray} {mL fr lo mc ms h0 index : Nat} {x : va_E} {w : (Nat → Nat) → va_W} {wr : va_W} (h : CtN l D cI cS z0 y cy mL fr lo mc ms h0 [(h0, x)] w) (ic : Nat) (isR : List Nat) (hC : [ic].map (fun i => ws[i]?) = [(h0, x)].map some) (hRR : isR.map (fun i => ws[i]?) = wr.map some) (hnd : va_nd isR = true) (hdis : ∀ i ∈ isR, i ∉ [ic])
    (hy : y.name = "<init>") (hi : Cond.instanceMethod y ∈ wsA) (hco : Cond.code y cy mL none ∈ wsA) (hz : Cond.initialized y.cls ∈ wsA) (hl1 : Cond.methodLink own index y ∈ wsA ∨ ∃ host, va_Nw (.methodLinkNest own index y host) s) (hyc : y.cls ≠ "java/lang/invoke/MethodHandle" ∧ y.cls ≠ "java/lang/invoke/VarHandle" ∧ (parseMethodDescriptor y.desc).map (fun d => d.parameters.length) = some 0)
    (hc : (st.map fun v => v.category).sum ≤ 8) (hR : fr + 1 ≤ R.frames ∧ 8 + (mL + 11) + lo ≤ R.locals) (hf : k + mc ≤ R.cells ∧ n + ms ≤ R.slots) (d : decode cc pc = .ok (.invokespecial index, 3)) (kk : ∀ u : Nat → Nat, u 0 = h0 → Gy l D A p e R s m args below meth c Q nL (pc + 3) lv st (wr ++ w u) (k + mc) (n + ms)) : Gy l D A p e R s m args below meth c Q nL pc lv (.ref h0 :: st) ws k n := fun H locs ls hP hD hS hl => by
  have hPc : va_P D vwCl [(h0, x)] H := fun k q hk => by
    cases k with
    | zero =>
      have e1 : ws[ic]? = some (h0, x) := (List.cons.inj hC).1
      exact hP ic q (e1.trans (by simpa using hk))
    | succ k => simp at hk
  have hDc : va_D A [(h0, x)] := hD.sub [ic] rfl hC
  have hFc := va_free (wc := [(h0, x)]) hD hS C.2.2.2.2.2.2.1 [ic] hC
  have key : va_Run p l e R s m args below meth c H locs k n mc ms (F0 m pc ls (.ref h0 :: st)) st (va_Qv (fun u : Nat → Nat => u 0 = h0) (KQ D (va_A [(h0, x)] H.size) w) (va_A [(h0, x)] H.size) (([.ref h0] : List Value).toArray)) (va_A [(h0, x)] H.size) := by
    rcases hl1 with hl1 | ⟨host, hl1⟩
    · exact va_runI (As := []) (rest := st) ⟨C.1, C.2.1, C.2.2.1, C.2.2.2.1, C.2.2.2.2.1⟩ (h H.size) ⟨callB_of 0 C.2.2.2.2.1 (gw_all hco) rfl rfl rfl (C.2.2.2.2.1 _ (List.mem_cons_of_mem _ hz)) (C.2.2.2.2.1 _ (List.mem_cons_of_mem _ hl1)) hyc hR, hy, C.2.2.2.2.1 _ (List.mem_cons_of_mem _ hi)⟩ ⟨blindK, preK C hPc hDc hS⟩ rfl rfl hl.1 rfl (lv_room hc) d hf
    · exact va_runIN (As := []) (rest := st) ⟨C.1, C.2.1, C.2.2.1, C.2.2.2.1, C.2.2.2.2.1⟩ (h H.size) ⟨va_cnB 0 C.2.2.2.2.1 (gw_all hco) rfl rfl rfl hl1 (C.2.2.2.2.1 _ (List.mem_cons_of_mem _ hz)) hyc hR, hy, C.2.2.2.2.1 _ (List.mem_cons_of_mem _ hi)⟩ ⟨blindK, preK C hPc hDc hS⟩ rfl rfl hl.1 rfl (lv_room hc) d hf
  refine va_callv key hS (fun q _ h => hFc q h) hFc (fun u t H1 locs1 ht hvm hw hB hz1 hk1 hS1 => ?_)
  obtain ⟨hP1, hD1⟩ := hB
  rw [ht] at hP1
  obtain ⟨hP2, hD2⟩ := va_join (wr := wr) (w1 := w u) hP hD [ic] isR hC hRR hnd hdis hk1 hFc hP1 hD1
  exact kk u hw H1 locs1 ls hP2 hD2 hS1 hl
theorem gy_vret {ws0 : va_W} (C : Cy D cI cS z0 (va_A ws0 s.heap.size) p s m args c cc own nL w0) {h0 : Nat} {w : (Nat → Nat) → va_W} (u : Nat → Nat) (hu : u 0 = h0) (hr : meth.sig.returnType = none) (hlk : meth.locks = false) (hQ : ∀ H, va_P D vwCl ws H → va_D (va_A ws0 s.heap.size) ws → va_P D vwCl (w u) H ∧ va_D (va_A ws0 s.heap.size) (w u)) (d : decode cc pc = .ok (.return_, 1)) : Gy l D (va_A ws0 s.heap.size) p e R s m args below meth c (MQ below (va_Qv (fun u : Nat → Nat => u 0 = h0) (KQ D (va_A ws0 s.heap.size) w) (va_A ws0 s.heap.size)) args s k n (va_A ws0 s.heap.size)) nL pc lv [] ws k n := fun H locs ls hP hD hS hl =>
  W.vret C.1 C.2.1 hr (fun t ht hW => ⟨⟨u, rfl, hu, by unfold KQ; rw [ht]; exact hQ H hP hD⟩, hS.F ht⟩) hS.2.2 d hlk
end GY
theorem CtN.of {l : Launch} {D : va_G} {cI cS : ClassId} {z0 : Nat} {y : MethodName} {cc : ByteArray} {mL fr lo mc ms h0 : Nat} {x : va_E} {w : (Nat → Nat) → va_W} (hy : plainName y.cls = true) (hi : y.name = "<init>") (hn : 1 ≤ mL)
    (h : ∀ (p : Program) (e : Env) (s : State) (m : MethodId) (below : List Frame) (meth : Method) (c : Code), Cy D cI cS z0 (va_A [(h0, x)] s.heap.size) p s m ([.ref h0] : List Value).toArray c cc y.cls mL (.code y cc mL none) → meth.sig.returnType = none → meth.locks = false → meth.name = "<init>" → Gy l D (va_A [(h0, x)] s.heap.size) p e ({ frames := fr, cells := mc, slots := ms, locals := lo } : Room) s m ([.ref h0] : List Value).toArray below meth c (MQ below (va_Qv (fun u : Nat → Nat => u 0 = h0) (KQ D (va_A [(h0, x)] s.heap.size) w) (va_A [(h0, x)] s.heap.size)) ([.ref h0] : List Value).toArray s mc ms (va_A [(h0, x)] s.heap.size)) mL 0 [(0, .ref h0)] [] [(h0, x)] 0 0) : CtN l D cI cS z0 y cc mL fr lo mc ms h0 [(h0, x)] w := by
  intro sz
  refine Met.ofW (cc := cc) (maxL := mL) (ret := none) hy rfl ?_
  intro p e s m args below meth c s₁ B hml hv
  obtain ⟨rfl, hsz, hP, hK, hD0, hZ⟩ := hv
  subst hsz
  have hin : meth.name = "<init>" := by rw [← hi]; exact (name_of_methodNamed B.named B.method).1
  have hC : Cy D cI cS z0 (va_A [(h0, x)] s.heap.size) p s m ([.ref h0] : List Value).toArray c cc y.cls mL (.code y cc mL none) := ⟨B.exec, B.bytes, hml, findClass_of_methodNamed B.named, atoms_spec (ws := .code y cc mL none :: wsA) B.pre, hK, fun q h => Or.inr h, hZ.weak (fun q h1 h2 => h2.elim (fun ⟨k, e, h⟩ => ⟨k, e, h⟩) (fun h3 => absurd h1 (by omega)))⟩
  have hl := lv_entry ([.ref h0] : List Value) (n := mL) hn
  rw [lg_entry_eq]
  exact h p e s m below meth c hC B.returns B.notSynchronized hin s.heap [] _ hP hD0.self va_S.rf hl
