def jOwn : List (String × Nat × String) := [(RX2, 32, "rank"), (RX2, 85, "seats"), (RX2, 122, "law"), (RX2, 124, "parts"), (RX2, 126, "price"), (RX2, 128, "person"), (RX2, 130, "loyal"), (RX2, 132, "bought"), (RX2, 134, "sly"), (RX2, 136, "kin"), (RX2, 138, "plotter"), (RX2, 140, "hermit"), (RX2, 93, "in"), (RX2, 102, "age"), (RX2, 110, "house"), (RX2, 114, "gold"), (RX2, 118, "grudge"), (RX4, 273, "rank"), (RX4, 271, "seats"), (RX4, 278, "law"), (RX4, 283, "parts"), (RX4, 285, "price"), (RX4, 241, "person"), (RX4, 243, "loyal"), (RX4, 245, "bought"), (RX4, 247, "sly"), (RX4, 249, "kin"), (RX4, 251, "plotter"), (RX4, 253, "hermit"), (RX4, 255, "in"), (RX4, 263, "age"), (RX4, 265, "house"), (RX4, 267, "gold"), (RX4, 269, "grudge")]
def jByt : List (List Int32) := [[114, 97, 110, 107], [115, 101, 97, 116, 115], [108, 97, 119], [112, 97, 114, 116, 115], [112, 114, 105, 99, 101], [112, 101, 114, 115, 111, 110], [108, 111, 121, 97, 108], [98, 111, 117, 103, 104, 116], [115, 108, 121], [107, 105, 110], [112, 108, 111, 116, 116, 101, 114], [104, 101, 114, 109, 105, 116], [105, 110], [97, 103, 101], [104, 111, 117, 115, 101], [103, 111, 108, 100], [103, 114, 117, 100, 103, 101], [114, 97, 110, 107], [115, 101, 97, 116, 115], [108, 97, 119], [112, 97, 114, 116, 115], [112, 114, 105, 99, 101], [112, 101, 114, 115, 111, 110], [108, 111, 121, 97, 108], [98, 111, 117, 103, 104, 116], [115, 108, 121], [107, 105, 110], [112, 108, 111, 116, 116, 101, 114], [104, 101, 114, 109, 105, 116], [105, 110], [97, 103, 101], [104, 111, 117, 115, 101], [103, 111, 108, 100], [103, 114, 117, 100, 103, 101]]
def jUnder : List Int32 := [-1, 0, 0, 2, 1, 0, 1]
def jLeast : List Int32 := [0, 1, 0]
def jMost : List Int32 := [2, 5, 999]
def jTxt (E : En) (B : Nat → Prop) (U : State) (H : Heap) (i : Nat) : Prop := va_O "java/lang/String" (eZ E (100 + i)) B U H ∧ va_OF "java/lang/String" "coder" "B" (.int 0) (eZ E (100 + i)) B U H ∧ va_OF "java/lang/String" "value" "[B" (.ref (eZ E (200 + i))) (eZ E (100 + i)) B U H ∧ va_T .byte (eZ E (200 + i)) (jByt.getD i []).length (fun j => .int ((jByt.getD i []).getD j 0)) B U H
/-- nest mates' links -/
def jNest (U : State) : Prop := va_Nw (.methodLinkNest RX0 84 yX3_isRank RX3) U ∧ va_Nw (.methodLinkNest RX0 104 yX3_isOfKind RX3) U ∧ va_Nw (.methodLinkNest RX2 45 yX3_isWithin RX3) U ∧ va_Nw (.methodLinkNest RX2 67 yX3_isKind RX3) U ∧ va_Nw (.fieldLinkNest RX2 54 RX3 "LEAST_OF_LAW" "[I" RX3) U ∧ va_Nw (.fieldLinkNest RX2 57 RX3 "MOST_OF_LAW" "[I" RX3) U
/-- what lies outside the world and never changes: static arrays, texts, links -/
def Stc (E : En) (B : Nat → Prop) (U : State) (H : Heap) : Prop :=
  (va_Z RX3 "UNDER" "[I" (.ref (eZ E 0)) B U H ∧ va_T .int (eZ E 0) 7 (fun j => .int (jUnder.getD j 0)) B U H) ∧
  (va_Z RX3 "LEAST_OF_LAW" "[I" (.ref (eZ E 1)) B U H ∧ va_T .int (eZ E 1) 3 (fun j => .int (jLeast.getD j 0)) B U H) ∧
  (va_Z RX3 "MOST_OF_LAW" "[I" (.ref (eZ E 2)) B U H ∧ va_T .int (eZ E 2) 3 (fun j => .int (jMost.getD j 0)) B U H) ∧
  va_Z "java/lang/String" "COMPACT_STRINGS" "Z" (.int 1) B U H ∧ va_Zq "jdk/internal/util/Preconditions" "SIOOBE_FORMATTER" "Ljava/util/function/BiFunction;" B U H ∧
  (∀ i, i < 34 → jTxt E B U H i) ∧ (∀ (i : Nat) (q : String × Nat × String), jOwn[i]? = some q → vk_R q.1 q.2.1 q.2.2 (eZ E (100 + i)) U) ∧ jNest U
theorem jTxt.moved {E : En} {B : Nat → Prop} {u U : State} {H : Heap} {i : Nat} (hv : u.vm.Alike U.vm) (h : jTxt E B u H i) : jTxt E B U H i := ⟨h.1.moved hv, h.2.1.moved hv, h.2.2.1.moved hv, h.2.2.2.moved hv⟩
theorem jTxt.kept {E : En} {B : Nat → Prop} {U : State} {H H1 : Heap} {i : Nat} (h : jTxt E B U H i) (hq : ∀ a : Nat, a < H.size → ¬ B a → H1[a]? = H[a]?) : jTxt E B U H1 i := ⟨h.1.kept hq, h.2.1.kept hq, h.2.2.1.kept hq, h.2.2.2.kept hq⟩
theorem Stc.kept {E : En} {B : Nat → Prop} {U : State} {H H1 : Heap} (h : Stc E B U H) (hq : ∀ a : Nat, a < H.size → ¬ B a → H1[a]? = H[a]?) : Stc E B U H1 := by
  obtain ⟨⟨a1, a2⟩, ⟨b1, b2⟩, ⟨c1, c2⟩, d, f, g, k, n⟩ := h
  exact ⟨⟨a1.kept hq, a2.kept hq⟩, ⟨b1.kept hq, b2.kept hq⟩, ⟨c1.kept hq, c2.kept hq⟩, d.kept hq, f.kept hq, fun i hi => (g i hi).kept hq, k, n⟩
theorem Stc.same {E : En} {B : Nat → Prop} {u U : State} {H : Heap} (hv : U.vm = u.vm) (h : Stc E B u H) : Stc E B U H := by
  have ha : u.vm.Alike U.vm := by rw [hv]; exact Vm.Alike.refl u.vm
  obtain ⟨⟨a1, a2⟩, ⟨b1, b2⟩, ⟨c1, c2⟩, d, f, g, k, n⟩ := h
  refine ⟨⟨a1.moved ha, a2.moved ha⟩, ⟨b1.moved ha, b2.moved ha⟩, ⟨c1.moved ha, c2.moved ha⟩, d.moved ha, f.moved ha, fun i hi => (g i hi).moved ha, fun i q hq => (k i q hq).same hv, ?_⟩
  exact ⟨n.1.same rfl hv.symm, n.2.1.same rfl hv.symm, n.2.2.1.same rfl hv.symm, n.2.2.2.1.same rfl hv.symm, n.2.2.2.2.1.same rfl hv.symm, n.2.2.2.2.2.same rfl hv.symm⟩
theorem Stc.warm {E : En} {B : Nat → Prop} {u U : State} {H : Heap} (hW : u.WarmedH U.vm) (h : Stc E B u H) : Stc E B U H := by
  have ha : u.vm.Alike U.vm := hW.alike
  obtain ⟨⟨a1, a2⟩, ⟨b1, b2⟩, ⟨c1, c2⟩, d, f, g, k, n⟩ := h
  refine ⟨⟨a1.moved ha, a2.moved ha⟩, ⟨b1.moved ha, b2.moved ha⟩, ⟨c1.moved ha, c2.moved ha⟩, d.moved ha, f.moved ha, fun i hi => (g i hi).moved ha, fun i q hq => (k i q hq).warm hW, ?_⟩
  exact ⟨va_Nw.warmM hW n.1, va_Nw.warmM hW n.2.1, va_Nw.warmM hW n.2.2.1, va_Nw.warmM hW n.2.2.2.1, va_Nw.warmF hW n.2.2.2.2.1, va_Nw.warmF hW n.2.2.2.2.2⟩
/-- the start of a call: the world holds σ -/
def WP (E : En) (sz : Nat) (σ : Mm) (U : State) : Prop := U.heap.size = sz ∧ va_P (eD E) vwCl (wd E σ) U.heap ∧ va_K (eD E) vwCl (tysE E) U ∧ va_D (fun _ => True) (wd E σ) ∧ Stc E (AW E) U U.heap
def WQ (E : En) (σ : Mm) (t : State) : Prop := va_P (eD E) vwCl (wd E σ) t.heap
abbrev rmF (fr lo : Nat) : Room := { frames := fr, cells := 0, slots := 0, locals := lo }
def CtI (E : En) (y : MethodName) (cc : ByteArray) (mL : Nat) (ret : Option FieldType) (fr lo : Nat) (av : List Value) (σ : Mm) (post : Int32 → Mm → Prop) : Prop :=
  ∀ sz : Nat, Met (eL E) y (.code y cc mL ret :: wsA) (rmF fr lo) (va_Pc av (WP E sz σ)) (va_Qi post (WQ E) (AA E sz)) 0 0 (AA E sz)
def CtV (E : En) (y : MethodName) (cc : ByteArray) (mL : Nat) (ret : Option FieldType) (fr lo : Nat) (av : List Value) (σ : Mm) (post : Mm → Prop) : Prop :=
  ∀ sz : Nat, Met (eL E) y (.code y cc mL ret :: wsA) (rmF fr lo) (va_Pc av (WP E sz σ)) (va_Qv post (WQ E) (AA E sz)) 0 0 (AA E sz)
def CtR (E : En) (y : MethodName) (cc : ByteArray) (mL : Nat) (ret : Option FieldType) (fr lo : Nat) (av : List Value) (σ : Mm) (post : Option Nat → Mm → Prop) : Prop :=
  ∀ sz : Nat, Met (eL E) y (.code y cc mL ret :: wsA) (rmF fr lo) (va_Pc av (WP E sz σ)) (va_Qq post (WQ E) (AA E sz)) 0 0 (AA E sz)
/-- what a method's body stands on -/
def Cx (E : En) (p : Program) (s : State) (m : MethodId) (args : Array Value) (c : Code) (cc : ByteArray) (own : String) (nL : Nat) (w0 : Cond) : Prop :=
  p.tables.exec = Jvm.exec ∧ c.code = cc ∧ c.maxLocals = nL ∧ s.vm.findClass own = some m.cls ∧ (∀ w ∈ w0 :: wsA, w.before args s = true) ∧ va_K (eD E) vwCl (tysE E) s ∧ (∀ σ : Mm, va_D (AA E s.heap.size) (wd E σ)) ∧ Stc E (AW E) s s.heap
/-- from any heap that holds σ, and any locals lv: the machine at pc comes to its end -/
def Gx (E : En) (p : Program) (e : Env) (R : Room) (s : State) (m : MethodId) (args : Array Value) (below : List Frame) (meth : Method) (c : Code) (Q : State → Prop) (nL pc : Nat) (lv : List (Nat × Value)) (st : List Value) (σ : Mm) : Prop :=
  ∀ (H : Heap) (locs : List Loc) (ls : Array Slot), va_P (eD E) vwCl (wd E σ) H → va_S (AA E s.heap.size) s.heap H locs → lv_has ls nL lv → W p (eL E) e R s m args below meth c H locs 0 0 Q (F0 m pc ls st)
/-- a local by its place -/
def lvg : List (Nat × Value) → Nat → Option Value
  | [], _ => none
  | q :: t, i => if q.1 = i then some q.2 else lvg t i
theorem lvg_has {ls : Array Slot} {nL : Nat} : ∀ {lv : List (Nat × Value)} {i : Nat} {v : Value}, lv_has ls nL lv → lvg lv i = some v → ls[i]? = some (.val v) := by
  intro lv i v h hv
  have key : ∀ (l : List (Nat × Value)), lvg l i = some v → (i, v) ∈ l := by
    intro l
    induction l with
    | nil => intro h; simp [lvg] at h
    | cons q t ih =>
      intro h
      simp only [lvg] at h
      by_cases hq : q.1 = i
      · rw [if_pos hq] at h
        have : q = (i, v) := by rw [← hq, ← Option.some.inj h]
        rw [this]; exact List.mem_cons_self
      · rw [if_neg hq] at h
        exact List.mem_cons_of_mem _ (ih h)
  exact h.2.2 (i, v) (key lv hv)
def lvs (lv : List (Nat × Value)) (i : Nat) (v : Value) : List (Nat × Value) := (i, v) :: lv.filter (fun q => !(q.1 == i) && !(q.1 + 1 == i && q.2.category == 2))
section GX
variable {E : En} {p : Program} {e : Env} {R : Room} {s : State} {m : MethodId} {args : Array Value} {below : List Frame} {meth : Method} {c : Code} {Q : State → Prop} {nL pc : Nat} {lv : List (Nat × Value)} {st : List Value} {σ : Mm} {cc : ByteArray} {own : String} {w0 : Cond}
theorem gx_lv {lv' : List (Nat × Value)} (h : lv = lv') (k : Gx E p e R s m args below meth c Q nL pc lv' st σ) : Gx E p e R s m args below meth c Q nL pc lv st σ := h ▸ k
theorem gx_st {st' : List Value} (h : st = st') (k : Gx E p e R s m args below meth c Q nL pc lv st' σ) : Gx E p e R s m args below meth c Q nL pc lv st σ := h ▸ k
theorem gx_mm {σ' : Mm} (h : σ = σ') (k : Gx E p e R s m args below meth c Q nL pc lv st σ') : Gx E p e R s m args below meth c Q nL pc lv st σ := h ▸ k
theorem gx_sub (ks : List Nat) {lv' : List (Nat × Value)} (hl : lv_pick lv ks = lv') (k : Gx E p e R s m args below meth c Q nL pc lv' st σ) : Gx E p e R s m args below meth c Q nL pc lv st σ := fun H locs ls hP hS h => k H locs ls hP hS (lv_sub h ks hl)
theorem gx_iconst (C : Cx E p s m args c cc own nL w0) {n : Int} {v : Int32} (d : decode cc pc = .ok (.iconst n, 1)) (hv : Int32.ofInt n = v) (k : Gx E p e R s m args below meth c Q nL (pc + 1) lv (.int v :: st) σ) : Gx E p e R s m args below meth c Q nL pc lv (st) σ := fun H locs ls hP hS hl => lv_iconst C.1 C.2.1 d hv (k H locs ls hP hS hl)
theorem gx_bipush (C : Cx E p s m args c cc own nL w0) {n : Int} {v : Int32} (d : decode cc pc = .ok (.bipush n, 2)) (hv : (Int8.ofInt n).toInt32 = v) (k : Gx E p e R s m args below meth c Q nL (pc + 2) lv (.int v :: st) σ) : Gx E p e R s m args below meth c Q nL pc lv (st) σ := fun H locs ls hP hS hl => lv_bipush C.1 C.2.1 d hv (k H locs ls hP hS hl)
theorem gx_sipush (C : Cx E p s m args c cc own nL w0) {n : Int} {v : Int32} (d : decode cc pc = .ok (.sipush n, 3)) (hv : (Int16.ofInt n).toInt32 = v) (k : Gx E p e R s m args below meth c Q nL (pc + 3) lv (.int v :: st) σ) : Gx E p e R s m args below meth c Q nL pc lv (st) σ := fun H locs ls hP hS hl => lv_sipush C.1 C.2.1 d hv (k H locs ls hP hS hl)
theorem gx_ldc (C : Cx E p s m args c cc own nL w0) {index : Nat} {v : Int32} (hm : Cond.constant own index v ∈ wsA) (d : decode cc pc = .ok (.ldc index, 2)) (k : Gx E p e R s m args below meth c Q nL (pc + 2) lv (.int v :: st) σ) : Gx E p e R s m args below meth c Q nL pc lv (st) σ := fun H locs ls hP hS hl => lv_ldc C.1 C.2.1 C.2.2.2.1 (C.2.2.2.2.1 _ (List.mem_cons_of_mem _ hm)) d (k H locs ls hP hS hl)
theorem gx_ldcw (C : Cx E p s m args c cc own nL w0) {index : Nat} {v : Int32} (hm : Cond.constant own index v ∈ wsA) (d : decode cc pc = .ok (.ldc_w index, 3)) (k : Gx E p e R s m args below meth c Q nL (pc + 3) lv (.int v :: st) σ) : Gx E p e R s m args below meth c Q nL pc lv (st) σ := fun H locs ls hP hS hl => lv_ldcw C.1 C.2.1 C.2.2.2.1 (C.2.2.2.2.1 _ (List.mem_cons_of_mem _ hm)) d (k H locs ls hP hS hl)
theorem gx_ldc2 (C : Cx E p s m args c cc own nL w0) {index : Nat} {v : Int64} (hm : Cond.constantLong own index v ∈ wsA) (d : decode cc pc = .ok (.ldc2_w index, 3)) (k : Gx E p e R s m args below meth c Q nL (pc + 3) lv (.long v :: st) σ) : Gx E p e R s m args below meth c Q nL pc lv (st) σ := fun H locs ls hP hS hl => lv_ldc2 C.1 C.2.1 C.2.2.2.1 (C.2.2.2.2.1 _ (List.mem_cons_of_mem _ hm)) d (k H locs ls hP hS hl)
theorem gx_lconst (C : Cx E p s m args c cc own nL w0) {n : Fin 2} {v : Int64} (d : decode cc pc = .ok (.lconst n, 1)) (hv : Int64.ofNat (n : Nat) = v) (k : Gx E p e R s m args below meth c Q nL (pc + 1) lv (.long v :: st) σ) : Gx E p e R s m args below meth c Q nL pc lv (st) σ := fun H locs ls hP hS hl => lv_lconst C.1 C.2.1 d hv (k H locs ls hP hS hl)
theorem gx_null (C : Cx E p s m args c cc own nL w0) (d : decode cc pc = .ok (.aconst_null, 1)) (k : Gx E p e R s m args below meth c Q nL (pc + 1) lv (.null :: st) σ) : Gx E p e R s m args below meth c Q nL pc lv (st) σ := fun H locs ls hP hS hl => lv_null C.1 C.2.1 d (k H locs ls hP hS hl)
theorem gx_iload_n (C : Cx E p s m args c cc own nL w0) {j : Fin 4} {i : Nat} {x : Int32} (d : decode cc pc = .ok (.iload_n j, 1)) (hi : (j : Nat) = i) (h : lvg lv i = some (.int x)) (k : Gx E p e R s m args below meth c Q nL (pc + 1) lv (.int x :: st) σ) : Gx E p e R s m args below meth c Q nL pc lv (st) σ := fun H locs ls hP hS hl => lv_iload_n C.1 C.2.1 d hi (lvg_has hl h) (k H locs ls hP hS hl)
theorem gx_iload (C : Cx E p s m args c cc own nL w0) {i : Nat} {x : Int32} (d : decode cc pc = .ok (.iload i, 2)) (h : lvg lv i = some (.int x)) (k : Gx E p e R s m args below meth c Q nL (pc + 2) lv (.int x :: st) σ) : Gx E p e R s m args below meth c Q nL pc lv (st) σ := fun H locs ls hP hS hl => lv_iload C.1 C.2.1 d (lvg_has hl h) (k H locs ls hP hS hl)
theorem gx_aload_n (C : Cx E p s m args c cc own nL w0) {j : Fin 4} {i : Nat} {x : Nat} (d : decode cc pc = .ok (.aload_n j, 1)) (hi : (j : Nat) = i) (h : lvg lv i = some (.ref x)) (k : Gx E p e R s m args below meth c Q nL (pc + 1) lv (.ref x :: st) σ) : Gx E p e R s m args below meth c Q nL pc lv (st) σ := fun H locs ls hP hS hl => lv_aload_n C.1 C.2.1 d hi (lvg_has hl h) (k H locs ls hP hS hl)
theorem gx_aload (C : Cx E p s m args c cc own nL w0) {i : Nat} {x : Nat} (d : decode cc pc = .ok (.aload i, 2)) (h : lvg lv i = some (.ref x)) (k : Gx E p e R s m args below meth c Q nL (pc + 2) lv (.ref x :: st) σ) : Gx E p e R s m args below meth c Q nL pc lv (st) σ := fun H locs ls hP hS hl => lv_aload C.1 C.2.1 d (lvg_has hl h) (k H locs ls hP hS hl)
theorem gx_lload_n (C : Cx E p s m args c cc own nL w0) {j : Fin 4} {i : Nat} {x : Int64} (d : decode cc pc = .ok (.lload_n j, 1)) (hi : (j : Nat) = i) (h : lvg lv i = some (.long x)) (k : Gx E p e R s m args below meth c Q nL (pc + 1) lv (.long x :: st) σ) : Gx E p e R s m args below meth c Q nL pc lv (st) σ := fun H locs ls hP hS hl => lv_lload_n C.1 C.2.1 d hi (lvg_has hl h) (k H locs ls hP hS hl)
theorem gx_lload (C : Cx E p s m args c cc own nL w0) {i : Nat} {x : Int64} (d : decode cc pc = .ok (.lload i, 2)) (h : lvg lv i = some (.long x)) (k : Gx E p e R s m args below meth c Q nL (pc + 2) lv (.long x :: st) σ) : Gx E p e R s m args below meth c Q nL pc lv (st) σ := fun H locs ls hP hS hl => lv_lload C.1 C.2.1 d (lvg_has hl h) (k H locs ls hP hS hl)
theorem gx_iadd (C : Cx E p s m args c cc own nL w0) {x y : Int32} (d : decode cc pc = .ok (.iadd, 1)) (k : Gx E p e R s m args below meth c Q nL (pc + 1) lv (.int (x + y) :: st) σ) : Gx E p e R s m args below meth c Q nL pc lv (.int y :: .int x :: st) σ := fun H locs ls hP hS hl => lv_iadd C.1 C.2.1 d (k H locs ls hP hS hl)
theorem gx_isub (C : Cx E p s m args c cc own nL w0) {x y : Int32} (d : decode cc pc = .ok (.isub, 1)) (k : Gx E p e R s m args below meth c Q nL (pc + 1) lv (.int (x - y) :: st) σ) : Gx E p e R s m args below meth c Q nL pc lv (.int y :: .int x :: st) σ := fun H locs ls hP hS hl => lv_isub C.1 C.2.1 d (k H locs ls hP hS hl)
theorem gx_imul (C : Cx E p s m args c cc own nL w0) {x y : Int32} (d : decode cc pc = .ok (.imul, 1)) (k : Gx E p e R s m args below meth c Q nL (pc + 1) lv (.int (x * y) :: st) σ) : Gx E p e R s m args below meth c Q nL pc lv (.int y :: .int x :: st) σ := fun H locs ls hP hS hl => lv_imul C.1 C.2.1 d (k H locs ls hP hS hl)
theorem gx_iand (C : Cx E p s m args c cc own nL w0) {x y : Int32} (d : decode cc pc = .ok (.iand, 1)) (k : Gx E p e R s m args below meth c Q nL (pc + 1) lv (.int (x &&& y) :: st) σ) : Gx E p e R s m args below meth c Q nL pc lv (.int y :: .int x :: st) σ := fun H locs ls hP hS hl => lv_iand C.1 C.2.1 d (k H locs ls hP hS hl)
theorem gx_ior (C : Cx E p s m args c cc own nL w0) {x y : Int32} (d : decode cc pc = .ok (.ior, 1)) (k : Gx E p e R s m args below meth c Q nL (pc + 1) lv (.int (x ||| y) :: st) σ) : Gx E p e R s m args below meth c Q nL pc lv (.int y :: .int x :: st) σ := fun H locs ls hP hS hl => lv_ior C.1 C.2.1 d (k H locs ls hP hS hl)
theorem gx_ixor (C : Cx E p s m args c cc own nL w0) {x y : Int32} (d : decode cc pc = .ok (.ixor, 1)) (k : Gx E p e R s m args below meth c Q nL (pc + 1) lv (.int (x ^^^ y) :: st) σ) : Gx E p e R s m args below meth c Q nL pc lv (.int y :: .int x :: st) σ := fun H locs ls hP hS hl => lv_ixor C.1 C.2.1 d (k H locs ls hP hS hl)
theorem gx_ishl (C : Cx E p s m args c cc own nL w0) {x y : Int32} (d : decode cc pc = .ok (.ishl, 1)) (k : Gx E p e R s m args below meth c Q nL (pc + 1) lv (.int (x <<< (y &&& 31)) :: st) σ) : Gx E p e R s m args below meth c Q nL pc lv (.int y :: .int x :: st) σ := fun H locs ls hP hS hl => lv_ishl C.1 C.2.1 d (k H locs ls hP hS hl)
theorem gx_ishr (C : Cx E p s m args c cc own nL w0) {x y : Int32} (d : decode cc pc = .ok (.ishr, 1)) (k : Gx E p e R s m args below meth c Q nL (pc + 1) lv (.int (x >>> (y &&& 31)) :: st) σ) : Gx E p e R s m args below meth c Q nL pc lv (.int y :: .int x :: st) σ := fun H locs ls hP hS hl => lv_ishr C.1 C.2.1 d (k H locs ls hP hS hl)
theorem gx_irem (C : Cx E p s m args c cc own nL w0) {x y : Int32} (hne : ¬ y = 0) (d : decode cc pc = .ok (.irem, 1)) (k : Gx E p e R s m args below meth c Q nL (pc + 1) lv (.int (x - x / y * y) :: st) σ) : Gx E p e R s m args below meth c Q nL pc lv (.int y :: .int x :: st) σ := fun H locs ls hP hS hl => lv_irem C.1 C.2.1 d hne (k H locs ls hP hS hl)
theorem gx_iushr (C : Cx E p s m args c cc own nL w0) {x y v : Int32} (hv : (x.toUInt32 >>> (y.toUInt32 &&& Int32.toUInt32 31)).toInt32 = v) (d : decode cc pc = .ok (.iushr, 1)) (k : Gx E p e R s m args below meth c Q nL (pc + 1) lv (.int v :: st) σ) : Gx E p e R s m args below meth c Q nL pc lv (.int y :: .int x :: st) σ := fun H locs ls hP hS hl => lv_iushr C.1 C.2.1 d hv (k H locs ls hP hS hl)
theorem gx_i2l (C : Cx E p s m args c cc own nL w0) {x : Int32} (d : decode cc pc = .ok (.i2l, 1)) (k : Gx E p e R s m args below meth c Q nL (pc + 1) lv (.long x.toInt64 :: st) σ) : Gx E p e R s m args below meth c Q nL pc lv (.int x :: st) σ := fun H locs ls hP hS hl => lv_i2l C.1 C.2.1 d rfl (k H locs ls hP hS hl)
theorem gx_i2b (C : Cx E p s m args c cc own nL w0) {x : Int32} (d : decode cc pc = .ok (.i2b, 1)) (k : Gx E p e R s m args below meth c Q nL (pc + 1) lv (.int x.toInt8.toInt32 :: st) σ) : Gx E p e R s m args below meth c Q nL pc lv (.int x :: st) σ := fun H locs ls hP hS hl => lv_i2b C.1 C.2.1 d rfl (k H locs ls hP hS hl)
theorem gx_i2s (C : Cx E p s m args c cc own nL w0) {x : Int32} (d : decode cc pc = .ok (.i2s, 1)) (k : Gx E p e R s m args below meth c Q nL (pc + 1) lv (.int x.toInt16.toInt32 :: st) σ) : Gx E p e R s m args below meth c Q nL pc lv (.int x :: st) σ := fun H locs ls hP hS hl => lv_i2s C.1 C.2.1 d rfl (k H locs ls hP hS hl)
theorem gx_i2c (C : Cx E p s m args c cc own nL w0) {x : Int32} (d : decode cc pc = .ok (.i2c, 1)) (k : Gx E p e R s m args below meth c Q nL (pc + 1) lv (.int (x.toUInt32 % 65536).toInt32 :: st) σ) : Gx E p e R s m args below meth c Q nL pc lv (.int x :: st) σ := fun H locs ls hP hS hl => lv_i2c C.1 C.2.1 d rfl (k H locs ls hP hS hl)
theorem gx_lcmp (C : Cx E p s m args c cc own nL w0) {x y : Int64} (d : decode cc pc = .ok (.lcmp, 1)) (k : Gx E p e R s m args below meth c Q nL (pc + 1) lv (.int (lg_cmp x y) :: st) σ) : Gx E p e R s m args below meth c Q nL pc lv (.long y :: .long x :: st) σ := fun H locs ls hP hS hl => W.lcmp C.1 C.2.1 d (k H locs ls hP hS hl)
theorem gx_dup (C : Cx E p s m args c cc own nL w0) {v : Value} (hv : v.category = 1) (d : decode cc pc = .ok (.dup, 1)) (k : Gx E p e R s m args below meth c Q nL (pc + 1) lv (v :: v :: st) σ) : Gx E p e R s m args below meth c Q nL pc lv (v :: st) σ := fun H locs ls hP hS hl => lv_dup C.1 C.2.1 d hv (k H locs ls hP hS hl)
theorem gx_dup2 (C : Cx E p s m args c cc own nL w0) {v w : Value} (hv : v.category = 1) (hw : w.category = 1) (d : decode cc pc = .ok (.dup2, 1)) (k : Gx E p e R s m args below meth c Q nL (pc + 1) lv (v :: w :: v :: w :: st) σ) : Gx E p e R s m args below meth c Q nL pc lv (v :: w :: st) σ := fun H locs ls hP hS hl => lv_dup2_11 C.1 C.2.1 d hv hw (k H locs ls hP hS hl)
theorem gx_pop (C : Cx E p s m args c cc own nL w0) {v : Value} (hv : v.category = 1) (d : decode cc pc = .ok (.pop, 1)) (k : Gx E p e R s m args below meth c Q nL (pc + 1) lv (st) σ) : Gx E p e R s m args below meth c Q nL pc lv (v :: st) σ := fun H locs ls hP hS hl => lv_pop C.1 C.2.1 d hv (k H locs ls hP hS hl)
theorem gx_goto (C : Cx E p s m args c cc own nL w0) {off : Int} {tgt : Nat} (d : decode cc pc = .ok (.goto off, 3)) (ht : (pc : Int) + off = (tgt : Int)) (k : Gx E p e R s m args below meth c Q nL tgt lv (st) σ) : Gx E p e R s m args below meth c Q nL pc lv (st) σ := fun H locs ls hP hS hl => lv_goto C.1 C.2.1 d ht (k H locs ls hP hS hl)
theorem gx_ifnull (C : Cx E p s m args c cc own nL w0) {x : Nat} {off : Int} (d : decode cc pc = .ok (.ifnull off, 3)) (k : Gx E p e R s m args below meth c Q nL (pc + 3) lv (st) σ) : Gx E p e R s m args below meth c Q nL pc lv (.ref x :: st) σ := fun H locs ls hP hS hl => lv_ifnull C.1 C.2.1 d (k H locs ls hP hS hl)
theorem gx_ifnullN (C : Cx E p s m args c cc own nL w0) {off : Int} {tgt : Nat} (d : decode cc pc = .ok (.ifnull off, 3)) (ht : (pc : Int) + off = (tgt : Int)) (k : Gx E p e R s m args below meth c Q nL tgt lv (st) σ) : Gx E p e R s m args below meth c Q nL pc lv (.null :: st) σ := fun H locs ls hP hS hl => lv_ifnullN C.1 C.2.1 d ht (k H locs ls hP hS hl)
theorem gx_ifnonnull (C : Cx E p s m args c cc own nL w0) {x : Nat} {off : Int} {tgt : Nat} (d : decode cc pc = .ok (.ifnonnull off, 3)) (ht : (pc : Int) + off = (tgt : Int)) (k : Gx E p e R s m args below meth c Q nL tgt lv (st) σ) : Gx E p e R s m args below meth c Q nL pc lv (.ref x :: st) σ := fun H locs ls hP hS hl => lv_ifnonnull C.1 C.2.1 d ht (k H locs ls hP hS hl)
theorem gx_ifnonnullN (C : Cx E p s m args c cc own nL w0) {off : Int} (d : decode cc pc = .ok (.ifnonnull off, 3)) (k : Gx E p e R s m args below meth c Q nL (pc + 3) lv (st) σ) : Gx E p e R s m args below meth c Q nL pc lv (.null :: st) σ := fun H locs ls hP hS hl => lv_ifnonnullN C.1 C.2.1 d (k H locs ls hP hS hl)
theorem gx_icmp_eq (C : Cx E p s m args c cc own nL w0) {x y : Int32} {off : Int} {tgt : Nat} (d : decode cc pc = .ok (.if_icmp .eq off, 3)) (ht : (pc : Int) + off = (tgt : Int)) (kt : x = y → Gx E p e R s m args below meth c Q nL tgt lv (st) σ) (kf : ¬ (x = y) → Gx E p e R s m args below meth c Q nL (pc + 3) lv (st) σ) : Gx E p e R s m args below meth c Q nL pc lv (.int y :: .int x :: st) σ := fun H locs ls hP hS hl => lv_icmp_eq C.1 C.2.1 d ht (fun h => kt h H locs ls hP hS hl) (fun h => kf h H locs ls hP hS hl)
theorem gx_if_eq (C : Cx E p s m args c cc own nL w0) {x : Int32} {off : Int} {tgt : Nat} (d : decode cc pc = .ok (.ifCond .eq off, 3)) (ht : (pc : Int) + off = (tgt : Int)) (kt : x = 0 → Gx E p e R s m args below meth c Q nL tgt lv (st) σ) (kf : ¬ (x = 0) → Gx E p e R s m args below meth c Q nL (pc + 3) lv (st) σ) : Gx E p e R s m args below meth c Q nL pc lv (.int x :: st) σ := fun H locs ls hP hS hl => lv_if_eq C.1 C.2.1 d ht (fun h => kt h H locs ls hP hS hl) (fun h => kf h H locs ls hP hS hl)
theorem gx_icmp_ne (C : Cx E p s m args c cc own nL w0) {x y : Int32} {off : Int} {tgt : Nat} (d : decode cc pc = .ok (.if_icmp .ne off, 3)) (ht : (pc : Int) + off = (tgt : Int)) (kt : ¬ x = y → Gx E p e R s m args below meth c Q nL tgt lv (st) σ) (kf : x = y → Gx E p e R s m args below meth c Q nL (pc + 3) lv (st) σ) : Gx E p e R s m args below meth c Q nL pc lv (.int y :: .int x :: st) σ := fun H locs ls hP hS hl => lv_icmp_ne C.1 C.2.1 d ht (fun h => kt h H locs ls hP hS hl) (fun h => kf h H locs ls hP hS hl)
theorem gx_if_ne (C : Cx E p s m args c cc own nL w0) {x : Int32} {off : Int} {tgt : Nat} (d : decode cc pc = .ok (.ifCond .ne off, 3)) (ht : (pc : Int) + off = (tgt : Int)) (kt : ¬ x = 0 → Gx E p e R s m args below meth c Q nL tgt lv (st) σ) (kf : x = 0 → Gx E p e R s m args below meth c Q nL (pc + 3) lv (st) σ) : Gx E p e R s m args below meth c Q nL pc lv (.int x :: st) σ := fun H locs ls hP hS hl => lv_if_ne C.1 C.2.1 d ht (fun h => kt h H locs ls hP hS hl) (fun h => kf h H locs ls hP hS hl)
theorem gx_icmp_lt (C : Cx E p s m args c cc own nL w0) {x y : Int32} {off : Int} {tgt : Nat} (d : decode cc pc = .ok (.if_icmp .lt off, 3)) (ht : (pc : Int) + off = (tgt : Int)) (kt : x < y → Gx E p e R s m args below meth c Q nL tgt lv (st) σ) (kf : ¬ (x < y) → Gx E p e R s m args below meth c Q nL (pc + 3) lv (st) σ) : Gx E p e R s m args below meth c Q nL pc lv (.int y :: .int x :: st) σ := fun H locs ls hP hS hl => lv_icmp_lt C.1 C.2.1 d ht (fun h => kt h H locs ls hP hS hl) (fun h => kf h H locs ls hP hS hl)
theorem gx_if_lt (C : Cx E p s m args c cc own nL w0) {x : Int32} {off : Int} {tgt : Nat} (d : decode cc pc = .ok (.ifCond .lt off, 3)) (ht : (pc : Int) + off = (tgt : Int)) (kt : x < 0 → Gx E p e R s m args below meth c Q nL tgt lv (st) σ) (kf : ¬ (x < 0) → Gx E p e R s m args below meth c Q nL (pc + 3) lv (st) σ) : Gx E p e R s m args below meth c Q nL pc lv (.int x :: st) σ := fun H locs ls hP hS hl => lv_if_lt C.1 C.2.1 d ht (fun h => kt h H locs ls hP hS hl) (fun h => kf h H locs ls hP hS hl)
theorem gx_icmp_ge (C : Cx E p s m args c cc own nL w0) {x y : Int32} {off : Int} {tgt : Nat} (d : decode cc pc = .ok (.if_icmp .ge off, 3)) (ht : (pc : Int) + off = (tgt : Int)) (kt : y ≤ x → Gx E p e R s m args below meth c Q nL tgt lv (st) σ) (kf : ¬ (y ≤ x) → Gx E p e R s m args below meth c Q nL (pc + 3) lv (st) σ) : Gx E p e R s m args below meth c Q nL pc lv (.int y :: .int x :: st) σ := fun H locs ls hP hS hl => lv_icmp_ge C.1 C.2.1 d ht (fun h => kt h H locs ls hP hS hl) (fun h => kf h H locs ls hP hS hl)
theorem gx_if_ge (C : Cx E p s m args c cc own nL w0) {x : Int32} {off : Int} {tgt : Nat} (d : decode cc pc = .ok (.ifCond .ge off, 3)) (ht : (pc : Int) + off = (tgt : Int)) (kt : 0 ≤ x → Gx E p e R s m args below meth c Q nL tgt lv (st) σ) (kf : ¬ (0 ≤ x) → Gx E p e R s m args below meth c Q nL (pc + 3) lv (st) σ) : Gx E p e R s m args below meth c Q nL pc lv (.int x :: st) σ := fun H locs ls hP hS hl => lv_if_ge C.1 C.2.1 d ht (fun h => kt h H locs ls hP hS hl) (fun h => kf h H locs ls hP hS hl)
theorem gx_icmp_gt (C : Cx E p s m args c cc own nL w0) {x y : Int32} {off : Int} {tgt : Nat} (d : decode cc pc = .ok (.if_icmp .gt off, 3)) (ht : (pc : Int) + off = (tgt : Int)) (kt : y < x → Gx E p e R s m args below meth c Q nL tgt lv (st) σ) (kf : ¬ (y < x) → Gx E p e R s m args below meth c Q nL (pc + 3) lv (st) σ) : Gx E p e R s m args below meth c Q nL pc lv (.int y :: .int x :: st) σ := fun H locs ls hP hS hl => lv_icmp_gt C.1 C.2.1 d ht (fun h => kt h H locs ls hP hS hl) (fun h => kf h H locs ls hP hS hl)
theorem gx_if_gt (C : Cx E p s m args c cc own nL w0) {x : Int32} {off : Int} {tgt : Nat} (d : decode cc pc = .ok (.ifCond .gt off, 3)) (ht : (pc : Int) + off = (tgt : Int)) (kt : 0 < x → Gx E p e R s m args below meth c Q nL tgt lv (st) σ) (kf : ¬ (0 < x) → Gx E p e R s m args below meth c Q nL (pc + 3) lv (st) σ) : Gx E p e R s m args below meth c Q nL pc lv (.int x :: st) σ := fun H locs ls hP hS hl => lv_if_gt C.1 C.2.1 d ht (fun h => kt h H locs ls hP hS hl) (fun h => kf h H locs ls hP hS hl)
theorem gx_icmp_le (C : Cx E p s m args c cc own nL w0) {x y : Int32} {off : Int} {tgt : Nat} (d : decode cc pc = .ok (.if_icmp .le off, 3)) (ht : (pc : Int) + off = (tgt : Int)) (kt : x ≤ y → Gx E p e R s m args below meth c Q nL tgt lv (st) σ) (kf : ¬ (x ≤ y) → Gx E p e R s m args below meth c Q nL (pc + 3) lv (st) σ) : Gx E p e R s m args below meth c Q nL pc lv (.int y :: .int x :: st) σ := fun H locs ls hP hS hl => lv_icmp_le C.1 C.2.1 d ht (fun h => kt h H locs ls hP hS hl) (fun h => kf h H locs ls hP hS hl)
theorem gx_if_le (C : Cx E p s m args c cc own nL w0) {x : Int32} {off : Int} {tgt : Nat} (d : decode cc pc = .ok (.ifCond .le off, 3)) (ht : (pc : Int) + off = (tgt : Int)) (kt : x ≤ 0 → Gx E p e R s m args below meth c Q nL tgt lv (st) σ) (kf : ¬ (x ≤ 0) → Gx E p e R s m args below meth c Q nL (pc + 3) lv (st) σ) : Gx E p e R s m args below meth c Q nL pc lv (.int x :: st) σ := fun H locs ls hP hS hl => lv_if_le C.1 C.2.1 d ht (fun h => kt h H locs ls hP hS hl) (fun h => kf h H locs ls hP hS hl)
theorem gx_istore_n (C : Cx E p s m args c cc own nL w0) {j : Fin 4} {i : Nat} {x : Int32} {lv2 : List (Nat × Value)} (d : decode cc pc = .ok (.istore_n j, 1)) (hi : (j : Nat) = i) (hn : i < nL) (h2 : lvs lv i (.int x) = lv2) (k : Gx E p e R s m args below meth c Q nL (pc + 1) lv2 (st) σ) : Gx E p e R s m args below meth c Q nL pc lv (.int x :: st) σ := fun H locs ls hP hS hl => lv_istore_n C.1 C.2.1 d hi hl hn h2 (fun ls hl => k H locs ls hP hS hl)
theorem gx_istore (C : Cx E p s m args c cc own nL w0) {i : Nat} {x : Int32} {lv2 : List (Nat × Value)} (d : decode cc pc = .ok (.istore i, 2)) (hn : i < nL) (h2 : lvs lv i (.int x) = lv2) (k : Gx E p e R s m args below meth c Q nL (pc + 2) lv2 (st) σ) : Gx E p e R s m args below meth c Q nL pc lv (.int x :: st) σ := fun H locs ls hP hS hl => lv_istore C.1 C.2.1 d hl hn h2 (fun ls hl => k H locs ls hP hS hl)
theorem gx_astore_n (C : Cx E p s m args c cc own nL w0) {j : Fin 4} {i : Nat} {x : Nat} {lv2 : List (Nat × Value)} (d : decode cc pc = .ok (.astore_n j, 1)) (hi : (j : Nat) = i) (hn : i < nL) (h2 : lvs lv i (.ref x) = lv2) (k : Gx E p e R s m args below meth c Q nL (pc + 1) lv2 (st) σ) : Gx E p e R s m args below meth c Q nL pc lv (.ref x :: st) σ := fun H locs ls hP hS hl => lv_astore_n C.1 C.2.1 d hi hl hn h2 (fun ls hl => k H locs ls hP hS hl)
theorem gx_astore (C : Cx E p s m args c cc own nL w0) {i : Nat} {x : Nat} {lv2 : List (Nat × Value)} (d : decode cc pc = .ok (.astore i, 2)) (hn : i < nL) (h2 : lvs lv i (.ref x) = lv2) (k : Gx E p e R s m args below meth c Q nL (pc + 2) lv2 (st) σ) : Gx E p e R s m args below meth c Q nL pc lv (.ref x :: st) σ := fun H locs ls hP hS hl => lv_astore C.1 C.2.1 d hl hn h2 (fun ls hl => k H locs ls hP hS hl)
theorem lvg_idx : ∀ {lv : List (Nat × Value)} {i : Nat} {v : Value}, lvg lv i = some v → ∃ k : Nat, lv[k]? = some (i, v) := by
  intro lv i v
  induction lv with
  | nil => intro h; simp [lvg] at h
  | cons q t ih =>
    intro h
    simp only [lvg] at h
    by_cases hq : q.1 = i
    · rw [if_pos hq] at h
      exact ⟨0, by rw [← hq, ← Option.some.inj h]; rfl⟩
    · rw [if_neg hq] at h
      obtain ⟨k, hk⟩ := ih h
      exact ⟨k + 1, by simpa using hk⟩
theorem gx_iinc (C : Cx E p s m args c cc own nL w0) {i : Nat} {n : Int} {x v : Int32} {lv2 : List (Nat × Value)} (d : decode cc pc = .ok (.iinc i n, 3)) (h : lvg lv i = some (.int x)) (hv : x + Int32.ofInt n = v) (hn : i < nL) (h2 : lvs lv i (.int v) = lv2) (k : Gx E p e R s m args below meth c Q nL (pc + 3) lv2 (st) σ) : Gx E p e R s m args below meth c Q nL pc lv (st) σ := fun H locs ls hP hS hl => by
  obtain ⟨j, hj⟩ := lvg_idx h
  exact lv_iinc C.1 C.2.1 d hl hj hv hn h2 (fun ls hl => k H locs ls hP hS hl)
theorem gx_tabIn (C : Cx E p s m args c cc own nL w0) {dflt lo hi : Int} {offs : Array Int} {len : Nat} {x : Int32} {off : Int} {tgt : Nat} (d : decode cc pc = .ok (.tableswitch dflt lo hi offs, len)) (h1 : ¬ x.toInt < lo) (h2 : ¬ hi < x.toInt) (ho : offs[(x.toInt - lo).toNat]? = some off) (ht : (pc : Int) + off = (tgt : Int)) (k : Gx E p e R s m args below meth c Q nL tgt lv (st) σ) : Gx E p e R s m args below meth c Q nL pc lv (.int x :: st) σ := fun H locs ls hP hS hl => lv_tableIn C.1 C.2.1 d h1 h2 ho ht (k H locs ls hP hS hl)
theorem gx_tabOut (C : Cx E p s m args c cc own nL w0) {dflt lo hi : Int} {offs : Array Int} {len : Nat} {x : Int32} {tgt : Nat} (d : decode cc pc = .ok (.tableswitch dflt lo hi offs, len)) (h : x.toInt < lo ∨ hi < x.toInt) (ht : (pc : Int) + dflt = (tgt : Int)) (k : Gx E p e R s m args below meth c Q nL tgt lv (st) σ) : Gx E p e R s m args below meth c Q nL pc lv (.int x :: st) σ := fun H locs ls hP hS hl => lv_tableOut C.1 C.2.1 d h ht (k H locs ls hP hS hl)
theorem gx_look (C : Cx E p s m args c cc own nL w0) {dflt : Int} {ps : Array (Int × Int)} {len : Nat} {x : Int32} {off : Int} {tgt : Nat} (d : decode cc pc = .ok (.lookupswitch dflt ps, len)) (hp : (ps.toList.zip (ps.toList.drop 1)).all (fun (a, next) => a.1 < next.1) = true) (ho : Op.lookupswitch.offset ps.toList dflt x.toInt = off) (ht : (pc : Int) + off = (tgt : Int)) (k : Gx E p e R s m args below meth c Q nL tgt lv (st) σ) : Gx E p e R s m args below meth c Q nL pc lv (.int x :: st) σ := fun H locs ls hP hS hl => lv_lookup C.1 C.2.1 d hp ho ht (k H locs ls hP hS hl)
/-- a class of the tables -/
def ckok (ci : Nat) (Cn : String) (T : u_T) (N : Nat) (ty : Nat → FieldType) : Prop := vwCl[ci]? = some (Cn, T, N) ∧ (∀ w ∈ u_ws Cn T N, w ∈ wsA) ∧ (∀ k, k < N → parseFieldDescriptor (T k).2.2.1 = some (ty k)) ∧ ∀ a, a < N → ∀ b, b < N → a ≠ b → (T a).2.1 ≠ (T b).2.1
theorem ce_obj {i ci : Nat} {fl : List (Option Nat)} (h : sh i = .inr (.inl (ci, fl))) : ce E σ i = .inr (ci, flds (eA E) (σ i) 0 fl) := by unfold ce; rw [h]; rfl
theorem ce_arr {i n : Nat} (h : sh i = .inl n) : ce E σ i = .inl (eI E, n, .inl (σ i)) := by unfold ce; rw [h]; rfl
theorem shp_len : shp.length = 59 := by decide +kernel
theorem sh_out {i : Nat} (h : 59 ≤ i) : sh i = .inl 0 := by
  unfold sh
  rw [List.getD_eq_getElem?_getD, List.getElem?_eq_none (by rw [shp_len]; exact h)]
  rfl
theorem sh_lt {i : Nat} {z : (Nat × List (Option Nat)) ⊕ Nat} (h : sh i = .inr z) : i < 59 := by
  rcases Nat.lt_or_ge i 59 with h1 | h1
  · exact h1
  · rw [sh_out h1] at h; cases h
theorem sh_ltA {i n : Nat} (h : sh i = .inl (n + 1)) : i < 59 := by
  rcases Nat.lt_or_ge i 59 with h1 | h1
  · exact h1
  · rw [sh_out h1] at h; cases h
theorem gx_geti (C : Cx E p s m args c cc own nL w0) {ci i k index : Nat} {fl : List (Option Nat)} {Cn : String} {T : u_T} {N : Nat} {ty : Nat → FieldType} (K : ckok ci Cn T N ty) (hs : sh i = .inr (.inl (ci, fl))) (hk : fl[k]? = some none) (hkN : k < N) (hm : Cond.fieldLink own index (T k).1 (T k).2.1 (T k).2.2.1 ∈ wsA) (d : decode cc pc = .ok (.getfield index, 3)) (kk : Gx E p e R s m args below meth c Q nL (pc + 3) lv (.int (σ i k) :: st) σ) : Gx E p e R s m args below meth c Q nL pc lv (.ref (eA E i) :: st) σ := fun H locs ls hP hS hl =>
  va_get C.1 C.2.1 C.2.2.2.2.1 (fun w h => List.mem_cons_of_mem _ (K.2.1 w h)) C.2.2.2.1 C.2.2.2.2.2.1 hP i ((wd_at E σ (sh_lt hs)).trans (by rw [ce_obj hs])) K.1 k hkN (C.2.2.2.2.1 _ (List.mem_cons_of_mem _ hm)) (fun _ h9 => h9) (v := .int (σ i k)) (by rw [flds_get, hk]; simp) d (kk H locs ls hP hS hl)
theorem gx_getr (C : Cx E p s m args c cc own nL w0) {ci i j k index : Nat} {fl : List (Option Nat)} {Cn : String} {T : u_T} {N : Nat} {ty : Nat → FieldType} (K : ckok ci Cn T N ty) (hs : sh i = .inr (.inl (ci, fl))) (hk : fl[k]? = some (some j)) (hkN : k < N) (hm : Cond.fieldLink own index (T k).1 (T k).2.1 (T k).2.2.1 ∈ wsA) (d : decode cc pc = .ok (.getfield index, 3)) (kk : Gx E p e R s m args below meth c Q nL (pc + 3) lv (.ref (eA E j) :: st) σ) : Gx E p e R s m args below meth c Q nL pc lv (.ref (eA E i) :: st) σ := fun H locs ls hP hS hl =>
  va_get C.1 C.2.1 C.2.2.2.2.1 (fun w h => List.mem_cons_of_mem _ (K.2.1 w h)) C.2.2.2.1 C.2.2.2.2.2.1 hP i ((wd_at E σ (sh_lt hs)).trans (by rw [ce_obj hs])) K.1 k hkN (C.2.2.2.2.1 _ (List.mem_cons_of_mem _ hm)) (fun _ h9 => h9) (v := .ref (eA E j)) (by rw [flds_get, hk]; simp) d (kk H locs ls hP hS hl)
theorem gx_puti (C : Cx E p s m args c cc own nL w0) {ci i k index : Nat} {v : Int32} {fl : List (Option Nat)} {Cn : String} {T : u_T} {N : Nat} {ty : Nat → FieldType} (K : ckok ci Cn T N ty) (hs : sh i = .inr (.inl (ci, fl))) (hk : fl[k]? = some none) (hkN : k < N) (hfin : (T k).2.2.2 = false) (hn : narrow (ty k) (.int v) = .int v) (hfit : fits (ty k) (.int v) = true) (hm : Cond.fieldLink own index (T k).1 (T k).2.1 (T k).2.2.1 ∈ wsA) (d : decode cc pc = .ok (.putfield index, 3)) (kk : Gx E p e R s m args below meth c Q nL (pc + 3) lv (st) (up2 σ i k v)) : Gx E p e R s m args below meth c Q nL pc lv (.int v :: .ref (eA E i) :: st) σ := fun H locs ls hP hS hl => by
  have hc : ce E (up2 σ i k v) i = .inr (ci, (flds (eA E) (σ i) 0 fl).set k (.int v)) := by rw [ce_obj hs, up2_s, flds_set fl k v hk]
  refine va_put C.1 C.2.1 C.2.2.2.2.1 (fun w h => List.mem_cons_of_mem _ (K.2.1 w h)) ty K.2.2.1 K.2.2.2 C.2.2.2.1 C.2.2.2.2.2.1 hP (C.2.2.2.2.2.2.1 σ) hS i ((wd_at E σ (sh_lt hs)).trans (by rw [ce_obj hs])) K.1 k hkN (C.2.2.2.2.1 _ (List.mem_cons_of_mem _ hm)) (fun _ h9 => h9) hfin (K.2.2.1 k hkN) hn hfit (by rw [flds_len]; exact (List.getElem?_eq_some_iff.mp hk).1) d (fun H1 locs1 hP1 hD1 hS1 => ?_)
  rw [wd_set E σ (sh_lt hs) hc] at hP1
  exact kk H1 locs1 ls hP1 hS1 hl
theorem gx_iald (C : Cx E p s m args c cc own nL w0) {i n : Nat} {x : Int32} (hs : sh i = .inl (n + 1)) (hx : vp_in x (n + 1)) (d : decode cc pc = .ok (.iaload, 1)) (kk : Gx E p e R s m args below meth c Q nL (pc + 1) lv (.int (σ i x.toNatClampNeg) :: st) σ) : Gx E p e R s m args below meth c Q nL pc lv (.int x :: .ref (eA E i) :: st) σ := fun H locs ls hP hS hl =>
  va_iald C.1 C.2.1 C.2.2.2.2.2.1 hP i 0 ((wd_at E σ (sh_ltA hs)).trans (by rw [ce_arr hs])) rfl hx d (kk H locs ls hP hS hl)
theorem gx_ialdN (C : Cx E p s m args c cc own nL w0) {i n : Nat} (k : Nat) {x : Int32} (hs : sh i = .inl (n + 1)) (hx : x = nI k) (hk : k < n + 1) (hb : n < 1000) (d : decode cc pc = .ok (.iaload, 1)) (kk : Gx E p e R s m args below meth c Q nL (pc + 1) lv (.int (σ i k) :: st) σ) : Gx E p e R s m args below meth c Q nL pc lv (.int x :: .ref (eA E i) :: st) σ := by
  subst hx
  refine gx_iald C hs (vp_in_nI hk (by omega)) d ?_
  rw [nI_clamp (by omega)]
  exact kk
theorem gx_iast (C : Cx E p s m args c cc own nL w0) {i n : Nat} {x v : Int32} (hs : sh i = .inl (n + 1)) (hx : vp_in x (n + 1)) (d : decode cc pc = .ok (.iastore, 1)) (kk : Gx E p e R s m args below meth c Q nL (pc + 1) lv (st) (up2 σ i x.toNatClampNeg v)) : Gx E p e R s m args below meth c Q nL pc lv (.int v :: .int x :: .ref (eA E i) :: st) σ := fun H locs ls hP hS hl => by
  have hc : ce E (up2 σ i x.toNatClampNeg v) i = .inl (eI E, n + 1, .inl (upd (σ i) x.toNatClampNeg v)) := by rw [ce_arr hs, up2_s]
  refine va_iast C.1 C.2.1 C.2.2.2.2.2.1 hP (C.2.2.2.2.2.2.1 σ) hS i 0 ((wd_at E σ (sh_ltA hs)).trans (by rw [ce_arr hs])) rfl hx d (fun H1 locs1 hP1 hD1 hS1 => ?_)
  rw [wd_set E σ (sh_ltA hs) hc] at hP1
  exact kk H1 locs1 ls hP1 hS1 hl
theorem gx_iastN (C : Cx E p s m args c cc own nL w0) {i n : Nat} (k : Nat) {x v : Int32} (hs : sh i = .inl (n + 1)) (hx : x = nI k) (hk : k < n + 1) (hb : n < 1000) (d : decode cc pc = .ok (.iastore, 1)) (kk : Gx E p e R s m args below meth c Q nL (pc + 1) lv (st) (up2 σ i k v)) : Gx E p e R s m args below meth c Q nL pc lv (.int v :: .int x :: .ref (eA E i) :: st) σ := by
  subst hx
  refine gx_iast C hs (vp_in_nI hk (by omega)) d ?_
  rw [nI_clamp (by omega)]
  exact kk
/-- the sheets' array -/
theorem gx_aaldN (C : Cx E p s m args c cc own nL w0) {i b : Nat} (k : Nat) {x : Int32} (hs : sh i = .inr (.inr b)) (hx : x = nI k) (hk : k < 4) (d : decode cc pc = .ok (.aaload, 1)) (kk : Gx E p e R s m args below meth c Q nL (pc + 1) lv (.ref (eA E (b + k)) :: st) σ) : Gx E p e R s m args below meth c Q nL pc lv (.int x :: .ref (eA E i) :: st) σ := fun H locs ls hP hS hl => by
  subst hx
  have hc : ce E σ i = .inl (eS E, 4, .inr (.inr (.inr (.inr (fun k => some (eA E (b + k))))))) := by unfold ce; rw [hs]; rfl
  refine va_aldq C.1 C.2.1 C.2.2.2.2.2.1 hP i 1 ((wd_at E σ (sh_lt hs)).trans (by rw [hc])) rfl (vp_in_nI hk (by omega)) d ?_
  rw [nI_clamp (by omega)]
  exact kk H locs ls hP hS hl
theorem AW_S {H0 H : Heap} {locs : List Loc} (hS : va_S (AA E H0.size) H0 H locs) : va_S (AW E) H0 H locs → True := fun _ => trivial
theorem gx_kept {H : Heap} {locs : List Loc} (hS : va_S (AA E s.heap.size) s.heap H locs) : ∀ a : Nat, a < s.heap.size → ¬ AW E a → H[a]? = s.heap[a]? := fun a h1 h2 => hS.2.1 a h1 (fun h => h.elim h2 (fun h3 => by omega))
/-- a method's callers: what its words are -/
def zokV (y : MethodName) (Cn : String) (cc : ByteArray) (mL : Nat) (ret : Option FieldType) (n : Nat) : Prop := (y.cls = Cn ∧ y.cls ≠ "java/lang/invoke/MethodHandle" ∧ y.cls ≠ "java/lang/invoke/VarHandle" ∧ (parseMethodDescriptor y.desc).map (fun d => d.parameters.length) = some n) ∧ Cond.instanceMethod y ∈ wsA ∧ Cond.selects Cn y y ∈ wsA ∧ Cond.initialized Cn ∈ wsA ∧ Cond.code y cc mL ret ∈ wsA
def zokS (y : MethodName) (cc : ByteArray) (mL : Nat) (ret : Option FieldType) (n : Nat) : Prop := (y.cls ≠ "java/lang/invoke/MethodHandle" ∧ y.cls ≠ "java/lang/invoke/VarHandle" ∧ (parseMethodDescriptor y.desc).map (fun d => d.parameters.length) = some n) ∧ Cond.static y ∈ wsA ∧ Cond.initialized y.cls ∈ wsA ∧ Cond.code y cc mL ret ∈ wsA
theorem ws_good : ∀ w ∈ wsA, ((w.onTables && w.keeps) = true ∨ ∃ ty, w = .arrayClass ty) := fun w h => (wsA_good w h).2
theorem gw_all {a b : Cond} (h : b ∈ wsA) : GoodIn (a :: wsA) (b :: wsA) := fun w hw => by
  rcases List.mem_cons.mp hw with h1 | h1
  · subst h1; exact ⟨List.mem_cons_of_mem _ h, ws_good _ h⟩
  · exact ⟨List.mem_cons_of_mem _ h1, ws_good _ h1⟩
theorem blind {av : List Value} {sz : Nat} {σ : Mm} : FrameBlind (va_Pc av (WP E sz σ)) := by
  intro a U g mk q
  obtain ⟨q0, q1, qP, qK, qD, qZ⟩ := q
  exact ⟨q0, q1, qP, va_K.moved (u := U) (U := U.calling g mk a) (Vm.Alike.refl U.vm) qK, qD, Stc.same (u := U) (U := U.calling g mk a) rfl qZ⟩
theorem pre_of (C : Cx E p s m args c cc own nL w0) {H : Heap} {locs : List Loc} {av : List Value} (hP : va_P (eD E) vwCl (wd E σ) H) (hS : va_S (AA E s.heap.size) s.heap H locs) : ∀ U : State, U.heap = H → s.WarmedH U.vm → va_Pc av (WP E H.size σ) av.toArray U := by
  intro U hU hW
  refine ⟨rfl, by rw [hU], by rw [hU]; exact hP, va_K.moved hW.alike C.2.2.2.2.2.1, (C.2.2.2.2.2.2.1 σ).weaken (fun _ _ _ _ => trivial), ?_⟩
  rw [hU]
  exact (C.2.2.2.2.2.2.2.kept (gx_kept hS)).warm hW
theorem AA_in {H : Heap} {locs : List Loc} (hS : va_S (AA E s.heap.size) s.heap H locs) : ∀ q, AA E H.size q → AA E s.heap.size q := fun q h => h.imp id (fun h => Nat.le_trans hS.1 h)
theorem gx_callVI (C : Cx E p s m args c cc own nL w0) {y : MethodName} {cy : ByteArray} {mL : Nat} {ret : Option FieldType} {fr lo n b ci index N : Nat} {fl : List (Option Nat)} {Cn : String} {T : u_T} {ty : Nat → FieldType} {As rest : List Value} {post : Int32 → Mm → Prop} (h : CtI E y cy mL ret fr lo (.ref (eA E b) :: As) σ post) (Z : zokV y Cn cy mL ret n) (K : ckok ci Cn T N ty) (hs : sh b = .inr (.inl (ci, fl))) (hn : As.length = n) (hm : Cond.methodLink own index y ∈ wsA) (hst : st = As.reverse ++ .ref (eA E b) :: rest) (hc : (rest.map fun v => v.category).sum ≤ 8) (hR : fr + 1 ≤ R.frames ∧ 8 + (mL + 11) + lo ≤ R.locals) (d : decode cc pc = .ok (.invokevirtual index, 3)) (kk : ∀ (r : Int32) (σ2 : Mm), post r σ2 → Gx E p e R s m args below meth c Q nL (pc + 3) lv (.int r :: rest) σ2) : Gx E p e R s m args below meth c Q nL pc lv (st) σ := fun H locs ls hP hS hl => by
  subst hst
  refine va_calli (va_runV (As := As) (rest := rest) ⟨C.1, C.2.1, C.2.2.1, C.2.2.2.1, C.2.2.2.2.1⟩ (h H.size) ⟨callB_of n C.2.2.2.2.1 (gw_all Z.2.2.2.2) rfl rfl rfl (by rw [Z.1.1]; exact C.2.2.2.2.1 _ (List.mem_cons_of_mem _ Z.2.2.2.1)) (C.2.2.2.2.1 _ (List.mem_cons_of_mem _ hm)) Z.1.2 hR, C.2.2.2.2.1 _ (List.mem_cons_of_mem _ Z.2.1), C.2.2.2.2.1 _ (List.mem_cons_of_mem _ Z.2.2.1)⟩ ⟨blind, va_recv C.2.2.2.2.2.1 hP K.1 ((wd_at E σ (sh_lt hs)).trans (by rw [ce_obj hs])), pre_of C hP hS⟩ rfl hn hl.1 rfl (lv_room hc) d ⟨Nat.zero_le _, Nat.zero_le _⟩) hS (fun q _ h => AA_in hS q h) (AA_in hS) (fun r u t H1 locs1 ht hvm hw hB hz1 hk1 hS1 => ?_)
  exact kk r u hw H1 locs1 ls (by rw [← ht]; exact hB) hS1 hl
theorem gx_callVV (C : Cx E p s m args c cc own nL w0) {y : MethodName} {cy : ByteArray} {mL : Nat} {ret : Option FieldType} {fr lo n b ci index N : Nat} {fl : List (Option Nat)} {Cn : String} {T : u_T} {ty : Nat → FieldType} {As rest : List Value} {post : Mm → Prop} (h : CtV E y cy mL ret fr lo (.ref (eA E b) :: As) σ post) (Z : zokV y Cn cy mL ret n) (K : ckok ci Cn T N ty) (hs : sh b = .inr (.inl (ci, fl))) (hn : As.length = n) (hm : Cond.methodLink own index y ∈ wsA) (hst : st = As.reverse ++ .ref (eA E b) :: rest) (hc : (rest.map fun v => v.category).sum ≤ 8) (hR : fr + 1 ≤ R.frames ∧ 8 + (mL + 11) + lo ≤ R.locals) (d : decode cc pc = .ok (.invokevirtual index, 3)) (kk : ∀ (σ2 : Mm), post σ2 → Gx E p e R s m args below meth c Q nL (pc + 3) lv (rest) σ2) : Gx E p e R s m args below meth c Q nL pc lv (st) σ := fun H locs ls hP hS hl => by
  subst hst
  refine va_callv (va_runV (As := As) (rest := rest) ⟨C.1, C.2.1, C.2.2.1, C.2.2.2.1, C.2.2.2.2.1⟩ (h H.size) ⟨callB_of n C.2.2.2.2.1 (gw_all Z.2.2.2.2) rfl rfl rfl (by rw [Z.1.1]; exact C.2.2.2.2.1 _ (List.mem_cons_of_mem _ Z.2.2.2.1)) (C.2.2.2.2.1 _ (List.mem_cons_of_mem _ hm)) Z.1.2 hR, C.2.2.2.2.1 _ (List.mem_cons_of_mem _ Z.2.1), C.2.2.2.2.1 _ (List.mem_cons_of_mem _ Z.2.2.1)⟩ ⟨blind, va_recv C.2.2.2.2.2.1 hP K.1 ((wd_at E σ (sh_lt hs)).trans (by rw [ce_obj hs])), pre_of C hP hS⟩ rfl hn hl.1 rfl (lv_room hc) d ⟨Nat.zero_le _, Nat.zero_le _⟩) hS (fun q _ h => AA_in hS q h) (AA_in hS) (fun u t H1 locs1 ht hvm hw hB hz1 hk1 hS1 => ?_)
  exact kk u hw H1 locs1 ls (by rw [← ht]; exact hB) hS1 hl
theorem gx_callVR (C : Cx E p s m args c cc own nL w0) {y : MethodName} {cy : ByteArray} {mL : Nat} {ret : Option FieldType} {fr lo n b ci index N : Nat} {fl : List (Option Nat)} {Cn : String} {T : u_T} {ty : Nat → FieldType} {As rest : List Value} {post : Option Nat → Mm → Prop} (h : CtR E y cy mL ret fr lo (.ref (eA E b) :: As) σ post) (Z : zokV y Cn cy mL ret n) (K : ckok ci Cn T N ty) (hs : sh b = .inr (.inl (ci, fl))) (hn : As.length = n) (hm : Cond.methodLink own index y ∈ wsA) (hst : st = As.reverse ++ .ref (eA E b) :: rest) (hc : (rest.map fun v => v.category).sum ≤ 8) (hR : fr + 1 ≤ R.frames ∧ 8 + (mL + 11) + lo ≤ R.locals) (d : decode cc pc = .ok (.invokevirtual index, 3)) (kk : ∀ (r : Option Nat) (σ2 : Mm), post r σ2 → Gx E p e R s m args below meth c Q nL (pc + 3) lv (va_rf r :: rest) σ2) : Gx E p e R s m args below meth c Q nL pc lv (st) σ := fun H locs ls hP hS hl => by
  subst hst
  refine va_callq (va_runV (As := As) (rest := rest) ⟨C.1, C.2.1, C.2.2.1, C.2.2.2.1, C.2.2.2.2.1⟩ (h H.size) ⟨callB_of n C.2.2.2.2.1 (gw_all Z.2.2.2.2) rfl rfl rfl (by rw [Z.1.1]; exact C.2.2.2.2.1 _ (List.mem_cons_of_mem _ Z.2.2.2.1)) (C.2.2.2.2.1 _ (List.mem_cons_of_mem _ hm)) Z.1.2 hR, C.2.2.2.2.1 _ (List.mem_cons_of_mem _ Z.2.1), C.2.2.2.2.1 _ (List.mem_cons_of_mem _ Z.2.2.1)⟩ ⟨blind, va_recv C.2.2.2.2.2.1 hP K.1 ((wd_at E σ (sh_lt hs)).trans (by rw [ce_obj hs])), pre_of C hP hS⟩ rfl hn hl.1 rfl (lv_room hc) d ⟨Nat.zero_le _, Nat.zero_le _⟩) hS (fun q _ h => AA_in hS q h) (AA_in hS) (fun r u t H1 locs1 ht hvm hw hB hz1 hk1 hS1 => ?_)
  exact kk r u hw H1 locs1 ls (by rw [← ht]; exact hB) hS1 hl
theorem gx_callSI (C : Cx E p s m args c cc own nL w0) {y : MethodName} {cy : ByteArray} {mL : Nat} {ret : Option FieldType} {fr lo n index : Nat} {As rest : List Value} {post : Int32 → Mm → Prop} (h : CtI E y cy mL ret fr lo As σ post) (Z : zokS y cy mL ret n) (hn : As.length = n) (hm : Cond.methodLink own index y ∈ wsA) (hst : st = As.reverse ++ rest) (hc : (rest.map fun v => v.category).sum ≤ 8) (hR : fr + 1 ≤ R.frames ∧ 8 + (mL + 11) + lo ≤ R.locals) (d : decode cc pc = .ok (.invokestatic index, 3)) (kk : ∀ (r : Int32) (σ2 : Mm), post r σ2 → Gx E p e R s m args below meth c Q nL (pc + 3) lv (.int r :: rest) σ2) : Gx E p e R s m args below meth c Q nL pc lv (st) σ := fun H locs ls hP hS hl => by
  subst hst
  refine va_calli (va_runS (As := As) (rest := rest) ⟨C.1, C.2.1, C.2.2.1, C.2.2.2.1, C.2.2.2.2.1⟩ (h H.size) ⟨callB_of n C.2.2.2.2.1 (gw_all Z.2.2.2) rfl rfl rfl (C.2.2.2.2.1 _ (List.mem_cons_of_mem _ Z.2.2.1)) (C.2.2.2.2.1 _ (List.mem_cons_of_mem _ hm)) Z.1 hR, C.2.2.2.2.1 _ (List.mem_cons_of_mem _ Z.2.1)⟩ ⟨blind, pre_of C hP hS⟩ rfl hn hl.1 rfl (lv_room hc) d ⟨Nat.zero_le _, Nat.zero_le _⟩) hS (fun q _ h => AA_in hS q h) (AA_in hS) (fun r u t H1 locs1 ht hvm hw hB hz1 hk1 hS1 => ?_)
  exact kk r u hw H1 locs1 ls (by rw [← ht]; exact hB) hS1 hl
theorem gx_callSV (C : Cx E p s m args c cc own nL w0) {y : MethodName} {cy : ByteArray} {mL : Nat} {ret : Option FieldType} {fr lo n index : Nat} {As rest : List Value} {post : Mm → Prop} (h : CtV E y cy mL ret fr lo As σ post) (Z : zokS y cy mL ret n) (hn : As.length = n) (hm : Cond.methodLink own index y ∈ wsA) (hst : st = As.reverse ++ rest) (hc : (rest.map fun v => v.category).sum ≤ 8) (hR : fr + 1 ≤ R.frames ∧ 8 + (mL + 11) + lo ≤ R.locals) (d : decode cc pc = .ok (.invokestatic index, 3)) (kk : ∀ (σ2 : Mm), post σ2 → Gx E p e R s m args below meth c Q nL (pc + 3) lv (rest) σ2) : Gx E p e R s m args below meth c Q nL pc lv (st) σ := fun H locs ls hP hS hl => by
  subst hst
  refine va_callv (va_runS (As := As) (rest := rest) ⟨C.1, C.2.1, C.2.2.1, C.2.2.2.1, C.2.2.2.2.1⟩ (h H.size) ⟨callB_of n C.2.2.2.2.1 (gw_all Z.2.2.2) rfl rfl rfl (C.2.2.2.2.1 _ (List.mem_cons_of_mem _ Z.2.2.1)) (C.2.2.2.2.1 _ (List.mem_cons_of_mem _ hm)) Z.1 hR, C.2.2.2.2.1 _ (List.mem_cons_of_mem _ Z.2.1)⟩ ⟨blind, pre_of C hP hS⟩ rfl hn hl.1 rfl (lv_room hc) d ⟨Nat.zero_le _, Nat.zero_le _⟩) hS (fun q _ h => AA_in hS q h) (AA_in hS) (fun u t H1 locs1 ht hvm hw hB hz1 hk1 hS1 => ?_)
  exact kk u hw H1 locs1 ls (by rw [← ht]; exact hB) hS1 hl
theorem gx_callSR (C : Cx E p s m args c cc own nL w0) {y : MethodName} {cy : ByteArray} {mL : Nat} {ret : Option FieldType} {fr lo n index : Nat} {As rest : List Value} {post : Option Nat → Mm → Prop} (h : CtR E y cy mL ret fr lo As σ post) (Z : zokS y cy mL ret n) (hn : As.length = n) (hm : Cond.methodLink own index y ∈ wsA) (hst : st = As.reverse ++ rest) (hc : (rest.map fun v => v.category).sum ≤ 8) (hR : fr + 1 ≤ R.frames ∧ 8 + (mL + 11) + lo ≤ R.locals) (d : decode cc pc = .ok (.invokestatic index, 3)) (kk : ∀ (r : Option Nat) (σ2 : Mm), post r σ2 → Gx E p e R s m args below meth c Q nL (pc + 3) lv (va_rf r :: rest) σ2) : Gx E p e R s m args below meth c Q nL pc lv (st) σ := fun H locs ls hP hS hl => by
  subst hst
  refine va_callq (va_runS (As := As) (rest := rest) ⟨C.1, C.2.1, C.2.2.1, C.2.2.2.1, C.2.2.2.2.1⟩ (h H.size) ⟨callB_of n C.2.2.2.2.1 (gw_all Z.2.2.2) rfl rfl rfl (C.2.2.2.2.1 _ (List.mem_cons_of_mem _ Z.2.2.1)) (C.2.2.2.2.1 _ (List.mem_cons_of_mem _ hm)) Z.1 hR, C.2.2.2.2.1 _ (List.mem_cons_of_mem _ Z.2.1)⟩ ⟨blind, pre_of C hP hS⟩ rfl hn hl.1 rfl (lv_room hc) d ⟨Nat.zero_le _, Nat.zero_le _⟩) hS (fun q _ h => AA_in hS q h) (AA_in hS) (fun r u t H1 locs1 ht hvm hw hB hz1 hk1 hS1 => ?_)
  exact kk r u hw H1 locs1 ls (by rw [← ht]; exact hB) hS1 hl
theorem gx_callNI (C : Cx E p s m args c cc own nL w0) {y : MethodName} {cy : ByteArray} {mL : Nat} {ret : Option FieldType} {fr lo n index : Nat} {host : String} {As rest : List Value} {post : Int32 → Mm → Prop} (h : CtI E y cy mL ret fr lo As σ post) (Z : zokS y cy mL ret n) (hn : As.length = n) (hm : va_Nw (.methodLinkNest own index y host) s) (hst : st = As.reverse ++ rest) (hc : (rest.map fun v => v.category).sum ≤ 8) (hR : fr + 1 ≤ R.frames ∧ 8 + (mL + 11) + lo ≤ R.locals) (d : decode cc pc = .ok (.invokestatic index, 3)) (kk : ∀ (r : Int32) (σ2 : Mm), post r σ2 → Gx E p e R s m args below meth c Q nL (pc + 3) lv (.int r :: rest) σ2) : Gx E p e R s m args below meth c Q nL pc lv (st) σ := fun H locs ls hP hS hl => by
  subst hst
  refine va_calli (va_runSN (As := As) (rest := rest) ⟨C.1, C.2.1, C.2.2.1, C.2.2.2.1, C.2.2.2.2.1⟩ (h H.size) ⟨va_cnB n C.2.2.2.2.1 (gw_all Z.2.2.2) rfl rfl rfl hm (C.2.2.2.2.1 _ (List.mem_cons_of_mem _ Z.2.2.1)) Z.1 hR, C.2.2.2.2.1 _ (List.mem_cons_of_mem _ Z.2.1), trivial⟩ ⟨blind, pre_of C hP hS⟩ rfl hn hl.1 rfl (lv_room hc) d ⟨Nat.zero_le _, Nat.zero_le _⟩) hS (fun q _ h => AA_in hS q h) (AA_in hS) (fun r u t H1 locs1 ht hvm hw hB hz1 hk1 hS1 => ?_)
  exact kk r u hw H1 locs1 ls (by rw [← ht]; exact hB) hS1 hl
theorem gx_callNV (C : Cx E p s m args c cc own nL w0) {y : MethodName} {cy : ByteArray} {mL : Nat} {ret : Option FieldType} {fr lo n index : Nat} {host : String} {As rest : List Value} {post : Mm → Prop} (h : CtV E y cy mL ret fr lo As σ post) (Z : zokS y cy mL ret n) (hn : As.length = n) (hm : va_Nw (.methodLinkNest own index y host) s) (hst : st = As.reverse ++ rest) (hc : (rest.map fun v => v.category).sum ≤ 8) (hR : fr + 1 ≤ R.frames ∧ 8 + (mL + 11) + lo ≤ R.locals) (d : decode cc pc = .ok (.invokestatic index, 3)) (kk : ∀ (σ2 : Mm), post σ2 → Gx E p e R s m args below meth c Q nL (pc + 3) lv (rest) σ2) : Gx E p e R s m args below meth c Q nL pc lv (st) σ := fun H locs ls hP hS hl => by
  subst hst
  refine va_callv (va_runSN (As := As) (rest := rest) ⟨C.1, C.2.1, C.2.2.1, C.2.2.2.1, C.2.2.2.2.1⟩ (h H.size) ⟨va_cnB n C.2.2.2.2.1 (gw_all Z.2.2.2) rfl rfl rfl hm (C.2.2.2.2.1 _ (List.mem_cons_of_mem _ Z.2.2.1)) Z.1 hR, C.2.2.2.2.1 _ (List.mem_cons_of_mem _ Z.2.1), trivial⟩ ⟨blind, pre_of C hP hS⟩ rfl hn hl.1 rfl (lv_room hc) d ⟨Nat.zero_le _, Nat.zero_le _⟩) hS (fun q _ h => AA_in hS q h) (AA_in hS) (fun u t H1 locs1 ht hvm hw hB hz1 hk1 hS1 => ?_)
  exact kk u hw H1 locs1 ls (by rw [← ht]; exact hB) hS1 hl
theorem gx_callNR (C : Cx E p s m args c cc own nL w0) {y : MethodName} {cy : ByteArray} {mL : Nat} {ret : Option FieldType} {fr lo n index : Nat} {host : String} {As rest : List Value} {post : Option Nat → Mm → Prop} (h : CtR E y cy mL ret fr lo As σ post) (Z : zokS y cy mL ret n) (hn : As.length = n) (hm : va_Nw (.methodLinkNest own index y host) s) (hst : st = As.reverse ++ rest) (hc : (rest.map fun v => v.category).sum ≤ 8) (hR : fr + 1 ≤ R.frames ∧ 8 + (mL + 11) + lo ≤ R.locals) (d : decode cc pc = .ok (.invokestatic index, 3)) (kk : ∀ (r : Option Nat) (σ2 : Mm), post r σ2 → Gx E p e R s m args below meth c Q nL (pc + 3) lv (va_rf r :: rest) σ2) : Gx E p e R s m args below meth c Q nL pc lv (st) σ := fun H locs ls hP hS hl => by
  subst hst
  refine va_callq (va_runSN (As := As) (rest := rest) ⟨C.1, C.2.1, C.2.2.1, C.2.2.2.1, C.2.2.2.2.1⟩ (h H.size) ⟨va_cnB n C.2.2.2.2.1 (gw_all Z.2.2.2) rfl rfl rfl hm (C.2.2.2.2.1 _ (List.mem_cons_of_mem _ Z.2.2.1)) Z.1 hR, C.2.2.2.2.1 _ (List.mem_cons_of_mem _ Z.2.1), trivial⟩ ⟨blind, pre_of C hP hS⟩ rfl hn hl.1 rfl (lv_room hc) d ⟨Nat.zero_le _, Nat.zero_le _⟩) hS (fun q _ h => AA_in hS q h) (AA_in hS) (fun r u t H1 locs1 ht hvm hw hB hz1 hk1 hS1 => ?_)
  exact kk r u hw H1 locs1 ls (by rw [← ht]; exact hB) hS1 hl
theorem gx_min (C : Cx E p s m args c cc own nL w0) {index : Nat} {x y : Int32} (hm : Cond.methodLink own index yJ9_min_7cf53 ∈ wsA) (hfr : 1 ≤ R.frames) (hlo : (st.map fun v => v.category).sum + 13 ≤ R.locals) (d : decode cc pc = .ok (.invokestatic index, 3)) (k : Gx E p e R s m args below meth c Q nL (pc + 3) lv (.int (if y < x then y else x) :: st) σ) : Gx E p e R s m args below meth c Q nL pc lv (.int y :: .int x :: st) σ := fun H locs ls hP hS hl =>
  va_mmin C.1 C.2.1 (C.2.2.1.trans hl.1.symm) C.2.2.2.1 (C.2.2.2.2.1 _ (List.mem_cons_of_mem _ hm)) (C.2.2.2.2.1 _ (List.mem_cons_of_mem _ wt_J9_min_7cf53)) (C.2.2.2.2.1 _ (List.mem_cons_of_mem _ wz_J9)) (C.2.2.2.2.1 _ (List.mem_cons_of_mem _ wc_J9_min_7cf53)) hfr hlo (Nat.zero_le _) (Nat.zero_le _) d (k H locs ls hP hS hl)
theorem T_AA {ty : FieldType} {t N : Nat} {f : Nat → Value} (h : va_T ty t N f (AW E) s s.heap) : va_T ty t N f (AA E s.heap.size) s s.heap := by
  obtain ⟨cell, h1, h2, h3, h4, h5, h6, h7⟩ := h
  exact ⟨cell, h1, h2, h3, h4, h5, h6, fun h => h.elim h7 (fun h8 => by have := (Array.getElem?_eq_some_iff.mp h1).1; omega)⟩
theorem Z_AA {C0 n0 d0 : String} {v : Value} (h : va_Z C0 n0 d0 v (AW E) s s.heap) : va_Z C0 n0 d0 v (AA E s.heap.size) s s.heap := by
  obtain ⟨cf, kf, fi, f, a, cell, h1, h2, h3, h4, h5, h6, h7, h8⟩ := h
  exact ⟨cf, kf, fi, f, a, cell, h1, h2, h3, h4, h5, h6, h7, fun h => h.elim h8 (fun h9 => by have := (Array.getElem?_eq_some_iff.mp h5).1; omega)⟩
theorem OF_AA {o n0 d0 : String} {v : Value} {t : Nat} (h : va_OF o n0 d0 v t (AW E) s s.heap) : va_OF o n0 d0 v t (AA E s.heap.size) s s.heap := by
  obtain ⟨cf, k, i, f, cell, h1, h2, h3, h4, h5, h6⟩ := h
  exact ⟨cf, k, i, f, cell, h1, h2, h3, h4, h5, fun h => h.elim h6 (fun h9 => by have := (Array.getElem?_eq_some_iff.mp h3).1; omega)⟩
theorem gx_stat (C : Cx E p s m args c cc own nL w0) {index q : Nat} {nm : String} (hZ : va_Z RX3 nm "[I" (.ref (eZ E q)) (AW E) s s.heap) (hm : Cond.fieldLink own index RX3 nm "[I" ∈ wsA) (d : decode cc pc = .ok (.getstatic index, 3)) (k : Gx E p e R s m args below meth c Q nL (pc + 3) lv (.ref (eZ E q) :: st) σ) : Gx E p e R s m args below meth c Q nL pc lv (st) σ := fun H locs ls hP hS hl =>
  va_gets C.1 C.2.1 (Z_AA hZ) hS C.2.2.2.1 (C.2.2.2.2.1 _ (List.mem_cons_of_mem _ hm)) (fun _ h => h) d (k H locs ls hP hS hl)
theorem gx_statN (C : Cx E p s m args c cc own nL w0) {index q : Nat} {nm host : String} (hZ : va_Z RX3 nm "[I" (.ref (eZ E q)) (AW E) s s.heap) (hm : va_Nw (.fieldLinkNest own index RX3 nm "[I" host) s) (d : decode cc pc = .ok (.getstatic index, 3)) (k : Gx E p e R s m args below meth c Q nL (pc + 3) lv (.ref (eZ E q) :: st) σ) : Gx E p e R s m args below meth c Q nL pc lv (st) σ := fun H locs ls hP hS hl =>
  va_getsN C.1 C.2.1 (Z_AA hZ) hS C.2.2.2.1 (va_Nw.use rfl hm) (fun _ h => h) d (k H locs ls hP hS hl)
theorem gx_ext (C : Cx E p s m args c cc own nL w0) {q N k : Nat} {x v : Int32} {f : Nat → Value} (hT : va_T .int (eZ E q) N f (AW E) s s.heap) (hx : x = nI k) (hk : k < N) (hN : N < 1000) (hv : f k = .int v) (d : decode cc pc = .ok (.iaload, 1)) (kk : Gx E p e R s m args below meth c Q nL (pc + 1) lv (.int v :: st) σ) : Gx E p e R s m args below meth c Q nL pc lv (.int x :: .ref (eZ E q) :: st) σ := fun H locs ls hP hS hl => by
  subst hx
  exact va_ti C.1 C.2.1 (T_AA hT) hS (vp_in_nI hk (by omega)) (by rw [nI_clamp (by omega)]; exact hv) d (kk H locs ls hP hS hl)
theorem gx_ldcS (q : Nat) (C : Cx E p s m args c cc own nL w0) {index : Nat} {tx : String} (hq : jOwn[q]? = some (own, index, tx)) (d : decode cc pc = .ok (.ldc index, 2)) (k : Gx E p e R s m args below meth c Q nL (pc + 2) lv (.ref (eZ E (100 + q)) :: st) σ) : Gx E p e R s m args below meth c Q nL pc lv (st) σ := fun H locs ls hP hS hl =>
  va_ldcS C.1 C.2.1 C.2.2.2.1 (C.2.2.2.2.2.2.2.2.2.2.2.2.2.1 q _ hq) d (k H locs ls hP hS hl)
def rw2 (σ : Mm) (i : Nat) (f : Nat → Int32) : Mm := fun j => if j = i then f else σ j
theorem rw2_o {σ : Mm} {i j : Nat} {f : Nat → Int32} (h : j ≠ i) : rw2 σ i f j = σ j := by simp [rw2, h]
theorem rw2_s {σ : Mm} {i : Nat} {f : Nat → Int32} : rw2 σ i f i = f := by simp [rw2]
theorem wd_setR (E : En) (σ : Mm) {i : Nat} {f : Nat → Int32} (h : i < 59) {x : va_E} (hx : ce E (rw2 σ i f) i = x) : (wd E σ).set i (eA E i, x) = wd E (rw2 σ i f) := by
  apply List.ext_getElem?
  intro j
  rw [List.getElem?_set]
  by_cases hj : i = j
  · subst hj
    rw [if_pos rfl, if_pos (by rw [wd_len]; exact h), wd_at E _ h, hx]
  · rw [if_neg hj]
    by_cases h9 : j < 59
    · rw [wd_at E σ h9, wd_at E _ h9, ce_o E (rw2_o (Ne.symm hj))]
    · simp [wd, h9]
theorem gx_copy (C : Cx E p s m args c cc own nL w0) {index i0 i1 n0 n1 sp dp n : Nat} (s0 : sh i0 = .inl (n0 + 1)) (s1 : sh i1 = .inl (n1 + 1)) (h0 : sp + n ≤ n0 + 1) (h1 : dp + n ≤ n1 + 1) (hb : n0 < 1000 ∧ n1 < 1000) (hm : Cond.methodLink own index arraycopyName ∈ wsA) (hfr : 1 ≤ R.frames) (hlo : (st.map fun v => v.category).sum + (nativeFrameWords "java/lang/System" "arraycopy" 5 + 11) ≤ R.locals) (d : decode cc pc = .ok (.invokestatic index, 3)) (kk : Gx E p e R s m args below meth c Q nL (pc + 3) lv (st) (rw2 σ i1 (va_cpy (σ i0) (σ i1) sp dp n))) : Gx E p e R s m args below meth c Q nL pc lv (.int (nI n) :: .int (nI dp) :: .ref (eA E i1) :: .int (nI sp) :: .ref (eA E i0) :: st) σ := fun H locs ls hP hS hl => by
  have c1 : (nI sp).toNatClampNeg = sp := nI_clamp (by omega)
  have c2 : (nI dp).toNatClampNeg = dp := nI_clamp (by omega)
  have c3 : (nI n).toNatClampNeg = n := nI_clamp (by omega)
  have hc : ce E (rw2 σ i1 (va_cpy (σ i0) (σ i1) sp dp n)) i1 = .inl (eI E, n1 + 1, .inl (va_cpy (σ i0) (σ i1) sp dp n)) := by rw [ce_arr s1, rw2_s]
  refine va_copyi C.1 C.2.1 (C.2.2.1.trans hl.1.symm) C.2.2.2.1 (C.2.2.2.2.1 _ (List.mem_cons_of_mem _ hm)) (C.2.2.2.2.1 _ (List.mem_cons_of_mem _ wn_arraycopyName)) (C.2.2.2.2.1 _ (List.mem_cons_of_mem _ wt_arraycopyName)) (C.2.2.2.2.1 _ (List.mem_cons_of_mem _ wz_J10)) C.2.2.2.2.2.1 hP (C.2.2.2.2.2.2.1 σ) hS i0 i1 0 0 ((wd_at E σ (sh_ltA s0)).trans (by rw [ce_arr s0])) ((wd_at E σ (sh_ltA s1)).trans (by rw [ce_arr s1])) rfl rfl rfl (nI_pos (by omega)) (nI_pos (by omega)) (nI_pos (by omega)) (by rw [c1, c3]; exact h0) (by rw [c2, c3]; exact h1) (fun i _ => rfl) hfr hlo d (fun H1 locs1 hP1 hD1 hS1 => ?_)
  rw [c1, c2, c3, wd_setR E σ (sh_ltA s1) hc] at hP1
  exact kk H1 locs1 ls hP1 hS1 hl
theorem gx_iret (C : Cx E p s m args c cc own nL w0) {post : Int32 → Mm → Prop} {v : Int32} {rt : FieldType} (hr : meth.sig.returnType = some rt) (hlk : meth.locks = false) (hn : narrow rt (.int v) = .int v) (hp : post v σ) (d : decode cc pc = .ok (.ireturn, 1)) : Gx E p e R s m args below meth c (MQ below (va_Qi post (WQ E) (AA E s.heap.size)) args s 0 0 (AA E s.heap.size)) nL pc lv [.int v] σ := fun H locs ls hP hS hl =>
  W.zret C.1 C.2.1 hr hn (fun t ht hW => ⟨⟨v, σ, rfl, hp, by show va_P _ _ _ t.heap; rw [ht]; exact hP⟩, hS.F ht⟩) hS.2.2 d hlk
theorem gx_vret (C : Cx E p s m args c cc own nL w0) {post : Mm → Prop} (hr : meth.sig.returnType = none) (hlk : meth.locks = false) (hp : post σ) (d : decode cc pc = .ok (.return_, 1)) : Gx E p e R s m args below meth c (MQ below (va_Qv post (WQ E) (AA E s.heap.size)) args s 0 0 (AA E s.heap.size)) nL pc lv [] σ := fun H locs ls hP hS hl =>
  W.vret C.1 C.2.1 hr (fun t ht hW => ⟨⟨σ, rfl, hp, by show va_P _ _ _ t.heap; rw [ht]; exact hP⟩, hS.F ht⟩) hS.2.2 d hlk
theorem gx_aret (C : Cx E p s m args c cc own nL w0) {post : Option Nat → Mm → Prop} {v : Option Nat} {n : String} (hr : meth.sig.returnType = some (.object n)) (hlk : meth.locks = false) (hp : post v σ) (d : decode cc pc = .ok (.areturn, 1)) : Gx E p e R s m args below meth c (MQ below (va_Qq post (WQ E) (AA E s.heap.size)) args s 0 0 (AA E s.heap.size)) nL pc lv [va_rf v] σ := fun H locs ls hP hS hl =>
  W.aret C.1 C.2.1 hr (Or.inl ⟨n, rfl⟩) (by cases v; exact Or.inl rfl; exact Or.inr ⟨_, rfl⟩) (fun t ht hW => ⟨⟨v, σ, rfl, hp, by show va_P _ _ _ t.heap; rw [ht]; exact hP⟩, hS.F ht⟩) hS.2.2 d hlk
end GX
theorem CtI.of {E : En} {y : MethodName} {cc : ByteArray} {mL : Nat} {ret : Option FieldType} {fr lo : Nat} {av : List Value} {σ : Mm} {post : Int32 → Mm → Prop} (hy : plainName y.cls = true) (hn : (lg_sl av).length ≤ mL)
    (h : ∀ (p : Program) (e : Env) (s : State) (m : MethodId) (below : List Frame) (meth : Method) (c : Code), Cx E p s m av.toArray c cc y.cls mL (.code y cc mL ret) → meth.sig.returnType = ret → meth.locks = false → Gx E p e (rmF fr lo) s m av.toArray below meth c (MQ below (va_Qi post (WQ E) (AA E s.heap.size)) av.toArray s 0 0 (AA E s.heap.size)) mL 0 (lv_args 0 av) [] σ) : CtI E y cc mL ret fr lo av σ post := by
  intro sz
  refine Met.ofW (cc := cc) (maxL := mL) (ret := ret) hy rfl ?_
  intro p e s m args below meth c s₁ B hml hv
  obtain ⟨rfl, hsz, hP, hK, hD0, hZ⟩ := hv
  subst hsz
  have hD : ∀ σ' : Mm, va_D (AA E s.heap.size) (wd E σ') := fun σ' => by
    refine ⟨fun i j a b hi hj hab => ?_, fun k q hk => ?_⟩
    · have hi2 : i < 59 := by have := (List.getElem?_eq_some_iff.mp hi).1; rwa [wd_len] at this
      have hj2 : j < 59 := by have := (List.getElem?_eq_some_iff.mp hj).1; rwa [wd_len] at this
      rw [wd_at E σ' hi2] at hi
      rw [wd_at E σ' hj2] at hj
      refine hD0.1 i j _ _ (wd_at E σ hi2) (wd_at E σ hj2) ?_
      have h1 := congrArg Prod.fst (Option.some.inj hi)
      have h2 := congrArg Prod.fst (Option.some.inj hj)
      exact h1.trans (hab.trans h2.symm)
    · have hk2 : k < 59 := by have := (List.getElem?_eq_some_iff.mp hk).1; rwa [wd_len] at this
      rw [wd_at E σ' hk2] at hk
      exact Or.inl ⟨k, hk2, (congrArg Prod.fst (Option.some.inj hk)).symm⟩
  have hC : Cx E p s m av.toArray c cc y.cls mL (.code y cc mL ret) := ⟨B.exec, B.bytes, hml, findClass_of_methodNamed B.named, atoms_spec (ws := .code y cc mL ret :: wsA) B.pre, hK, hD, hZ⟩
  have hl := lv_entry av (n := mL) hn
  rw [lg_entry_eq]
  exact h p e s m below meth c hC B.returns B.notSynchronized s.heap [] _ hP va_S.rf hl
theorem CtV.of {E : En} {y : MethodName} {cc : ByteArray} {mL : Nat} {ret : Option FieldType} {fr lo : Nat} {av : List Value} {σ : Mm} {post : Mm → Prop} (hy : plainName y.cls = true) (hn : (lg_sl av).length ≤ mL)
    (h : ∀ (p : Program) (e : Env) (s : State) (m : MethodId) (below : List Frame) (meth : Method) (c : Code), Cx E p s m av.toArray c cc y.cls mL (.code y cc mL ret) → meth.sig.returnType = ret → meth.locks = false → Gx E p e (rmF fr lo) s m av.toArray below meth c (MQ below (va_Qv post (WQ E) (AA E s.heap.size)) av.toArray s 0 0 (AA E s.heap.size)) mL 0 (lv_args 0 av) [] σ) : CtV E y cc mL ret fr lo av σ post := by
  intro sz
  refine Met.ofW (cc := cc) (maxL := mL) (ret := ret) hy rfl ?_
  intro p e s m args below meth c s₁ B hml hv
  obtain ⟨rfl, hsz, hP, hK, hD0, hZ⟩ := hv
  subst hsz
  have hD : ∀ σ' : Mm, va_D (AA E s.heap.size) (wd E σ') := fun σ' => by
    refine ⟨fun i j a b hi hj hab => ?_, fun k q hk => ?_⟩
    · have hi2 : i < 59 := by have := (List.getElem?_eq_some_iff.mp hi).1; rwa [wd_len] at this
      have hj2 : j < 59 := by have := (List.getElem?_eq_some_iff.mp hj).1; rwa [wd_len] at this
      rw [wd_at E σ' hi2] at hi
      rw [wd_at E σ' hj2] at hj
      refine hD0.1 i j _ _ (wd_at E σ hi2) (wd_at E σ hj2) ?_
      have h1 := congrArg Prod.fst (Option.some.inj hi)
      have h2 := congrArg Prod.fst (Option.some.inj hj)
      exact h1.trans (hab.trans h2.symm)
    · have hk2 : k < 59 := by have := (List.getElem?_eq_some_iff.mp hk).1; rwa [wd_len] at this
      rw [wd_at E σ' hk2] at hk
      exact Or.inl ⟨k, hk2, (congrArg Prod.fst (Option.some.inj hk)).symm⟩
  have hC : Cx E p s m av.toArray c cc y.cls mL (.code y cc mL ret) := ⟨B.exec, B.bytes, hml, findClass_of_methodNamed B.named, atoms_spec (ws := .code y cc mL ret :: wsA) B.pre, hK, hD, hZ⟩
  have hl := lv_entry av (n := mL) hn
  rw [lg_entry_eq]
  exact h p e s m below meth c hC B.returns B.notSynchronized s.heap [] _ hP va_S.rf hl
theorem CtR.of {E : En} {y : MethodName} {cc : ByteArray} {mL : Nat} {ret : Option FieldType} {fr lo : Nat} {av : List Value} {σ : Mm} {post : Option Nat → Mm → Prop} (hy : plainName y.cls = true) (hn : (lg_sl av).length ≤ mL)
    (h : ∀ (p : Program) (e : Env) (s : State) (m : MethodId) (below : List Frame) (meth : Method) (c : Code), Cx E p s m av.toArray c cc y.cls mL (.code y cc mL ret) → meth.sig.returnType = ret → meth.locks = false → Gx E p e (rmF fr lo) s m av.toArray below meth c (MQ below (va_Qq post (WQ E) (AA E s.heap.size)) av.toArray s 0 0 (AA E s.heap.size)) mL 0 (lv_args 0 av) [] σ) : CtR E y cc mL ret fr lo av σ post := by
  intro sz
  refine Met.ofW (cc := cc) (maxL := mL) (ret := ret) hy rfl ?_
  intro p e s m args below meth c s₁ B hml hv
  obtain ⟨rfl, hsz, hP, hK, hD0, hZ⟩ := hv
  subst hsz
  have hD : ∀ σ' : Mm, va_D (AA E s.heap.size) (wd E σ') := fun σ' => by
    refine ⟨fun i j a b hi hj hab => ?_, fun k q hk => ?_⟩
    · have hi2 : i < 59 := by have := (List.getElem?_eq_some_iff.mp hi).1; rwa [wd_len] at this
      have hj2 : j < 59 := by have := (List.getElem?_eq_some_iff.mp hj).1; rwa [wd_len] at this
      rw [wd_at E σ' hi2] at hi
      rw [wd_at E σ' hj2] at hj
      refine hD0.1 i j _ _ (wd_at E σ hi2) (wd_at E σ hj2) ?_
      have h1 := congrArg Prod.fst (Option.some.inj hi)
      have h2 := congrArg Prod.fst (Option.some.inj hj)
      exact h1.trans (hab.trans h2.symm)
    · have hk2 : k < 59 := by have := (List.getElem?_eq_some_iff.mp hk).1; rwa [wd_len] at this
      rw [wd_at E σ' hk2] at hk
      exact Or.inl ⟨k, hk2, (congrArg Prod.fst (Option.some.inj hk)).symm⟩
  have hC : Cx E p s m av.toArray c cc y.cls mL (.code y cc mL ret) := ⟨B.exec, B.bytes, hml, findClass_of_methodNamed B.named, atoms_spec (ws := .code y cc mL ret :: wsA) B.pre, hK, hD, hZ⟩
  have hl := lv_entry av (n := mL) hn
  rw [lg_entry_eq]
  exact h p e s m below meth c hC B.returns B.notSynchronized s.heap [] _ hP va_S.rf hl
theorem ck0 : ckok 0 RX0 TX0 15 tyX0 := ⟨rfl, fw_X0, tyX0_ok, nmX0⟩
theorem ck1 : ckok 1 RX1 TX1 3 tyX1 := ⟨rfl, fw_X1, tyX1_ok, nmX1⟩
theorem ck2 : ckok 2 RX2 TX2 6 tyX2 := ⟨rfl, fw_X2, tyX2_ok, nmX2⟩
theorem ck3 : ckok 3 RX3 TX3 7 tyX3 := ⟨rfl, fw_X3, tyX3_ok, nmX3⟩
theorem ck4 : ckok 4 RX4 TX4 16 tyX4 := ⟨rfl, fw_X4, tyX4_ok, nmX4⟩
