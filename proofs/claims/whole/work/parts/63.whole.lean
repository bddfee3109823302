/-! THE CLAIM OUT OF ONE WALK OF THE LAW'S BODY. Your part is whole_start (and what it stands on); all else here is the same for every law, but numbers. -/
def R_law : String := "TwoBelowLaw"
def lw_P (b : Addr) (xs : List Int32) (args : Array Value) (s : State) : Prop := args = #[.ref b] ∧ s.IntsAt b xs ∧ xs.length ≤ 384 ∧ (Jvm.Cond.and given_1 narrow_1).before args s = true
def lw_Q (_ : Array Value) (s : State) (o : Outcome) (t : State) : Prop := o = .returned (some (.int 1)) ∧ Framed s o t [] 600000 7302249
def lw_Z (below : List Frame) (a : Array Value) (s : State) : State → Prop := fun t => ∃ o, t.status = .running ∧ Ended t below o ∧ lw_Q a s o t
/-- the law's own end, with 1 on the stack, nothing written that was there before, its room as the claim has it -/
theorem lw_ret {p : Program} {l : Launch} {e : Env} {s : State} {m : MethodId} {below : List Frame} {meth : Method} {c : Code} {b : Nat} (hx : p.tables.exec = Jvm.exec) (hb : c.code = code) (hr : meth.sig.returnType = ret) (hlocks : meth.locks = false) {pc : Nat} {H : Heap} {ls : Array Slot} (hdg : decode code pc = .ok (.ireturn, 1)) : W p l e room_1 s m #[Value.ref b] below meth c H [] 600000 7302249 (lw_Z below #[Value.ref b] s) (F0 m pc ls [.int 1]) := by
  intro T hT X
  obtain ⟨fs, hret, hrun, hended, hW, hframe⟩ := X.leave (v := some (.int 1)) (hlocks := hlocks) (fun h => by rw [hr] at h; cases h)
  have hmeth' : T.vm.method? m = some meth := X.method'
  refine ⟨T.setFrames fs, ?_, .returned (some (.int 1)), hrun, hended, rfl, ⟨_, rfl⟩, hW, hframe⟩
  jvm_step X.here [X.here.top, hx, hb, hdg, hmeth', hr, ret, narrow_b1]
  (try refine ⟨rfl, ?_⟩); (try refine ⟨rfl, ?_⟩)
  first | (intro acts; rw [hret _ acts rfl rfl rfl]) | rw [hret _ _ rfl rfl rfl]
  exact Steps.refl _
/-- what holds at the law's entry: the machine, the code, the tables' words (any of lw_tbl by 'hts w (by decide +kernel)'), the script of L ints xs at the cell b, what the Statement gives of the start (any of its parts by flat_of_before) -/
def lw_At (p : Program) (s : State) (m : MethodId) (meth : Method) (c : Code) (b L : Nat) (xs : Nat → Int32) : Prop :=
  p.tables.exec = Jvm.exec ∧ c.code = code ∧ meth.sig.returnType = ret ∧ c.maxLocals = 4 ∧ s.vm.findClass R_law = some m.cls ∧ (∀ w ∈ lw_tbl, w.before #[Value.ref b] s = true) ∧ va_X b L xs s s.heap ∧ b < s.heap.size ∧ meth.locks = false ∧ (Jvm.Cond.and given_1 narrow_1).before #[Value.ref b] s = true
theorem wd_D {E : En} {A B : Nat → Prop} {σ σ' : Mm} (hD0 : va_D A (wd E σ)) (hB : ∀ i, i < 59 → B (eA E i)) : va_D B (wd E σ') := by
  refine ⟨fun i j a b hi hj hab => ?_, fun k q hk => ?_⟩
  · have hi2 : i < 59 := by have := (List.getElem?_eq_some_iff.mp hi).1; rwa [wd_len] at this
    have hj2 : j < 59 := by have := (List.getElem?_eq_some_iff.mp hj).1; rwa [wd_len] at this
    rw [wd_at E σ' hi2] at hi
    rw [wd_at E σ' hj2] at hj
    refine hD0.1 i j _ _ (wd_at E σ hi2) (wd_at E σ hj2) ?_
    have h1 := congrArg Prod.fst (Option.some.inj hi)
    have h2 := congrArg Prod.fst (Option.some.inj hj)
    exact h1.trans (hab.trans h2.symm)
  · have hk2 : k < 59 := by have := (List.getElem?_eq_some_iff.mp hk).1; rwa [wd_len] at this
    rw [wd_at E σ' hk2] at hk
    rw [← Option.some.inj hk]
    exact hB k hk2
set_option maxHeartbeats 4000000 in
set_option maxRecDepth 100000 in
theorem whole_start {p : Program} {e : Env} {s : State} {m : MethodId} {below : List Frame} {meth : Method} {c : Code} (l : Launch) (hflags : l.flags = flags0) {b L : Nat} {xs : Nat → Int32} (hL : L ≤ 384) (C0 : lw_At p s m meth c b L xs) : W p l e room_1 s m #[Value.ref b] below meth c s.heap [] 0 0 (lw_Z below #[Value.ref b] s) (entryFrame m ([Value.ref b] : List Value).toArray 4) := by
  obtain ⟨hx, hb, hr, hml, hown, hts, hX, hbl, hlk, hgv⟩ := C0
  have hs := flat_of_before _ hgv
  obtain ⟨D, cI, cS, hK⟩ := K_of hts
  obtain ⟨z0, hZ0⟩ := Sto_of hs hts
  obtain ⟨z, hZ⟩ := Stc_of hs hts
  have htA : ∀ w ∈ Cond.arrayClass .int :: wsA, w.before #[Value.ref b] s = true := fun w h => (List.mem_cons.mp h).elim (fun h => h ▸ hts _ (tb_A ac_int)) (fun h => hts _ (tb_A h))
  have C : Cy D cI cS z0 (hiA s) p s m #[Value.ref b] c cL_law RL 4 (Cond.arrayClass .int) := ⟨hx, hb, hml, hown, htA, hK, fun q h => h, hZ0⟩
  have key : Gy l D (hiA s) p e room_1 s m #[Value.ref b] below meth c (lw_Z below #[Value.ref b] s) 4 0 [(0, .ref b)] [] [] 0 0 := by
    refine gy_new C ck3 [.null, .null, .int 0, .null, .null, .null, .null] (by decide) cl_L_7 wb_X3 wz_X3 (Nat.le_of_ble_eq_true rfl) (Nat.le_of_ble_eq_true rfl) dL_law_0 (fun q1 => ?_)
    refine gy_num (k' := 1) (n' := 7) rfl rfl ?_
    refine gy_ws (ws2 := [(q1, .inr (3, [.null, .null, .int 0, .null, .null, .null, .null]))]) rfl ?_
    refine gy_dup C (by rfl) dL_law_3 ?_
    refine gy_callI (wr := []) C (c_X3_init l D cI cS z0 q1) 0 [] rfl rfl (by decide +kernel) (by decide +kernel) rfl wi_X3_init wc_X3_init wz_X3 (Or.inl ml_L_9) ⟨by decide, by decide, by decide +kernel⟩ (Nat.le_of_ble_eq_true rfl) ⟨(Nat.le_of_ble_eq_true rfl), (Nat.le_of_ble_eq_true rfl)⟩ ⟨(Nat.le_of_ble_eq_true rfl), (Nat.le_of_ble_eq_true rfl)⟩ dL_law_4 (fun u eu => ?_)
    subst eu
    refine gy_num (k' := 49) (n' := 700) rfl rfl ?_
    refine gy_ws (ws2 := wX3 cI cS u) rfl ?_
    refine gy_astore_n (lv2 := [(1, .ref (u 0)), (0, .ref b)]) C dL_law_7 (by rfl) (by decide) rfl ?_
    refine gy_new C ck4 [.null, .null, .null, .null, .int 0, .null, .null, .int 0, .int 0, .int 0, .int 0, .int 0, .int 0, .null, .null, .null] (by decide) cl_L_10 wb_X4 wz_X4 (Nat.le_of_ble_eq_true rfl) (Nat.le_of_ble_eq_true rfl) dL_law_8 (fun q2 => ?_)
    refine gy_num (k' := 50) (n' := 716) rfl rfl ?_
    refine gy_dup C (by rfl) dL_law_11 ?_
    refine gy_callI (wr := wX3 cI cS u) C (c_X4_init l D cI cS z0 q2) 49 (List.range 49) rfl rfl (by decide +kernel) (by decide +kernel) rfl wi_X4_init wc_X4_init wz_X4 (Or.inl ml_L_12) ⟨by decide, by decide, by decide +kernel⟩ (Nat.le_of_ble_eq_true rfl) ⟨(Nat.le_of_ble_eq_true rfl), (Nat.le_of_ble_eq_true rfl)⟩ ⟨(Nat.le_of_ble_eq_true rfl), (Nat.le_of_ble_eq_true rfl)⟩ dL_law_12 (fun v ev => ?_)
    subst ev
    refine gy_num (k' := 59) (n' := 1447) rfl rfl ?_
    refine gy_astore_n (lv2 := [(2, .ref (v 0)), (1, .ref (u 0)), (0, .ref b)]) C dL_law_15 (by rfl) (by decide) rfl ?_
    refine gy_iconst (v := 0) C dL_law_16 (by decide) ?_
    refine gy_istore_n (lv2 := [(3, .int 0), (2, .ref (v 0)), (1, .ref (u 0)), (0, .ref b)]) C dL_law_17 (by rfl) (by decide) rfl ?_
    intro H locs ls hP hD hS hl
    obtain ⟨hP2, hD2⟩ := wd_of l D cI cS z u v H hP hD
    generalize hEe : ((l, D, cI, cS, aUV u v, z) : En) = E at hP2 hD2
    have hge : ∀ i, i < 59 → s.heap.size ≤ eA E i := fun i hi => hD2.2 i _ (wd_at E iS hi)
    have hLe : eL E = l := by rw [← hEe]
    have hDe : eD E = D := by rw [← hEe]
    have hu0 : eA E 0 = u 0 := by rw [← hEe]; rfl
    have hv0 : eA E 49 = v 0 := by rw [← hEe]; rfl
    have hSt : Stc E (AW E) s s.heap := (hZ E (by rw [← hEe])).nw (fun q ⟨i, hi, e1⟩ => by rw [e1]; exact hge i hi)
    have hKE : va_K (eD E) vwCl (tysE E) s := by rw [← hEe]; exact hK
    have hCx : Cx E p s m #[Value.ref b] c cL_law RL 4 (Cond.arrayClass .int) := ⟨hx, hb, hml, hown, htA, hKE, fun σ => wd_D hD2 (fun i hi => Or.inl ⟨i, hi, rfl⟩), hSt⟩
    have LC : LwC E p s m c b L xs := ⟨hCx, hX, hbl, fun h => h.elim (fun ⟨i, hi, e1⟩ => by have := hge i hi; omega) (fun h => by omega), hL⟩
    have hS2 : va_S (AA E s.heap.size) s.heap H locs := ⟨hS.1, fun q h1 h2 => hS.2.1 q h1 (fun h => h2 (Or.inr h)), fun q hq => Or.inr (hS.2.2 q hq)⟩
    have hl2 : lv_has ls 4 (lvL E b 0) := by
      rw [show lvL E b 0 = [(0, .ref b), (1, .ref (u 0)), (2, .ref (v 0)), (3, .int 0)] by unfold lvL; rw [hu0, hv0]; rfl]
      exact lv_sub hl [3, 2, 1, 0] rfl
    have hend : ∀ (i : Nat) (σ : Mm), GlL E p e s m b below meth c (lw_Z below #[Value.ref b] s) 1492 i [] σ := fun i σ H locs ls hP hS hl => by
      refine lv_iconst (v := 1) hx hb dL_law_1492 (by decide) ?_
      refine W.widen (k := 600000) (n := 7302249) (Nat.le_of_ble_eq_true rfl) (Nat.le_of_ble_eq_true rfl) ?_
      refine va_forget (fun q hq => ?_) ?_
      · rcases hS.2.2 q hq with ⟨i, hi, e1⟩ | h
        · rw [e1]; exact hge i hi
        · exact h
      · exact lw_ret hx hb hr hlk dL_law_1493
    have fin := lw_loop LC hend 400 0 iS A0 (by omega) (by omega) CR0 MR0 H locs ls (by rw [hDe]; exact hP2) hS2 hl2
    rw [hLe] at fin
    exact fin
  have hl := lv_entry ([Value.ref b] : List Value) (n := 4) (Nat.le_of_ble_eq_true rfl)
  rw [lg_entry_eq]
  exact key s.heap [] _ (fun k q hk => by simp at hk) ⟨fun i j p q h => by simp at h, fun k q h => by simp at h⟩ va_S.rf hl
