/-! statics, texts, classes at the start -/
theorem hiA_n {s : State} : ∀ a : Nat, a < s.heap.size → ¬ hiA s a := fun a h q => absurd h (Nat.not_lt.mpr q)
/-- a static array of whole numbers -/
theorem sArr {args : Array Value} {s : State} (hs : ∀ c ∈ flatC gnC, c.before args s = true) (hts : ∀ w ∈ lw_tbl, w.before args s = true) (nm : String) (N : Nat) (f : Nat → Int32) (hN : N < 2 ^ 31) (hl : Cond.laysStatic RX3 nm "[I" ∈ lw_tbl) (h : Cond.arrayOf (.static RX3 nm "[I") .int ∈ flatC gnC ∧ Cond.eq (.length (.static RX3 nm "[I")) (.int (Int32.ofNat N)) ∈ flatC gnC ∧ ∀ j, j < N → Cond.eq (.elem (.static RX3 nm "[I") (.int (Int32.ofNat j))) (.int (f j)) ∈ flatC gnC) : ∃ t : Nat, va_Z RX3 nm "[I" (.ref t) (hiA s) s s.heap ∧ va_T .int t N (fun j => .int (f j)) (hiA s) s s.heap := by
  obtain ⟨t, ht, hT⟩ := va_Tof (f := fun j => .int (f j)) (A := hiA s) hN (hs _ h.1) (va_eqt (hs _ h.2.1)) (fun j hj => va_eqt (hs _ (h.2.2 j hj))) hiA_n
  exact ⟨t, va_Zof (hts _ hl) (hts _ (tb_A wz_X3)) ht hiA_n, hT⟩
theorem sTxt {args : Array Value} {s : State} (hs : ∀ c ∈ flatC gnC, c.before args s = true) : ∃ ad : Nat → Nat × Nat, ∀ i, i < 34 → (sTm i).eval args s none [] s = some (.ref (ad i).1) ∧ va_O "java/lang/String" (ad i).1 (hiA s) s s.heap ∧ va_OF "java/lang/String" "coder" "B" (.int 0) (ad i).1 (hiA s) s s.heap ∧ va_OF "java/lang/String" "value" "[B" (.ref (ad i).2) (ad i).1 (hiA s) s s.heap ∧ va_T .byte (ad i).2 (jByt.getD i []).length (fun j => .int ((jByt.getD i []).getD j 0)) (hiA s) s s.heap := by
  have h0 : ∀ i : Nat, ∃ q : Nat × Nat, i < 34 → (sTm i).eval args s none [] s = some (.ref q.1) ∧ va_O "java/lang/String" q.1 (hiA s) s s.heap ∧ va_OF "java/lang/String" "coder" "B" (.int 0) q.1 (hiA s) s s.heap ∧ va_OF "java/lang/String" "value" "[B" (.ref q.2) q.1 (hiA s) s s.heap ∧ va_T .byte q.2 (jByt.getD i []).length (fun j => .int ((jByt.getD i []).getD j 0)) (hiA s) s s.heap := by
    intro i
    by_cases hi : i < 34
    · obtain ⟨a, c, cA, kA, q1, q2, q3, q4, q5, q6, -⟩ := Cond.exactly_spec (args := args) (first := s) (o := none) (s := s) (idx := []) (t := sTm i) (cls := "java/lang/String") (hs _ (fs_ex i hi))
      have hlen := jB_len i hi
      obtain ⟨t, ht, hT⟩ := va_Tof (f := fun j => .int ((jByt.getD i []).getD j 0)) (A := hiA s) (by omega) (hs _ (fs_ar i hi)) (va_eqt (hs _ (fs_le i hi))) (fun j hj => va_eqt (hs _ (fs_el i hi j hj))) hiA_n
      exact ⟨(a, t), fun _ => ⟨q1, ⟨cA, q3, q5, by rw [q6]; exact q2, hiA_n a (Array.getElem?_eq_some_iff.mp q3).1⟩, vk_OFof q1 (va_eqt (hs _ (fs_co i hi))) hiA_n, vk_OFof q1 ht hiA_n, hT⟩⟩
    · exact ⟨(0, 0), fun h => absurd h hi⟩
  obtain ⟨ad, had⟩ := Classical.axiomOfChoice h0
  exact ⟨ad, had⟩
theorem Stc_of {args : Array Value} {s : State} (hs : ∀ c ∈ flatC gnC, c.before args s = true) (hts : ∀ w ∈ lw_tbl, w.before args s = true) : ∃ z : Nat → Nat, ∀ E : En, eZ E = z → Stc E (hiA s) s s.heap := by
  obtain ⟨t0, z0, T0⟩ := sArr hs hts "UNDER" 7 (fun j => jUnder.getD j 0) (by decide) (tb_2 218 (by decide +kernel)) fx_under
  obtain ⟨t1, z1, T1⟩ := sArr hs hts "LEAST_OF_LAW" 3 (fun j => jLeast.getD j 0) (by decide) (tb_1 211 (by decide +kernel)) fx_least
  obtain ⟨t2, z2, T2⟩ := sArr hs hts "MOST_OF_LAW" 3 (fun j => jMost.getD j 0) (by decide) (tb_1 213 (by decide +kernel)) fx_most
  obtain ⟨ad, had⟩ := sTxt hs
  refine ⟨fun k => if k = 0 then t0 else if k = 1 then t1 else if k = 2 then t2 else if k < 200 then (ad (k - 100)).1 else (ad (k - 200)).2, fun E hE => ?_⟩
  have e0 : eZ E 0 = t0 := by rw [hE]; rfl
  have e1 : eZ E 1 = t1 := by rw [hE]; rfl
  have e2 : eZ E 2 = t2 := by rw [hE]; rfl
  have e3 : ∀ i, i < 34 → eZ E (100 + i) = (ad i).1 := fun i hi => by
    rw [hE]
    show (if 100 + i = 0 then t0 else if 100 + i = 1 then t1 else if 100 + i = 2 then t2 else if 100 + i < 200 then (ad (100 + i - 100)).1 else (ad (100 + i - 200)).2) = _
    rw [if_neg (by omega), if_neg (by omega), if_neg (by omega), if_pos (by omega), show 100 + i - 100 = i by omega]
  have e4 : ∀ i, i < 34 → eZ E (200 + i) = (ad i).2 := fun i hi => by
    rw [hE]
    show (if 200 + i = 0 then t0 else if 200 + i = 1 then t1 else if 200 + i = 2 then t2 else if 200 + i < 200 then (ad (200 + i - 100)).1 else (ad (200 + i - 200)).2) = _
    rw [if_neg (by omega), if_neg (by omega), if_neg (by omega), if_neg (by omega), show 200 + i - 200 = i by omega]
  refine ⟨by rw [e0]; exact ⟨z0, T0⟩, by rw [e1]; exact ⟨z1, T1⟩, by rw [e2]; exact ⟨z2, T2⟩, va_Zof (hts _ (tb_3 65 (by decide +kernel))) (hts _ (tb_A wz_J0)) (va_eqi (hs _ fx_jdk.1)) hiA_n, va_Zqof (hts _ (tb_3 81 (by decide +kernel))) (hts _ (tb_A wz_J3)) (hs _ fx_jdk.2) hiA_n, fun i hi => ?_, fun i q hq => ?_, ?_⟩
  · unfold jTxt
    rw [e3 i hi, e4 i hi]
    exact (had i hi).2
  · have hi : i < 34 := by have := (List.getElem?_eq_some_iff.mp hq).1; rwa [jOwn_len] at this
    have hqe : q = sOw i := by unfold sOw; rw [List.getD_eq_getElem?_getD, hq]; rfl
    rw [hqe, e3 i hi]
    exact vk_R.of (hts _ (fs_rf i hi)) (had i hi).1
  · exact ⟨va_Nw.of rfl (hts _ (tb_1 235 (by decide +kernel))), va_Nw.of rfl (hts _ (tb_2 214 (by decide +kernel))), va_Nw.of rfl (hts _ (tb_3 112 (by decide +kernel))), va_Nw.of rfl (hts _ (tb_3 139 (by decide +kernel))), va_Nw.of rfl (hts _ (tb_3 126 (by decide +kernel))), va_Nw.of rfl (hts _ (tb_3 127 (by decide +kernel)))⟩
theorem Sto_of {args : Array Value} {s : State} (hs : ∀ c ∈ flatC gnC, c.before args s = true) (hts : ∀ w ∈ lw_tbl, w.before args s = true) : ∃ z0 : Nat, Sto z0 (hiA s) s s.heap := by
  obtain ⟨t, z, T⟩ := sArr hs hts "FIRST_OF_LAW" 3 (fun j => jFirst.getD j 0) (by decide) (tb_1 28 (by decide +kernel)) fx_first
  exact ⟨t, ⟨z, T⟩, va_Nw.of rfl (hts _ (tb_1 27 (by decide +kernel))), va_Nw.of rfl (hts _ (tb_1 100 (by decide +kernel))), va_Nw.of rfl (hts _ (tb_1 128 (by decide +kernel))), va_AO.of (hts _ (tb_1 126 (by decide +kernel)))⟩
theorem K_of {args : Array Value} {s : State} (hts : ∀ w ∈ lw_tbl, w.before args s = true) : ∃ (D : va_G) (cI cS : ClassId), va_K D vwCl (tyE cI cS) s := by
  have htA : ∀ w ∈ wsA, w.before args s = true := fun w h => hts w (tb_A h)
  obtain ⟨c0, i0, k0⟩ := u_known (C := RX0) (T := TX0) (N := 15) htA fw_X0 (htA _ wb_X0)
  obtain ⟨c1, i1, k1⟩ := u_known (C := RX1) (T := TX1) (N := 3) htA fw_X1 (htA _ wb_X1)
  obtain ⟨c2, i2, k2⟩ := u_known (C := RX2) (T := TX2) (N := 6) htA fw_X2 (htA _ wb_X2)
  obtain ⟨c3, i3, k3⟩ := u_known (C := RX3) (T := TX3) (N := 7) htA fw_X3 (htA _ wb_X3)
  obtain ⟨c4, i4, k4⟩ := u_known (C := RX4) (T := TX4) (N := 16) htA fw_X4 (htA _ wb_X4)
  obtain ⟨cI, kI, cpI, f1, f2, f3⟩ := Cond.arrayClass_spec (htA _ ac_int)
  obtain ⟨cpS, cS, kS, g1, -, g2, g3, g4⟩ := Cond.arrayOver_spec (n := RX1) (hts _ (tb_1 126 (by decide +kernel)))
  refine ⟨(fun c => [c0, c1, c2, c3, c4].getD c 0, fun c => [i0, i1, i2, i3, i4].getD c i0), cI, cS, fun c q hq => ?_, fun k q hq => ?_⟩
  · match c, hq with
    | 0, hq => cases hq; exact k0
    | 1, hq => cases hq; exact k1
    | 2, hq => cases hq; exact k2
    | 3, hq => cases hq; exact k3
    | 4, hq => cases hq; exact k4
    | c + 5, hq => simp at hq
  · match k, hq with
    | 0, hq => cases hq; exact ⟨fun n z => ⟨fun k h => (by cases h), kI, f2, cpI, f3⟩, f1⟩
    | 1, hq => cases hq; exact ⟨fun n z => ⟨fun k h => (by cases h), kS, g2, cpS, g3⟩, kS, cpS, g2, g3, g1, g4⟩
    | k + 2, hq => simp at hq
theorem Stc.nw {E : En} {A B : Nat → Prop} {U : State} {H : Heap} (h : Stc E A U H) (hAB : ∀ q, B q → A q) : Stc E B U H := by
  obtain ⟨⟨a1, a2⟩, ⟨b1, b2⟩, ⟨c1, c2⟩, d, f, g, k, n⟩ := h
  exact ⟨⟨a1.narrow hAB, a2.narrow hAB⟩, ⟨b1.narrow hAB, b2.narrow hAB⟩, ⟨c1.narrow hAB, c2.narrow hAB⟩, d.narrow hAB, f.narrow hAB, fun i hi => ⟨(g i hi).1.narrow hAB, (g i hi).2.1.narrow hAB, (g i hi).2.2.1.narrow hAB, (g i hi).2.2.2.narrow hAB⟩, k, n⟩
