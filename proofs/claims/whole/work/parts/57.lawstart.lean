/-! the start of the law: what the tables and the premises give -/
theorem sw_arrI {args : Array Value} {s : State} (h : (Cond.arrayClass .int).before args s = true) : ∃ cA : ClassId, ArrOfT s cA .int ∧ va_RA s cA .int := by
  obtain ⟨cA, kA, comp, h1, h2, h3⟩ := Cond.arrayClass_spec h
  exact ⟨cA, fun n z => ⟨fun k q => (by cases q), kA, h2, comp, h3⟩, h1⟩
theorem sw_arrZ {args : Array Value} {s : State} (h : (Cond.arrayClass .boolean).before args s = true) : ∃ cA : ClassId, ArrOfT s cA .boolean ∧ va_RA s cA .boolean := by
  obtain ⟨cA, kA, comp, h1, h2, h3⟩ := Cond.arrayClass_spec h
  exact ⟨cA, fun n z => ⟨fun k q => (by cases q), kA, h2, comp, h3⟩, h1⟩
theorem sw_arrC {args : Array Value} {s : State} (h : (Cond.arrayClass .char).before args s = true) : ∃ cA : ClassId, ArrOfT s cA .char ∧ va_RA s cA .char := by
  obtain ⟨cA, kA, comp, h1, h2, h3⟩ := Cond.arrayClass_spec h
  exact ⟨cA, fun n z => ⟨fun k q => (by cases q), kA, h2, comp, h3⟩, h1⟩
theorem sw_arrB {args : Array Value} {s : State} (h : (Cond.arrayClass .byte).before args s = true) : ∃ cA : ClassId, ArrOfT s cA .byte ∧ va_RA s cA .byte := by
  obtain ⟨cA, kA, comp, h1, h2, h3⟩ := Cond.arrayClass_spec h
  exact ⟨cA, fun n z => ⟨fun k q => (by cases q), kA, h2, comp, h3⟩, h1⟩
theorem sw_arrQ {args : Array Value} {s : State} {C : String} (h : (Cond.arrayOver (.object C)).before args s = true) : ∃ cA : ClassId, ArrOfT s cA (.object C) ∧ va_RA s cA (.object C) := by
  obtain ⟨comp, cA, kA, h1, h2, h3, h4, h5⟩ := Cond.arrayOver_spec h
  exact ⟨cA, fun n z => ⟨fun k q => (by cases q), kA, h3, comp, h4⟩, kA, comp, h3, h4, h1, h5⟩
theorem sw_words {args : Array Value} {s : State} (hts : ∀ w ∈ lw_tbl, w.before args s = true) : ∀ w ∈ BIG, w.before args s = true := by
  intro w hw
  rcases List.mem_append.mp (big_ok w hw).1 with h | h
  · exact hts w h
  · rcases List.mem_cons.mp h with h1 | h1
    · rw [h1]
      exact sel_priv (nn := 4) ⟨by decide +kernel, by decide +kernel⟩ (hts _ (List.mem_of_getElem? (i := 277) (by decide +kernel))) (hts _ (List.mem_of_getElem? (i := 1475) (by decide +kernel))) (hts _ (List.mem_of_getElem? (i := 793) (by decide +kernel))) (hts _ (List.mem_of_getElem? (i := 794) (by decide +kernel)))
    · rw [List.mem_singleton.mp h1]
      exact sel_priv (nn := 4) ⟨by decide +kernel, by decide +kernel⟩ (hts _ (List.mem_of_getElem? (i := 277) (by decide +kernel))) (hts _ (List.mem_of_getElem? (i := 1476) (by decide +kernel))) (hts _ (List.mem_of_getElem? (i := 797) (by decide +kernel))) (hts _ (List.mem_of_getElem? (i := 798) (by decide +kernel)))
theorem sw_K {args : Array Value} {s : State} (hb : ∀ w ∈ BIG, w.before args s = true) : ∃ D : va_G, ∀ (c : Nat) (q : vw_C), vwCl[c]? = some q → u_Kn s q.1 q.2.1 q.2.2 (D.1 c) (D.2 c) := by
  have h : ∀ c : Nat, ∃ r : ClassId × (Nat → Nat), ∀ q : vw_C, vwCl[c]? = some q → u_Kn s q.1 q.2.1 q.2.2 r.1 r.2 := by
    intro c
    by_cases hc : c < 8
    · rcases (show c = 0 ∨ c = 1 ∨ c = 2 ∨ c = 3 ∨ c = 4 ∨ c = 5 ∨ c = 6 ∨ c = 7 by omega) with rfl | rfl | rfl | rfl | rfl | rfl | rfl | rfl
      · obtain ⟨a, i, h⟩ := u_known (C := RJ4) (T := TJ4) (N := 4) (n := 4) hb clJ4.2.1 (hb _ (big_at 277 (by decide +kernel) (by decide +kernel)))
        exact ⟨(a, i), fun q hq => by cases hq; exact h⟩
      · obtain ⟨a, i, h⟩ := u_known (C := RX0) (T := TX0) (N := 18) (n := 18) hb clX0.2.1 (hb _ (big_at 90 (by decide +kernel) (by decide +kernel)))
        exact ⟨(a, i), fun q hq => by cases hq; exact h⟩
      · obtain ⟨a, i, h⟩ := u_known (C := RX1) (T := TX1) (N := 7) (n := 7) hb clX1.2.1 (hb _ (big_at 271 (by decide +kernel) (by decide +kernel)))
        exact ⟨(a, i), fun q hq => by cases hq; exact h⟩
      · obtain ⟨a, i, h⟩ := u_known (C := RX2) (T := TX2) (N := 3) (n := 3) hb clX2.2.1 (hb _ (big_at 177 (by decide +kernel) (by decide +kernel)))
        exact ⟨(a, i), fun q hq => by cases hq; exact h⟩
      · obtain ⟨a, i, h⟩ := u_known (C := RX3) (T := TX3) (N := 4) (n := 4) hb clX3.2.1 (hb _ (big_at 251 (by decide +kernel) (by decide +kernel)))
        exact ⟨(a, i), fun q hq => by cases hq; exact h⟩
      · obtain ⟨a, i, h⟩ := u_known (C := RX4) (T := TX4) (N := 12) (n := 12) hb clX4.2.1 (hb _ (big_at 197 (by decide +kernel) (by decide +kernel)))
        exact ⟨(a, i), fun q hq => by cases hq; exact h⟩
      · obtain ⟨a, i, h⟩ := u_known (C := RX5) (T := TX5) (N := 11) (n := 11) hb clX5.2.1 (hb _ (big_at 82 (by decide +kernel) (by decide +kernel)))
        exact ⟨(a, i), fun q hq => by cases hq; exact h⟩
      · obtain ⟨a, i, h⟩ := u_known (C := RX6) (T := TX6) (N := 27) (n := 27) hb clX6.2.1 (hb _ (big_at 1097 (by decide +kernel) (by decide +kernel)))
        exact ⟨(a, i), fun q hq => by cases hq; exact h⟩
    · exact ⟨(0, fun _ => 0), fun q hq => absurd (List.getElem?_eq_some_iff.mp hq).1 hc⟩
  obtain ⟨f, hf⟩ := Classical.axiomOfChoice h
  exact ⟨(fun c => (f c).1, fun c => (f c).2), hf⟩
theorem sw_five {args : Array Value} {s : State} {A : Nat → Prop} (hts : ∀ w ∈ lw_tbl, w.before args s = true) (hg : (Jvm.Cond.and given_1 narrow_1).before args s = true) (hA : ∀ a : Nat, a < s.heap.size → ¬ A a) : ∃ t : Nat → Nat, ∀ i, 198 ≤ i → i < 203 → va_Z "ExamBoard" (sNm i) "[I" (.ref (t i)) A s s.heap ∧ va_T .int (t i) (sLn i) (fun j => .int (oi (sVl i j))) A s s.heap := by
  have hs := flat_of_before _ hg
  have k0 : ∀ j : Nat, j < 5 → Cond.eq (.elem (.static "ExamBoard" "LEAST_SETTING" "[I") (.int (Int32.ofNat j))) (.int (oi (sVl 198 j))) ∈ flatC (Jvm.Cond.and given_1 narrow_1) := by decide +kernel
  obtain ⟨t0, e0, T0⟩ := va_Tof (tm := (.static "ExamBoard" "LEAST_SETTING" "[I")) (ty := .int) (N := 5) (f := fun j => .int (oi (sVl 198 j))) (A := A) (by decide) (hs _ (by decide +kernel)) (va_eqt (z := Int32.ofNat 5) (hs _ (by decide +kernel))) (fun j hj => va_eqt (hs _ (k0 j hj))) hA
  have z0 := va_Zof (hts _ (List.mem_of_getElem? (i := 384) (by decide +kernel))) (hts _ (List.mem_of_getElem? (i := 62) (by decide +kernel))) e0 hA
  have k1 : ∀ j : Nat, j < 5 → Cond.eq (.elem (.static "ExamBoard" "GREATEST_SETTING" "[I") (.int (Int32.ofNat j))) (.int (oi (sVl 199 j))) ∈ flatC (Jvm.Cond.and given_1 narrow_1) := by decide +kernel
  obtain ⟨t1, e1, T1⟩ := va_Tof (tm := (.static "ExamBoard" "GREATEST_SETTING" "[I")) (ty := .int) (N := 5) (f := fun j => .int (oi (sVl 199 j))) (A := A) (by decide) (hs _ (by decide +kernel)) (va_eqt (z := Int32.ofNat 5) (hs _ (by decide +kernel))) (fun j hj => va_eqt (hs _ (k1 j hj))) hA
  have z1 := va_Zof (hts _ (List.mem_of_getElem? (i := 386) (by decide +kernel))) (hts _ (List.mem_of_getElem? (i := 62) (by decide +kernel))) e1 hA
  have k2 : ∀ j : Nat, j < 4 → Cond.eq (.elem (.static "ExamBoard" "LEAST_V" "[I") (.int (Int32.ofNat j))) (.int (oi (sVl 200 j))) ∈ flatC (Jvm.Cond.and given_1 narrow_1) := by decide +kernel
  obtain ⟨t2, e2, T2⟩ := va_Tof (tm := (.static "ExamBoard" "LEAST_V" "[I")) (ty := .int) (N := 4) (f := fun j => .int (oi (sVl 200 j))) (A := A) (by decide) (hs _ (by decide +kernel)) (va_eqt (z := Int32.ofNat 4) (hs _ (by decide +kernel))) (fun j hj => va_eqt (hs _ (k2 j hj))) hA
  have z2 := va_Zof (hts _ (List.mem_of_getElem? (i := 625) (by decide +kernel))) (hts _ (List.mem_of_getElem? (i := 62) (by decide +kernel))) e2 hA
  have k3 : ∀ j : Nat, j < 4 → Cond.eq (.elem (.static "ExamBoard" "GREATEST_V" "[I") (.int (Int32.ofNat j))) (.int (oi (sVl 201 j))) ∈ flatC (Jvm.Cond.and given_1 narrow_1) := by decide +kernel
  obtain ⟨t3, e3, T3⟩ := va_Tof (tm := (.static "ExamBoard" "GREATEST_V" "[I")) (ty := .int) (N := 4) (f := fun j => .int (oi (sVl 201 j))) (A := A) (by decide) (hs _ (by decide +kernel)) (va_eqt (z := Int32.ofNat 4) (hs _ (by decide +kernel))) (fun j hj => va_eqt (hs _ (k3 j hj))) hA
  have z3 := va_Zof (hts _ (List.mem_of_getElem? (i := 627) (by decide +kernel))) (hts _ (List.mem_of_getElem? (i := 62) (by decide +kernel))) e3 hA
  have k4 : ∀ j : Nat, j < 5 → Cond.eq (.elem (.static "ExamBoard" "LIMITS" "[I") (.int (Int32.ofNat j))) (.int (oi (sVl 202 j))) ∈ flatC (Jvm.Cond.and given_1 narrow_1) := by decide +kernel
  obtain ⟨t4, e4, T4⟩ := va_Tof (tm := (.static "ExamBoard" "LIMITS" "[I")) (ty := .int) (N := 5) (f := fun j => .int (oi (sVl 202 j))) (A := A) (by decide) (hs _ (by decide +kernel)) (va_eqt (z := Int32.ofNat 5) (hs _ (by decide +kernel))) (fun j hj => va_eqt (hs _ (k4 j hj))) hA
  have z4 := va_Zof (hts _ (List.mem_of_getElem? (i := 535) (by decide +kernel))) (hts _ (List.mem_of_getElem? (i := 62) (by decide +kernel))) e4 hA
  refine ⟨fun i => [t0, t1, t2, t3, t4].getD (i - 198) 0, fun i h1 h2 => ?_⟩
  rcases (show i = 198 ∨ i = 199 ∨ i = 200 ∨ i = 201 ∨ i = 202 by omega) with rfl | rfl | rfl | rfl | rfl
  · exact ⟨z0, T0⟩
  · exact ⟨z1, T1⟩
  · exact ⟨z2, T2⟩
  · exact ⟨z3, T3⟩
  · exact ⟨z4, T4⟩
theorem sw_J {args : Array Value} {s : State} {cx : Cx} (hts : ∀ w ∈ lw_tbl, w.before args s = true) (hg : (Jvm.Cond.and given_1 narrow_1).before args s = true) (hA : ∀ a : Nat, a < s.heap.size → ¬ cA0 cx a) : JStat cx s := by
  have hs := flat_of_before _ hg
  have lDigitOnes : ((flatC (Jvm.Cond.and given_1 narrow_1)).drop 50).take 100 = (List.range 100).map (fun j => Cond.eq (.elem (.static "java/lang/Integer" "DigitOnes" "[B") (.int (Int32.ofNat j))) (.int (nI (48 + j % 10)))) := by decide +kernel
  have kDigitOnes : ∀ j : Nat, j < 100 → Cond.eq (.elem (.static "java/lang/Integer" "DigitOnes" "[B") (.int (Int32.ofNat j))) (.int (nI (48 + j % 10))) ∈ flatC (Jvm.Cond.and given_1 narrow_1) := fun j hj => by
    have h : Cond.eq (.elem (.static "java/lang/Integer" "DigitOnes" "[B") (.int (Int32.ofNat j))) (.int (nI (48 + j % 10))) ∈ ((flatC (Jvm.Cond.and given_1 narrow_1)).drop 50).take 100 := by
      rw [lDigitOnes]
      exact List.mem_map.mpr ⟨j, List.mem_range.mpr hj, rfl⟩
    exact List.mem_of_mem_drop (List.mem_of_mem_take h)
  obtain ⟨tDigitOnes, eDigitOnes, TDigitOnes⟩ := va_Tof (tm := (.static "java/lang/Integer" "DigitOnes" "[B")) (ty := .byte) (N := 100) (f := fun j => .int (nI (48 + j % 10))) (A := cA0 cx) (by decide) (hs _ (by decide +kernel)) (va_eqt (z := Int32.ofNat 100) (hs _ (by decide +kernel))) (fun j hj => va_eqt (hs _ (kDigitOnes j hj))) hA
  have zDigitOnes := va_Zof (hts _ (List.mem_of_getElem? (i := 1035) (by decide +kernel))) (hts _ (List.mem_of_getElem? (i := 80) (by decide +kernel))) eDigitOnes hA
  have lDigitTens : ((flatC (Jvm.Cond.and given_1 narrow_1)).drop 153).take 100 = (List.range 100).map (fun j => Cond.eq (.elem (.static "java/lang/Integer" "DigitTens" "[B") (.int (Int32.ofNat j))) (.int (nI (48 + j / 10)))) := by decide +kernel
  have kDigitTens : ∀ j : Nat, j < 100 → Cond.eq (.elem (.static "java/lang/Integer" "DigitTens" "[B") (.int (Int32.ofNat j))) (.int (nI (48 + j / 10))) ∈ flatC (Jvm.Cond.and given_1 narrow_1) := fun j hj => by
    have h : Cond.eq (.elem (.static "java/lang/Integer" "DigitTens" "[B") (.int (Int32.ofNat j))) (.int (nI (48 + j / 10))) ∈ ((flatC (Jvm.Cond.and given_1 narrow_1)).drop 153).take 100 := by
      rw [lDigitTens]
      exact List.mem_map.mpr ⟨j, List.mem_range.mpr hj, rfl⟩
    exact List.mem_of_mem_drop (List.mem_of_mem_take h)
  obtain ⟨tDigitTens, eDigitTens, TDigitTens⟩ := va_Tof (tm := (.static "java/lang/Integer" "DigitTens" "[B")) (ty := .byte) (N := 100) (f := fun j => .int (nI (48 + j / 10))) (A := cA0 cx) (by decide) (hs _ (by decide +kernel)) (va_eqt (z := Int32.ofNat 100) (hs _ (by decide +kernel))) (fun j hj => va_eqt (hs _ (kDigitTens j hj))) hA
  have zDigitTens := va_Zof (hts _ (List.mem_of_getElem? (i := 1037) (by decide +kernel))) (hts _ (List.mem_of_getElem? (i := 80) (by decide +kernel))) eDigitTens hA
  have kS : ∀ j : Nat, j < 5 → Cond.eq (.elem (.field (.string "ExamBoard$EntryText" 55) "java/lang/String" "value" "[B") (.int (Int32.ofNat j))) (.int (([109, 114, 101, 97, 120] : List Int32).getD j 0)) ∈ flatC (Jvm.Cond.and given_1 narrow_1) := by decide +kernel
  obtain ⟨adK, adV, hS, he⟩ := vk_Sof (args := args) (s := s) (N := 1) (tm := fun _ => (.string "ExamBoard$EntryText" 55)) (len := [5]) (byt := [[109, 114, 101, 97, 120]]) (A := cA0 cx)
    (fun i hi => by obtain rfl : i = 0 := by omega
                    decide)
    (fun i hi => hs (Cond.exactly (.string "ExamBoard$EntryText" 55) "java/lang/String") (by decide +kernel))
    (fun i hi => hs (Cond.eq (.field (.string "ExamBoard$EntryText" 55) "java/lang/String" "coder" "B") (.int 0)) (by decide +kernel))
    (fun i hi => hs (Cond.arrayOf (.field (.string "ExamBoard$EntryText" 55) "java/lang/String" "value" "[B") .byte) (by decide +kernel))
    (fun i hi => by obtain rfl : i = 0 := by omega
                    exact hs (Cond.eq (.length (.field (.string "ExamBoard$EntryText" 55) "java/lang/String" "value" "[B")) (.int (Int32.ofNat 5))) (by decide +kernel))
    (fun i hi j hj => by obtain rfl : i = 0 := by omega
                         exact hs _ (kS j hj))
    (fun i j hi hj h => absurd (show i = j by omega) h) hA
  exact ⟨va_Zof (hts _ (List.mem_of_getElem? (i := 286) (by decide +kernel))) (hts _ (List.mem_of_getElem? (i := 70) (by decide +kernel))) (va_eqi (hs _ (by decide +kernel))) hA, ⟨tDigitOnes, zDigitOnes, TDigitOnes⟩, ⟨tDigitTens, zDigitTens, TDigitTens⟩, va_Zqof (hts _ (List.mem_of_getElem? (i := 849) (by decide +kernel))) (hts _ (List.mem_of_getElem? (i := 78) (by decide +kernel))) (hs _ (by decide +kernel)) hA, adK, adV, vk_R.of (hts _ (List.mem_of_getElem? (i := 899) (by decide +kernel))) (he 0 (by decide)), hS⟩
theorem sw_stat {args : Array Value} {s : State} {cx : Cx} (hts : ∀ w ∈ lw_tbl, w.before args s = true) (hg : (Jvm.Cond.and given_1 narrow_1).before args s = true) (hA : ∀ a : Nat, a < s.heap.size → ¬ cA0 cx a) (hz : ∀ i, 198 ≤ i → i < 203 → va_Z "ExamBoard" (sNm i) "[I" (rf cx i) (cA0 cx) s s.heap ∧ va_T .int (cad cx i) (sLn i) (fun j => .int (oi (sVl i j))) (cA0 cx) s s.heap) : Stat cx s :=
  ⟨hz, ⟨va_Nw.of rfl (hts _ (List.mem_of_getElem? (i := 198) (by decide +kernel))), va_Nw.of rfl (hts _ (List.mem_of_getElem? (i := 252) (by decide +kernel))), va_Nw.of rfl (hts _ (List.mem_of_getElem? (i := 272) (by decide +kernel))), va_Nw.of rfl (hts _ (List.mem_of_getElem? (i := 476) (by decide +kernel))), va_Nw.of rfl (hts _ (List.mem_of_getElem? (i := 501) (by decide +kernel))), va_Nw.of rfl (hts _ (List.mem_of_getElem? (i := 700) (by decide +kernel))), va_Nw.of rfl (hts _ (List.mem_of_getElem? (i := 534) (by decide +kernel)))⟩, sw_J hts hg hA⟩
/-- the law's entry: the world's names but for the addresses of the run's own cells -/
theorem sw_start {p : Program} {s : State} {m : MethodId} {meth : Method} {c : Code} {b L : Nat} {xs : Nat → Int32} (C0 : lw_At p s m meth c b L xs) : ∃ (D : va_G) (cAf : Nat → ClassId) (t : Nat → Nat), va_AO "ExamBoard$Board" s ∧ ∀ ad : Nat → Nat, (∀ i, 198 ≤ i → i < 203 → ad i = t i) → En (D, cAf, ad, s.heap.size) yL_law cL_law 4 100 600000 7302250 p room_1 s m #[Value.ref b] meth c := by
  obtain ⟨hx, hb0, hr, hml, hown, hts, hX, hbl, hlocks, hgv⟩ := C0
  have hb := sw_words hts
  have hA : ∀ a : Nat, a < s.heap.size → ¬ (fun q : Nat => s.heap.size ≤ q) a := fun a h => Nat.not_le.mpr h
  obtain ⟨D, hK⟩ := sw_K hb
  obtain ⟨c0, hI⟩ := sw_arrI (hb _ (big_at 175 (by decide +kernel) (by decide +kernel)))
  obtain ⟨c1, hZ⟩ := sw_arrZ (hb _ (big_at 249 (by decide +kernel) (by decide +kernel)))
  obtain ⟨c2, hC⟩ := sw_arrC (hb _ (big_at 336 (by decide +kernel) (by decide +kernel)))
  obtain ⟨c3, hB⟩ := sw_arrB (hb _ (big_at 307 (by decide +kernel) (by decide +kernel)))
  obtain ⟨c4, hQ⟩ := sw_arrQ (C := "ExamBoard$Board") (hts _ (List.mem_of_getElem? (i := 183) (by decide +kernel)))
  obtain ⟨t, ht⟩ := sw_five (A := fun q : Nat => s.heap.size ≤ q) hts hgv hA
  refine ⟨D, fun k => [c0, c1, c2, c3, c4].getD k 0, t, va_AO.of (hts _ (List.mem_of_getElem? (i := 183) (by decide +kernel))), fun ad had => ?_⟩
  refine ⟨hx, hb0, hml, hown, hb, ⟨hK, fun k q hk => ?_⟩, sw_stat hts hgv hA (fun i h1 h2 => ?_), Nat.le_refl _, hlocks, Nat.le_of_ble_eq_true rfl, Nat.le_of_ble_eq_true rfl, Nat.le_refl _, Nat.le_refl _⟩
  · have hk5 : k < 5 := (List.getElem?_eq_some_iff.mp hk).1
    rcases (show k = 0 ∨ k = 1 ∨ k = 2 ∨ k = 3 ∨ k = 4 by omega) with rfl | rfl | rfl | rfl | rfl
    · cases hk; exact hI
    · cases hk; exact hZ
    · cases hk; exact hC
    · cases hk; exact hB
    · cases hk; exact hQ
  · have e : cad (D, (fun k => [c0, c1, c2, c3, c4].getD k 0), ad, s.heap.size) i = t i := had i h1 h2
    have h := ht i h1 h2
    rw [← e] at h
    exact h
