/-! the JDK's StringBuilder over cell lists -/
section GWC
variable {cx : Cx} {y : MethodName} {cc : ByteArray} {nL d uc us : Nat} {p : Program} {l : Launch} {e : Env} {R : Room} {s : State} {m : MethodId} {args : Array Value} {below : List Frame} {meth : Method} {c : Code} {Q : State → Prop} {pc : Nat} {ls : List (Option Value)} {sk : List Value} {ws : va_W} {k n : Nat}
variable {y2 : MethodName} {cc2 : ByteArray} {nL2 d2 uc2 us2 : Nat} {rt2 : Option FieldType} {As : List Value} {idx na : Nat}
theorem w_idivT {a b : Int} (E : En cx y cc nL d uc us p R s m args meth c) (hd : decode cc pc = .ok (.idiv, 1)) (ha : inR a) (hb : inR b) (h0 : 0 < b) (kk : GW cx p l e R s m args below meth c Q (pc + 1) ls (.int (oi (a.tdiv b)) :: sk) ws k n) : GW cx p l e R s m args below meth c Q pc ls (.int (oi b) :: .int (oi a) :: sk) ws k n := by
  intro H lsA locs hP hD hS hL
  refine lv_idiv E.1 E.2.1 hd (fun z => by have := (oi_eq hb (inR_of (by decide) (by decide))).mp (z.trans oi_0); omega) ?_
  rw [oi_tdiv ha hb h0]
  exact kk H lsA locs hP hD hS hL
def SelJ4 (y2 : MethodName) : Prop := ∀ (s : State) (args : Array Value), (∀ w ∈ BIG, w.before args s = true) → (Cond.selects "java/lang/StringBuilder" y2 y2).before args s = true
def MLp (own : String) (idx : Nat) (y2 : MethodName) (na : Nat) : Prop := MLb y2 na ∧ Cond.methodLink own idx y2 ∈ BIG ∧ Cond.instanceMethod y2 ∈ BIG ∧ SelJ4 y2
theorem w_callSI {sk0 : List Value} {Post : Int → va_W → Prop} (E : En cx y cc nL d uc us p R s m args meth c) (hd : decode cc pc = .ok (.invokestatic idx, 3)) (hm : MLs y.cls idx y2 na) (hC : MtW cx y2 cc2 nL2 rt2 d2 uc2 us2 As ws (QIw cx Post)) (hst : sk0 = As.reverse ++ sk) (hn : As.length = na) (hdp : d2 < d) (hnl : nL2 ≤ 45) (hls : ls.length = nL) (hcat : (sk.map fun v => v.category).sum ≤ 8) (hr : k + uc2 ≤ uc ∧ n + us2 ≤ us) (kk' : ∀ x ws', Post x ws' → GW cx p l e R s m args below meth c Q (pc + 3) ls (.int (oi x) :: sk) ws' (k + uc2) (n + us2)) : GW cx p l e R s m args below meth c Q pc ls sk0 ws k n := by
  subst hst
  intro H lsA locs hP hD hS hL
  exact goW_i hS hL (runW_S E hP hD hS hL hd hm hC hn hdp hnl hls hcat hr) kk'
theorem w_callPI {sk0 : List Value} {a i : Nat} {fs : List Value} {Post : Int → va_W → Prop} (E : En cx y cc nL d uc us p R s m args meth c) (hd : decode cc pc = .ok (.invokevirtual idx, 3)) (hm : MLp y.cls idx y2 na) (hi : ws[i]? = some (a, .inr (0, fs))) (hC : MtW cx y2 cc2 nL2 rt2 d2 uc2 us2 (.ref a :: As) ws (QIw cx Post)) (hst : sk0 = As.reverse ++ .ref a :: sk) (hn : As.length = na) (hdp : d2 < d) (hnl : nL2 ≤ 45) (hls : ls.length = nL) (hcat : (sk.map fun v => v.category).sum ≤ 8) (hr : k + uc2 ≤ uc ∧ n + us2 ≤ us) (kk' : ∀ x ws', Post x ws' → GW cx p l e R s m args below meth c Q (pc + 3) ls (.int (oi x) :: sk) ws' (k + uc2) (n + us2)) : GW cx p l e R s m args below meth c Q pc ls sk0 ws k n := by
  subst hst
  intro H lsA locs hP hD hS hL
  exact goW_i hS hL (runW_V (q := ("java/lang/StringBuilder", TJ4, 4)) E hP hD hS hL hd hm.1 hm.2.1 hm.2.2.1 hi rfl (hm.2.2.2 _ _ E.2.2.2.2.1) hC hn hdp hnl hls hcat hr) kk'
theorem w_callUI {sk0 : List Value} {a i : Nat} {fs : List Value} {Post : Int → va_W → Prop} (E : En cx y cc nL d uc us p R s m args meth c) (hd : decode cc pc = .ok (.invokespecial idx, 3)) (hm : MLu y.cls idx y2 na) (hi : ws[i]? = some (a, .inr (0, fs))) (hC : MtW cx y2 cc2 nL2 rt2 d2 uc2 us2 (.ref a :: As) ws (QIw cx Post)) (hst : sk0 = As.reverse ++ .ref a :: sk) (hn : As.length = na) (hdp : d2 < d) (hnl : nL2 ≤ 45) (hls : ls.length = nL) (hcat : (sk.map fun v => v.category).sum ≤ 8) (hr : k + uc2 ≤ uc ∧ n + us2 ≤ us) (kk' : ∀ x ws', Post x ws' → GW cx p l e R s m args below meth c Q (pc + 3) ls (.int (oi x) :: sk) ws' (k + uc2) (n + us2)) : GW cx p l e R s m args below meth c Q pc ls sk0 ws k n := by
  subst hst
  intro H lsA locs hP hD hS hL
  obtain ⟨cC, kC, h1, h2, h3, -, -, -⟩ := Cond.instantiable_spec (cls := "java/lang/StringBuilder") (n := 4) (E.2.2.2.2.1 _ (big_at 277 (by decide +kernel) (by decide +kernel)))
  exact goW_i hS hL (runW_U (q := ("java/lang/StringBuilder", TJ4, 4)) E hP hD hS hL hd hm hi rfl ⟨h1, kC, h2, h3⟩ hC hn hdp hnl hls hcat hr) kk'
theorem w_callSV {sk0 : List Value} {Post : va_W → Prop} (E : En cx y cc nL d uc us p R s m args meth c) (hd : decode cc pc = .ok (.invokestatic idx, 3)) (hm : MLs y.cls idx y2 na) (hC : MtW cx y2 cc2 nL2 rt2 d2 uc2 us2 As ws (QVw cx Post)) (hst : sk0 = As.reverse ++ sk) (hn : As.length = na) (hdp : d2 < d) (hnl : nL2 ≤ 45) (hls : ls.length = nL) (hcat : (sk.map fun v => v.category).sum ≤ 8) (hr : k + uc2 ≤ uc ∧ n + us2 ≤ us) (kk' : ∀ ws', Post ws' → GW cx p l e R s m args below meth c Q (pc + 3) ls sk ws' (k + uc2) (n + us2)) : GW cx p l e R s m args below meth c Q pc ls sk0 ws k n := by
  subst hst
  intro H lsA locs hP hD hS hL
  exact goW_v hS hL (runW_S E hP hD hS hL hd hm hC hn hdp hnl hls hcat hr) kk'
theorem w_callPV {sk0 : List Value} {a i : Nat} {fs : List Value} {Post : va_W → Prop} (E : En cx y cc nL d uc us p R s m args meth c) (hd : decode cc pc = .ok (.invokevirtual idx, 3)) (hm : MLp y.cls idx y2 na) (hi : ws[i]? = some (a, .inr (0, fs))) (hC : MtW cx y2 cc2 nL2 rt2 d2 uc2 us2 (.ref a :: As) ws (QVw cx Post)) (hst : sk0 = As.reverse ++ .ref a :: sk) (hn : As.length = na) (hdp : d2 < d) (hnl : nL2 ≤ 45) (hls : ls.length = nL) (hcat : (sk.map fun v => v.category).sum ≤ 8) (hr : k + uc2 ≤ uc ∧ n + us2 ≤ us) (kk' : ∀ ws', Post ws' → GW cx p l e R s m args below meth c Q (pc + 3) ls sk ws' (k + uc2) (n + us2)) : GW cx p l e R s m args below meth c Q pc ls sk0 ws k n := by
  subst hst
  intro H lsA locs hP hD hS hL
  exact goW_v hS hL (runW_V (q := ("java/lang/StringBuilder", TJ4, 4)) E hP hD hS hL hd hm.1 hm.2.1 hm.2.2.1 hi rfl (hm.2.2.2 _ _ E.2.2.2.2.1) hC hn hdp hnl hls hcat hr) kk'
theorem w_callUV {sk0 : List Value} {a i : Nat} {fs : List Value} {Post : va_W → Prop} (E : En cx y cc nL d uc us p R s m args meth c) (hd : decode cc pc = .ok (.invokespecial idx, 3)) (hm : MLu y.cls idx y2 na) (hi : ws[i]? = some (a, .inr (0, fs))) (hC : MtW cx y2 cc2 nL2 rt2 d2 uc2 us2 (.ref a :: As) ws (QVw cx Post)) (hst : sk0 = As.reverse ++ .ref a :: sk) (hn : As.length = na) (hdp : d2 < d) (hnl : nL2 ≤ 45) (hls : ls.length = nL) (hcat : (sk.map fun v => v.category).sum ≤ 8) (hr : k + uc2 ≤ uc ∧ n + us2 ≤ us) (kk' : ∀ ws', Post ws' → GW cx p l e R s m args below meth c Q (pc + 3) ls sk ws' (k + uc2) (n + us2)) : GW cx p l e R s m args below meth c Q pc ls sk0 ws k n := by
  subst hst
  intro H lsA locs hP hD hS hL
  obtain ⟨cC, kC, h1, h2, h3, -, -, -⟩ := Cond.instantiable_spec (cls := "java/lang/StringBuilder") (n := 4) (E.2.2.2.2.1 _ (big_at 277 (by decide +kernel) (by decide +kernel)))
  exact goW_v hS hL (runW_U (q := ("java/lang/StringBuilder", TJ4, 4)) E hP hD hS hL hd hm hi rfl ⟨h1, kC, h2, h3⟩ hC hn hdp hnl hls hcat hr) kk'
theorem w_callSR {sk0 : List Value} {Post : Nat → va_W → Prop} (E : En cx y cc nL d uc us p R s m args meth c) (hd : decode cc pc = .ok (.invokestatic idx, 3)) (hm : MLs y.cls idx y2 na) (hC : MtW cx y2 cc2 nL2 rt2 d2 uc2 us2 As ws (QRw cx Post)) (hst : sk0 = As.reverse ++ sk) (hn : As.length = na) (hdp : d2 < d) (hnl : nL2 ≤ 45) (hls : ls.length = nL) (hcat : (sk.map fun v => v.category).sum ≤ 8) (hr : k + uc2 ≤ uc ∧ n + us2 ≤ us) (kk' : ∀ x ws', Post x ws' → GW cx p l e R s m args below meth c Q (pc + 3) ls (.ref x :: sk) ws' (k + uc2) (n + us2)) : GW cx p l e R s m args below meth c Q pc ls sk0 ws k n := by
  subst hst
  intro H lsA locs hP hD hS hL
  exact goW_r hS hL (runW_S E hP hD hS hL hd hm hC hn hdp hnl hls hcat hr) kk'
theorem w_callPR {sk0 : List Value} {a i : Nat} {fs : List Value} {Post : Nat → va_W → Prop} (E : En cx y cc nL d uc us p R s m args meth c) (hd : decode cc pc = .ok (.invokevirtual idx, 3)) (hm : MLp y.cls idx y2 na) (hi : ws[i]? = some (a, .inr (0, fs))) (hC : MtW cx y2 cc2 nL2 rt2 d2 uc2 us2 (.ref a :: As) ws (QRw cx Post)) (hst : sk0 = As.reverse ++ .ref a :: sk) (hn : As.length = na) (hdp : d2 < d) (hnl : nL2 ≤ 45) (hls : ls.length = nL) (hcat : (sk.map fun v => v.category).sum ≤ 8) (hr : k + uc2 ≤ uc ∧ n + us2 ≤ us) (kk' : ∀ x ws', Post x ws' → GW cx p l e R s m args below meth c Q (pc + 3) ls (.ref x :: sk) ws' (k + uc2) (n + us2)) : GW cx p l e R s m args below meth c Q pc ls sk0 ws k n := by
  subst hst
  intro H lsA locs hP hD hS hL
  exact goW_r hS hL (runW_V (q := ("java/lang/StringBuilder", TJ4, 4)) E hP hD hS hL hd hm.1 hm.2.1 hm.2.2.1 hi rfl (hm.2.2.2 _ _ E.2.2.2.2.1) hC hn hdp hnl hls hcat hr) kk'
theorem w_callUR {sk0 : List Value} {a i : Nat} {fs : List Value} {Post : Nat → va_W → Prop} (E : En cx y cc nL d uc us p R s m args meth c) (hd : decode cc pc = .ok (.invokespecial idx, 3)) (hm : MLu y.cls idx y2 na) (hi : ws[i]? = some (a, .inr (0, fs))) (hC : MtW cx y2 cc2 nL2 rt2 d2 uc2 us2 (.ref a :: As) ws (QRw cx Post)) (hst : sk0 = As.reverse ++ .ref a :: sk) (hn : As.length = na) (hdp : d2 < d) (hnl : nL2 ≤ 45) (hls : ls.length = nL) (hcat : (sk.map fun v => v.category).sum ≤ 8) (hr : k + uc2 ≤ uc ∧ n + us2 ≤ us) (kk' : ∀ x ws', Post x ws' → GW cx p l e R s m args below meth c Q (pc + 3) ls (.ref x :: sk) ws' (k + uc2) (n + us2)) : GW cx p l e R s m args below meth c Q pc ls sk0 ws k n := by
  subst hst
  intro H lsA locs hP hD hS hL
  obtain ⟨cC, kC, h1, h2, h3, -, -, -⟩ := Cond.instantiable_spec (cls := "java/lang/StringBuilder") (n := 4) (E.2.2.2.2.1 _ (big_at 277 (by decide +kernel) (by decide +kernel)))
  exact goW_r hS hL (runW_U (q := ("java/lang/StringBuilder", TJ4, 4)) E hP hD hS hL hd hm hi rfl ⟨h1, kC, h2, h3⟩ hC hn hdp hnl hls hcat hr) kk'
end GWC
theorem mp_J5_100 : MLp RJ5 100 yJ5_ensureCapacityInternal_d00df 1 := ⟨⟨⟨by decide +kernel, by decide +kernel, by decide +kernel⟩, big_at 68 (by decide +kernel) (by decide +kernel)⟩, big_at 792 (by decide +kernel) (by decide +kernel), big_at 794 (by decide +kernel) (by decide +kernel), fun s args h => h _ (big_x 0 (by decide +kernel) (by decide +kernel))⟩
theorem mp_J5_104 : MLp RJ5 104 yJ5_newCapacity_0f7a4 1 := ⟨⟨⟨by decide +kernel, by decide +kernel, by decide +kernel⟩, big_at 68 (by decide +kernel) (by decide +kernel)⟩, big_at 796 (by decide +kernel) (by decide +kernel), big_at 798 (by decide +kernel) (by decide +kernel), fun s args h => h _ (big_x 1 (by decide +kernel) (by decide +kernel))⟩
theorem mp_J5_83 : MLp RJ5 83 yJ5_isLatin1_aae02 0 := ⟨⟨⟨by decide +kernel, by decide +kernel, by decide +kernel⟩, big_at 68 (by decide +kernel) (by decide +kernel)⟩, big_at 821 (by decide +kernel) (by decide +kernel), big_at 822 (by decide +kernel) (by decide +kernel), fun s args h => h _ (big_at 824 (by decide +kernel) (by decide +kernel))⟩
theorem mu_J4_343 : MLu RJ4 343 yJ5_length_8abf5 0 := by
  refine ⟨⟨by decide +kernel, by decide +kernel⟩, fun w hw => ?_⟩
  simp only [List.mem_cons, List.not_mem_nil, or_false] at hw
  rcases hw with rfl | rfl | rfl | rfl | rfl
  · exact big_at 782 (by decide +kernel) (by decide +kernel)
  · exact big_at 1473 (by decide +kernel) (by decide +kernel)
  · exact big_at 306 (by decide +kernel) (by decide +kernel)
  · exact big_at 783 (by decide +kernel) (by decide +kernel)
  · exact big_at 68 (by decide +kernel) (by decide +kernel)
theorem mu_J4_50 : MLu RJ4 50 yJ5_append_3fe6f 1 := by
  refine ⟨⟨by decide +kernel, by decide +kernel⟩, fun w hw => ?_⟩
  simp only [List.mem_cons, List.not_mem_nil, or_false] at hw
  rcases hw with rfl | rfl | rfl | rfl | rfl
  · exact big_at 789 (by decide +kernel) (by decide +kernel)
  · exact big_at 1474 (by decide +kernel) (by decide +kernel)
  · exact big_at 306 (by decide +kernel) (by decide +kernel)
  · exact big_at 790 (by decide +kernel) (by decide +kernel)
  · exact big_at 68 (by decide +kernel) (by decide +kernel)
theorem mu_J4_329 : MLu RJ4 329 yJ5_charAt_5068e 1 := by
  refine ⟨⟨by decide +kernel, by decide +kernel⟩, fun w hw => ?_⟩
  simp only [List.mem_cons, List.not_mem_nil, or_false] at hw
  rcases hw with rfl | rfl | rfl | rfl | rfl
  · exact big_at 891 (by decide +kernel) (by decide +kernel)
  · exact big_at 1478 (by decide +kernel) (by decide +kernel)
  · exact big_at 306 (by decide +kernel) (by decide +kernel)
  · exact big_at 892 (by decide +kernel) (by decide +kernel)
  · exact big_at 68 (by decide +kernel) (by decide +kernel)
theorem mu_J4_333 : MLu RJ4 333 yJ5_setLength_d00df 1 := by
  refine ⟨⟨by decide +kernel, by decide +kernel⟩, fun w hw => ?_⟩
  simp only [List.mem_cons, List.not_mem_nil, or_false] at hw
  rcases hw with rfl | rfl | rfl | rfl | rfl
  · exact big_at 987 (by decide +kernel) (by decide +kernel)
  · exact big_at 1479 (by decide +kernel) (by decide +kernel)
  · exact big_at 306 (by decide +kernel) (by decide +kernel)
  · exact big_at 988 (by decide +kernel) (by decide +kernel)
  · exact big_at 68 (by decide +kernel) (by decide +kernel)
theorem mu_J4_53 : MLu RJ4 53 yJ5_append_c97b9 1 := by
  refine ⟨⟨by decide +kernel, by decide +kernel⟩, fun w hw => ?_⟩
  simp only [List.mem_cons, List.not_mem_nil, or_false] at hw
  rcases hw with rfl | rfl | rfl | rfl | rfl
  · exact big_at 1025 (by decide +kernel) (by decide +kernel)
  · exact big_at 1480 (by decide +kernel) (by decide +kernel)
  · exact big_at 306 (by decide +kernel) (by decide +kernel)
  · exact big_at 1026 (by decide +kernel) (by decide +kernel)
  · exact big_at 68 (by decide +kernel) (by decide +kernel)
abbrev sbF (q : Nat) (ml : Int32) (z : Int) : List Value := [.ref q, .int (oi 0), .int ml, .int (oi z)]
/-- a StringBuilder in place i, its bytes in place j -/
def SBw (cx : Cx) (ws : va_W) (i j a q N : Nat) (f : Nat → Int32) (ml : Int32) (z : Int) : Prop := ws[i]? = some (a, .inr (0, sbF q ml z)) ∧ ws[j]? = some (q, .inl (cA cx 3, N, .inl f)) ∧ 0 ≤ z ∧ z ≤ N ∧ N ≤ 400 ∧ sb_Fit f
def FR (ws w : va_W) (i j j' : Nat) : Prop := (∀ k e, k ≠ i → k ≠ j → ws[k]? = some e → w[k]? = some e) ∧ (j' = j ∨ ws.length ≤ j')
theorem SBw.ne {cx : Cx} {ws : va_W} {i j a q N : Nat} {f : Nat → Int32} {ml : Int32} {z : Int} (h : SBw cx ws i j a q N f ml z) : i ≠ j := by
  intro e
  subst e
  have := h.1.symm.trans h.2.1
  cases this
theorem SBw.seti {cx : Cx} {ws : va_W} {i j a q N : Nat} {f : Nat → Int32} {ml ml' : Int32} {z z' : Int} (h : SBw cx ws i j a q N f ml z) (h0 : 0 ≤ z') (h1 : z' ≤ N) : SBw cx (ws.set i (a, .inr (0, sbF q ml' z'))) i j a q N f ml' z' := by
  refine ⟨?_, ?_, h0, h1, h.2.2.2.2.1, h.2.2.2.2.2⟩
  · rw [List.getElem?_set_self (List.getElem?_eq_some_iff.mp h.1).1]
  · rw [List.getElem?_set_ne h.ne]; exact h.2.1
theorem SBw.setj {cx : Cx} {ws : va_W} {i j a q N : Nat} {f f' : Nat → Int32} {ml : Int32} {z : Int} (h : SBw cx ws i j a q N f ml z) (hf : sb_Fit f') : SBw cx (ws.set j (q, .inl (cA cx 3, N, .inl f'))) i j a q N f' ml z := by
  refine ⟨?_, ?_, h.2.2.1, h.2.2.2.1, h.2.2.2.2.1, hf⟩
  · rw [List.getElem?_set_ne (Ne.symm h.ne)]; exact h.1
  · rw [List.getElem?_set_self (List.getElem?_eq_some_iff.mp h.2.1).1]
theorem FR.rf (ws : va_W) (i j : Nat) : FR ws ws i j j := ⟨fun _ _ _ _ h => h, Or.inl rfl⟩
theorem FR.seti {ws w : va_W} {i j j' : Nat} {e : Nat × va_E} (h : FR ws w i j j') : FR ws (w.set i e) i j j' := ⟨fun k x hk hj hx => by rw [List.getElem?_set_ne (Ne.symm hk)]; exact h.1 k x hk hj hx, h.2⟩
theorem FR.setj {ws w : va_W} {i j j' : Nat} {e : Nat × va_E} (h : FR ws w i j j') : FR ws (w.set j' e) i j j' := by
  refine ⟨fun k x hk hj hx => ?_, h.2⟩
  have : k ≠ j' := by
    rcases h.2 with e | e
    · rw [e]; exact hj
    · have := (List.getElem?_eq_some_iff.mp hx).1; omega
  rw [List.getElem?_set_ne (Ne.symm this)]
  exact h.1 k x hk hj hx
def EnP (cx : Cx) (ws : va_W) (i j a : Nat) (f : Nat → Int32) (ml : Int32) (z want : Int) (w : va_W) : Prop := ∃ (j' q' N' : Nat) (f' : Nat → Int32), SBw cx w i j' a q' N' f' ml z ∧ want ≤ N' ∧ (∀ x : Nat, (x : Int) < z → f' x = f x) ∧ FR ws w i j j'
/-- letters cs stand behind the text -/
def ApP (cx : Cx) (ws : va_W) (i j a : Nat) (f : Nat → Int32) (ml : Int32) (z : Int) (cs : List Int) (u : Nat) (w : va_W) : Prop := u = a ∧ ∃ (j' q' N' : Nat) (f' : Nat → Int32), SBw cx w i j' a q' N' f' ml (z + cs.length) ∧ FR ws w i j j' ∧ (∀ x : Nat, (x : Int) < z → f' x = f x) ∧ ∀ t : Nat, t < cs.length → f' (z.toNat + t) = oi (cs.getD t 0)
theorem b_and : ∀ k, k < 128 → nI k &&& oi 255 = nI k := by decide +kernel
theorem b_i2b : ∀ k, k < 128 → (nI k).toInt8.toInt32 = nI k := by decide +kernel
theorem b_nar : ∀ k, k < 128 → vp_nar .byte (nI k) = nI k := by decide +kernel
theorem b_fit : ∀ k, k < 128 → fits .byte (.int (nI k)) = true := by decide +kernel
theorem bo_and {v : Int} (h0 : 0 ≤ v) (h1 : v < 128) : oi v &&& oi 255 = oi v := by rw [oi_natOf h0]; exact b_and _ (by omega)
theorem bo_i2b {v : Int} (h0 : 0 ≤ v) (h1 : v < 128) : (oi v).toInt8.toInt32 = oi v := by rw [oi_natOf h0]; exact b_i2b _ (by omega)
theorem bo_nar {v : Int} (h0 : 0 ≤ v) (h1 : v < 128) : vp_nar .byte (oi v) = oi v := by rw [oi_natOf h0]; exact b_nar _ (by omega)
theorem bo_fit {v : Int} (h0 : 0 ≤ v) (h1 : v < 128) : fits .byte (.int (oi v)) = true := by rw [oi_natOf h0]; exact b_fit _ (by omega)

theorem cw_J5_length {cx : Cx} {ws : va_W} {i j a q N : Nat} {f : Nat → Int32} {ml : Int32} {z : Int} (hs : SBw cx ws i j a q N f ml z) : MtW cx yJ5_length_8abf5 cJ5_length_8abf5 1 (some .int) 1 0 0 [.ref a] ws (QIw cx (fun x w => z = x ∧ ws = w)) := by
  refine mt_intro cd_J5_length_8abf5 (by decide +kernel) (Nat.le_of_ble_eq_true rfl) rfl (fun Pg Lc Ev s m args below meth c E hr => ?_)
  refine w_ent (ls' := [some (.ref a)]) rfl ?_
  refine w_aload_n (pc := 0) E dJ5_length_8abf5_0 (i := 0) rfl rfl ?_
  refine w_get (pc := 1) E dJ5_length_8abf5_1 fl_J5_79 hs.1 rfl ?_
  refine w_iret (pc := 4) E hr dJ5_length_8abf5_4 ?_
  exact ⟨rfl, rfl⟩

theorem cw_J4_length {cx : Cx} {ws : va_W} {i j a q N : Nat} {f : Nat → Int32} {ml : Int32} {z : Int} (hs : SBw cx ws i j a q N f ml z) : MtW cx yJ4_length_8abf5 cJ4_length_8abf5 1 (some .int) 2 0 0 [.ref a] ws (QIw cx (fun x w => z = x ∧ ws = w)) := by
  refine mt_intro cd_J4_length_8abf5 (by decide +kernel) (Nat.le_of_ble_eq_true rfl) rfl (fun Pg Lc Ev s m args below meth c E hr => ?_)
  refine w_ent (ls' := [some (.ref a)]) rfl ?_
  refine w_aload_n (pc := 0) E dJ4_length_8abf5_0 (i := 0) rfl rfl ?_
  refine w_callUI (pc := 1) (As := []) E dJ4_length_8abf5_1 mu_J4_343 hs.1 (cw_J5_length hs) rfl rfl (by decide) (Nat.le_of_ble_eq_true rfl) rfl (Nat.le_of_ble_eq_true rfl) (by decide) (fun x1 w1 hw1 => ?_)
  obtain ⟨rfl, rfl⟩ := hw1
  refine w_iret (pc := 4) E hr dJ4_length_8abf5_4 ?_
  exact ⟨rfl, rfl⟩

theorem cw_J3_checkIndex {cx : Cx} {ws : va_W} {x b : Int} {v : Value} (hv : v.category = 1) (h0 : 0 ≤ x) (h1 : x < b) (h2 : b ≤ 1000) : MtW cx yJ3_checkIndex_8e157 cJ3_checkIndex_8e157 3 (some .int) 1 0 0 [.int (oi x), .int (oi b), v] ws (QIw cx (fun r w => x = r ∧ ws = w)) := by
  refine mt_intro cd_J3_checkIndex_8e157 (by decide +kernel) (Nat.le_of_ble_eq_true rfl) (by show (((Value.int (oi x)).category == 1) && (((Value.int (oi b)).category == 1) && ((v.category == 1) && true))) = true; rw [hv]; rfl) (fun Pg Lc Ev s m args below meth c E hr => ?_)
  refine w_ent (ls' := [some (.int (oi x)), some (.int (oi b)), some (v)]) rfl ?_
  refine w_iload_n (pc := 0) E dJ3_checkIndex_8e157_0 (i := 0) rfl rfl ?_
  refine w_if_lt (pc := 1) (tgt := 9) E dJ3_checkIndex_8e157_1 (by decide) (fun qh1 => absurd qh1 (by omega)) (fun qh1 => ?_) 
  refine w_iload_n (pc := 4) E dJ3_checkIndex_8e157_4 (i := 0) rfl rfl ?_
  refine w_iload_n (pc := 5) E dJ3_checkIndex_8e157_5 (i := 1) rfl rfl ?_
  refine w_icmp_lt (pc := 6) (tgt := 16) E dJ3_checkIndex_8e157_6 (by decide) (fun qh6 => ?_) (fun qh6 => absurd qh6 (by omega)) 
  refine w_iload_n (pc := 16) E dJ3_checkIndex_8e157_16 (i := 0) rfl rfl ?_
  refine w_iret (pc := 17) E hr dJ3_checkIndex_8e157_17 ?_
  exact ⟨rfl, rfl⟩

theorem cw_J0_checkIndex {cx : Cx} {ws : va_W} {x b : Int} (h0 : 0 ≤ x) (h1 : x < b) (h2 : b ≤ 1000) : MtW cx yJ0_checkIndex_df160 cJ0_checkIndex_df160 2 none 2 0 0 [.int (oi x), .int (oi b)] ws (QVw cx (fun w => ws = w)) := by
  refine mt_intro cd_J0_checkIndex_df160 (by decide +kernel) (Nat.le_of_ble_eq_true rfl) rfl (fun Pg Lc Ev s m args below meth c E hr => ?_)
  refine w_ent (ls' := [some (.int (oi x)), some (.int (oi b))]) rfl ?_
  refine w_iload_n (pc := 0) E dJ0_checkIndex_df160_0 (i := 0) rfl rfl ?_
  refine w_iload_n (pc := 1) E dJ0_checkIndex_df160_1 (i := 1) rfl rfl ?_
  refine w_getsF (pc := 2) E dJ0_checkIndex_df160_2 (big_at 848 (by decide +kernel) (by decide +kernel)) (fun v2 hv2 => ?_)
  refine w_callSI (pc := 5) (As := [_, _, _]) E dJ0_checkIndex_df160_5 ml_J0_1059  (cw_J3_checkIndex hv2 h0 h1 h2) rfl rfl (by decide) (Nat.le_of_ble_eq_true rfl) rfl (Nat.le_of_ble_eq_true rfl) (by decide) (fun x5 w5 hw5 => ?_)
  obtain ⟨rfl, rfl⟩ := hw5
  refine w_pop (pc := 8) E dJ0_checkIndex_df160_8 rfl ?_
  refine w_vret (pc := 9) E hr dJ0_checkIndex_df160_9 ?_
  exact rfl

theorem cw_J5_charAt {cx : Cx} {ws : va_W} {i j a q N : Nat} {f : Nat → Int32} {ml : Int32} {z : Int} (hs : SBw cx ws i j a q N f ml z) {x v : Int} (h0 : 0 ≤ x) (h1 : x < z) (hv : f x.toNat = oi v) (hv0 : 0 ≤ v) (hv1 : v < 128) : MtW cx yJ5_charAt_5068e cJ5_charAt_5068e 5 (some .char) 3 0 0 [.ref a, .int (oi x)] ws (QIw cx (fun r w => v = r ∧ ws = w)) := by
  refine mt_intro cd_J5_charAt_5068e (by decide +kernel) (Nat.le_of_ble_eq_true rfl) rfl (fun Pg Lc Ev s m args below meth c E hr => ?_)
  refine w_ent (ls' := [some (.ref a), some (.int (oi x)), none, none, none]) rfl ?_
  have hN1 := hs.2.2.2.1
  have hN2 := hs.2.2.2.2.1
  refine w_aload_n (pc := 0) E dJ5_charAt_5068e_0 (i := 0) rfl rfl ?_
  refine w_get (pc := 1) E dJ5_charAt_5068e_1 fl_J5_22 hs.1 rfl ?_
  refine w_istore_n (pc := 4) E dJ5_charAt_5068e_4 (i := 2) (ls' := [_, _, _, _, _]) rfl (Nat.le_of_ble_eq_true rfl) rfl ?_
  refine w_aload_n (pc := 5) E dJ5_charAt_5068e_5 (i := 0) rfl rfl ?_
  refine w_get (pc := 6) E dJ5_charAt_5068e_6 fl_J5_15 hs.1 rfl ?_
  refine w_astore_n (pc := 9) E dJ5_charAt_5068e_9 (i := 3) (ls' := [_, _, _, _, _]) rfl (Nat.le_of_ble_eq_true rfl) rfl ?_
  refine w_aload_n (pc := 10) E dJ5_charAt_5068e_10 (i := 0) rfl rfl ?_
  refine w_get (pc := 11) E dJ5_charAt_5068e_11 fl_J5_79 hs.1 rfl ?_
  refine w_aload_n (pc := 14) E dJ5_charAt_5068e_14 (i := 3) rfl rfl ?_
  refine w_alen (pc := 15) E dJ5_charAt_5068e_15 hs.2.1 rfl ?_
  refine w_iload_n (pc := 16) E dJ5_charAt_5068e_16 (i := 2) rfl rfl ?_
  refine w_ishr0 (pc := 17) E dJ5_charAt_5068e_17 ?_
  refine w_min (pc := 18) E dJ5_charAt_5068e_18 (big_at 894 (by decide +kernel) (by decide +kernel)) rfl (by decide) (Nat.le_of_ble_eq_true rfl) (by omega) ?_ 
  refine w_istore (pc := 21) E dJ5_charAt_5068e_21 (ls' := [_, _, _, _, _]) (Nat.le_of_ble_eq_true rfl) rfl ?_
  refine w_iload_n (pc := 23) E dJ5_charAt_5068e_23 (i := 1) rfl rfl ?_
  refine w_iload (pc := 24) E dJ5_charAt_5068e_24 rfl ?_
  refine w_callSV (pc := 26) (As := [_, _]) E dJ5_charAt_5068e_26 ml_J5_144  (cw_J0_checkIndex (by omega) (by omega) (by omega)) rfl rfl (by decide) (Nat.le_of_ble_eq_true rfl) rfl (Nat.le_of_ble_eq_true rfl) (by decide) (fun w26 hw26 => ?_)
  obtain rfl := hw26
  refine w_iload_n (pc := 29) E dJ5_charAt_5068e_29 (i := 2) rfl rfl ?_
  refine w_if_ne (pc := 30) (tgt := 42) E dJ5_charAt_5068e_30 (by decide) (fun qh30 => absurd qh30 (by omega)) (fun qh30 => ?_) (by decide) (by decide)
  refine w_aload_n (pc := 33) E dJ5_charAt_5068e_33 (i := 3) rfl rfl ?_
  refine w_iload_n (pc := 34) E dJ5_charAt_5068e_34 (i := 1) rfl rfl ?_
  refine w_bald (pc := 35) E dJ5_charAt_5068e_35 hs.2.1 h0 (by omega) (by omega) hv ?_
  refine w_sipush (pc := 36) E dJ5_charAt_5068e_36 rfl ?_
  refine w_iandv (pc := 39) E dJ5_charAt_5068e_39 (bo_and hv0 hv1) ?_
  refine w_i2c (pc := 40) E dJ5_charAt_5068e_40 (by omega) (by omega) ?_
  refine w_zret (pc := 41) E hr dJ5_charAt_5068e_41 (congrArg Value.int (nar_c hv0 (by omega))) ?_
  exact ⟨rfl, rfl⟩

theorem cw_J4_charAt {cx : Cx} {ws : va_W} {i j a q N : Nat} {f : Nat → Int32} {ml : Int32} {z : Int} (hs : SBw cx ws i j a q N f ml z) {x v : Int} (h0 : 0 ≤ x) (h1 : x < z) (hv : f x.toNat = oi v) (hv0 : 0 ≤ v) (hv1 : v < 128) : MtW cx yJ4_charAt_5068e cJ4_charAt_5068e 2 (some .char) 4 0 0 [.ref a, .int (oi x)] ws (QIw cx (fun r w => v = r ∧ ws = w)) := by
  refine mt_intro cd_J4_charAt_5068e (by decide +kernel) (Nat.le_of_ble_eq_true rfl) rfl (fun Pg Lc Ev s m args below meth c E hr => ?_)
  refine w_ent (ls' := [some (.ref a), some (.int (oi x))]) rfl ?_
  refine w_aload_n (pc := 0) E dJ4_charAt_5068e_0 (i := 0) rfl rfl ?_
  refine w_iload_n (pc := 1) E dJ4_charAt_5068e_1 (i := 1) rfl rfl ?_
  refine w_callUI (pc := 2) (As := [_]) E dJ4_charAt_5068e_2 mu_J4_329 hs.1 (cw_J5_charAt hs h0 h1 hv hv0 hv1) rfl rfl (by decide) (Nat.le_of_ble_eq_true rfl) rfl (Nat.le_of_ble_eq_true rfl) (by decide) (fun x2 w2 hw2 => ?_)
  obtain ⟨rfl, rfl⟩ := hw2
  refine w_zret (pc := 5) E hr dJ4_charAt_5068e_5 (congrArg Value.int (nar_c hv0 (by omega))) ?_
  exact ⟨rfl, rfl⟩

theorem cw_J5_isLatin1 {cx : Cx} {ws : va_W} {i j a q N : Nat} {f : Nat → Int32} {ml : Int32} {z : Int} (hs : SBw cx ws i j a q N f ml z) : MtW cx yJ5_isLatin1_aae02 cJ5_isLatin1_aae02 1 (some .boolean) 1 0 0 [.ref a] ws (QIw cx (fun x w => 1 = x ∧ ws = w)) := by
  refine mt_intro cd_J5_isLatin1_aae02 (by decide +kernel) (Nat.le_of_ble_eq_true rfl) rfl (fun Pg Lc Ev s m args below meth c E hr => ?_)
  refine w_ent (ls' := [some (.ref a)]) rfl ?_
  refine w_getsC (pc := 0) E dJ5_isLatin1_aae02_0 (big_at 285 (by decide +kernel) (by decide +kernel)) ?_
  refine w_if_eq (pc := 3) (tgt := 17) E dJ5_isLatin1_aae02_3 (by decide) (fun qh3 => absurd qh3 (by omega)) (fun qh3 => ?_) (by decide) (by decide)
  refine w_aload_n (pc := 6) E dJ5_isLatin1_aae02_6 (i := 0) rfl rfl ?_
  refine w_get (pc := 7) E dJ5_isLatin1_aae02_7 fl_J5_22 hs.1 rfl ?_
  refine w_if_ne (pc := 10) (tgt := 17) E dJ5_isLatin1_aae02_10 (by decide) (fun qh10 => absurd qh10 (by omega)) (fun qh10 => ?_) (by decide) (by decide)
  refine w_iconst (pc := 13) E dJ5_isLatin1_aae02_13 rfl ?_
  refine w_goto (pc := 14) (tgt := 18) E dJ5_isLatin1_aae02_14 (by decide) ?_
  refine w_zret (pc := 18) E hr dJ5_isLatin1_aae02_18 rfl ?_
  exact ⟨rfl, rfl⟩

theorem cw_J1_canEncode {cx : Cx} {ws : va_W} {v : Int} (h0 : 0 ≤ v) (h1 : v < 128) : MtW cx yJ1_canEncode_fc78d cJ1_canEncode_fc78d 1 (some .boolean) 1 0 0 [.int (oi v)] ws (QIw cx (fun x w => 1 = x ∧ ws = w)) := by
  refine mt_intro cd_J1_canEncode_fc78d (by decide +kernel) (Nat.le_of_ble_eq_true rfl) rfl (fun Pg Lc Ev s m args below meth c E hr => ?_)
  refine w_ent (ls' := [some (.int (oi v))]) rfl ?_
  refine w_iload_n (pc := 0) E dJ1_canEncode_fc78d_0 (i := 0) rfl rfl ?_
  refine w_sipush (pc := 1) E dJ1_canEncode_fc78d_1 rfl ?_
  refine w_icmp_gt (pc := 4) (tgt := 11) E dJ1_canEncode_fc78d_4 (by decide) (fun qh4 => absurd qh4 (by omega)) (fun qh4 => ?_) 
  refine w_iconst (pc := 7) E dJ1_canEncode_fc78d_7 rfl ?_
  refine w_goto (pc := 8) (tgt := 12) E dJ1_canEncode_fc78d_8 (by decide) ?_
  refine w_zret (pc := 12) E hr dJ1_canEncode_fc78d_12 rfl ?_
  exact ⟨rfl, rfl⟩

theorem cw_J8_newLength {cx : Cx} {ws : va_W} {a b g : Int} (h0 : 0 ≤ a) (h1 : a ≤ 400) (h2 : 0 ≤ b) (h3 : b ≤ 1000) (h4 : 1 ≤ g) (h5 : g ≤ 1000) : MtW cx yJ8_newLength_cabcc cJ8_newLength_cabcc 4 (some .int) 1 0 0 [.int (oi a), .int (oi b), .int (oi g)] ws (QIw cx (fun x w => a + max b g = x ∧ ws = w)) := by
  refine mt_intro cd_J8_newLength_cabcc (by decide +kernel) (Nat.le_of_ble_eq_true rfl) rfl (fun Pg Lc Ev s m args below meth c E hr => ?_)
  refine w_ent (ls' := [some (.int (oi a)), some (.int (oi b)), some (.int (oi g)), none]) rfl ?_
  refine w_iload_n (pc := 0) E dJ8_newLength_cabcc_0 (i := 0) rfl rfl ?_
  refine w_iload_n (pc := 1) E dJ8_newLength_cabcc_1 (i := 1) rfl rfl ?_
  refine w_iload_n (pc := 2) E dJ8_newLength_cabcc_2 (i := 2) rfl rfl ?_
  refine w_max (pc := 3) E dJ8_newLength_cabcc_3 (big_at 803 (by decide +kernel) (by decide +kernel)) rfl (by decide) (Nat.le_of_ble_eq_true rfl) (by omega) ?_ 
  refine w_iadd (pc := 6) E dJ8_newLength_cabcc_6 ?_
  refine w_istore_n (pc := 7) E dJ8_newLength_cabcc_7 (i := 3) (ls' := [_, _, _, _]) rfl (Nat.le_of_ble_eq_true rfl) rfl ?_
  refine w_iconst (pc := 8) E dJ8_newLength_cabcc_8 rfl ?_
  refine w_iload_n (pc := 9) E dJ8_newLength_cabcc_9 (i := 3) rfl rfl ?_
  refine w_icmp_ge (pc := 10) (tgt := 21) E dJ8_newLength_cabcc_10 (by decide) (fun qh10 => absurd qh10 (by omega)) (fun qh10 => ?_) 
  refine w_iload_n (pc := 13) E dJ8_newLength_cabcc_13 (i := 3) rfl rfl ?_
  refine w_ldc (pc := 14) (z := 2147483639) E dJ8_newLength_cabcc_14 (big_at 804 (by decide +kernel) (by decide +kernel)) rfl ?_
  refine w_icmp_gt (pc := 16) (tgt := 21) E dJ8_newLength_cabcc_16 (by decide) (fun qh16 => absurd qh16 (by omega)) (fun qh16 => ?_) 
  refine w_iload_n (pc := 19) E dJ8_newLength_cabcc_19 (i := 3) rfl rfl ?_
  refine w_iret (pc := 20) E hr dJ8_newLength_cabcc_20 ?_
  exact ⟨rfl, rfl⟩

theorem cw_J5_newCapacity {cx : Cx} {ws : va_W} {i j a q N : Nat} {f : Nat → Int32} {ml : Int32} {z : Int} (hs : SBw cx ws i j a q N f ml z) {v : Int} (h0 : N < v) (h1 : v ≤ 1000) : MtW cx yJ5_newCapacity_0f7a4 cJ5_newCapacity_0f7a4 6 (some .int) 2 0 0 [.ref a, .int (oi v)] ws (QIw cx (fun x w => N + max (v - N) (N + 2) = x ∧ ws = w)) := by
  refine mt_intro cd_J5_newCapacity_0f7a4 (by decide +kernel) (Nat.le_of_ble_eq_true rfl) rfl (fun Pg Lc Ev s m args below meth c E hr => ?_)
  refine w_ent (ls' := [some (.ref a), some (.int (oi v)), none, none, none, none]) rfl ?_
  have hN2 := hs.2.2.2.2.1
  refine w_aload_n (pc := 0) E dJ5_newCapacity_0f7a4_0 (i := 0) rfl rfl ?_
  refine w_get (pc := 1) E dJ5_newCapacity_0f7a4_1 fl_J5_15 hs.1 rfl ?_
  refine w_alen (pc := 4) E dJ5_newCapacity_0f7a4_4 hs.2.1 rfl ?_
  refine w_istore_n (pc := 5) E dJ5_newCapacity_0f7a4_5 (i := 2) (ls' := [_, _, _, _, _, _]) rfl (Nat.le_of_ble_eq_true rfl) rfl ?_
  refine w_iload_n (pc := 6) E dJ5_newCapacity_0f7a4_6 (i := 1) rfl rfl ?_
  refine w_aload_n (pc := 7) E dJ5_newCapacity_0f7a4_7 (i := 0) rfl rfl ?_
  refine w_get (pc := 8) E dJ5_newCapacity_0f7a4_8 fl_J5_22 hs.1 rfl ?_
  refine w_ishl0 (pc := 11) E dJ5_newCapacity_0f7a4_11 ?_
  refine w_istore_n (pc := 12) E dJ5_newCapacity_0f7a4_12 (i := 3) (ls' := [_, _, _, _, _, _]) rfl (Nat.le_of_ble_eq_true rfl) rfl ?_
  refine w_iload_n (pc := 13) E dJ5_newCapacity_0f7a4_13 (i := 3) rfl rfl ?_
  refine w_iload_n (pc := 14) E dJ5_newCapacity_0f7a4_14 (i := 2) rfl rfl ?_
  refine w_isub (pc := 15) E dJ5_newCapacity_0f7a4_15 ?_
  refine w_istore (pc := 16) E dJ5_newCapacity_0f7a4_16 (ls' := [_, _, _, _, _, _]) (Nat.le_of_ble_eq_true rfl) rfl ?_
  refine w_iload_n (pc := 18) E dJ5_newCapacity_0f7a4_18 (i := 2) rfl rfl ?_
  refine w_iload (pc := 19) E dJ5_newCapacity_0f7a4_19 rfl ?_
  refine w_iload_n (pc := 21) E dJ5_newCapacity_0f7a4_21 (i := 2) rfl rfl ?_
  refine w_iconst (pc := 22) E dJ5_newCapacity_0f7a4_22 rfl ?_
  refine w_aload_n (pc := 23) E dJ5_newCapacity_0f7a4_23 (i := 0) rfl rfl ?_
  refine w_get (pc := 24) E dJ5_newCapacity_0f7a4_24 fl_J5_22 hs.1 rfl ?_
  refine w_ishl0 (pc := 27) E dJ5_newCapacity_0f7a4_27 ?_
  refine w_iadd (pc := 28) E dJ5_newCapacity_0f7a4_28 ?_
  refine w_callSI (pc := 29) (As := [_, _, _]) E dJ5_newCapacity_0f7a4_29 ml_J5_114  (cw_J8_newLength (by omega) (by omega) (by omega) (by omega) (by omega) (by omega)) rfl rfl (by decide) (Nat.le_of_ble_eq_true rfl) rfl (Nat.le_of_ble_eq_true rfl) (by decide) (fun x29 w29 hw29 => ?_)
  obtain ⟨rfl, rfl⟩ := hw29
  refine w_istore (pc := 32) E dJ5_newCapacity_0f7a4_32 (ls' := [_, _, _, _, _, _]) (Nat.le_of_ble_eq_true rfl) rfl ?_
  refine w_iload (pc := 34) E dJ5_newCapacity_0f7a4_34 rfl ?_
  refine w_ldc (pc := 36) (z := 2147483647) E dJ5_newCapacity_0f7a4_36 (big_at 808 (by decide +kernel) (by decide +kernel)) rfl ?_
  refine w_icmp_ne (pc := 38) (tgt := 51) E dJ5_newCapacity_0f7a4_38 (by decide) (fun qh38 => ?_) (fun qh38 => absurd qh38 (by omega)) 
  refine w_iload (pc := 51) E dJ5_newCapacity_0f7a4_51 rfl ?_
  refine w_aload_n (pc := 53) E dJ5_newCapacity_0f7a4_53 (i := 0) rfl rfl ?_
  refine w_get (pc := 54) E dJ5_newCapacity_0f7a4_54 fl_J5_22 hs.1 rfl ?_
  refine w_ishr0 (pc := 57) E dJ5_newCapacity_0f7a4_57 ?_
  refine w_iret (pc := 58) E hr dJ5_newCapacity_0f7a4_58 ?_
  exact ⟨rfl, rfl⟩

theorem cw_J7_copyOf {cx : Cx} {ws : va_W} {j q N N2 : Nat} {f : Nat → Int32} {v : Int} (hj : ws[j]? = some (q, .inl (cA cx 3, N, .inl f))) (hf : sb_Fit f) (hv : v = N2) (h0 : N < N2) (h1 : N2 ≤ 170) : MtW cx yJ7_copyOf_9075b cJ7_copyOf_9075b 3 (some (.array .byte)) 2 1 170 [.ref q, .int (oi v)] ws (QRw cx (fun u w => w = ws ++ [(u, .inl (cA cx 3, N2, .inl (va_cpy f (fun _ => 0) 0 0 N)))])) := by
  refine mt_intro cd_J7_copyOf_9075b (by decide +kernel) (Nat.le_of_ble_eq_true rfl) rfl (fun Pg Lc Ev s m args below meth c E hr => ?_)
  refine w_ent (ls' := [some (.ref q), some (.int (oi v)), none]) rfl ?_
  have hjj := And.intro hj (And.intro hj hj)
  refine w_iload_n (pc := 0) E dJ7_copyOf_9075b_0 (i := 1) rfl rfl ?_
  refine w_aload_n (pc := 1) E dJ7_copyOf_9075b_1 (i := 0) rfl rfl ?_
  refine w_alen (pc := 2) E dJ7_copyOf_9075b_2 hjj.2.1 rfl ?_
  refine w_icmp_ne (pc := 3) (tgt := 14) E dJ7_copyOf_9075b_3 (by decide) (fun qh3 => ?_) (fun qh3 => absurd qh3 (by omega)) 
  refine w_iload_n (pc := 14) E dJ7_copyOf_9075b_14 (i := 1) rfl rfl ?_
  refine w_newb (pc := 15) (N := N2) E dJ7_copyOf_9075b_15 hv (by omega) (by omega) (fun q2 => ?_)
  have hl := (List.getElem?_eq_some_iff.mp hj).1
  have hj2 : (ws ++ [(q2, Sum.inl (cA cx 3, N2, Sum.inl (fun _ => 0)))])[j]? = some (q, .inl (cA cx 3, N, .inl f)) := by rw [List.getElem?_append_left hl]; exact hj
  have hn2 : (ws ++ [(q2, Sum.inl (cA cx 3, N2, Sum.inl (fun _ => 0)))])[ws.length]? = some (q2, .inl (cA cx 3, N2, .inl (fun _ => 0))) := by rw [List.getElem?_append_right (Nat.le_refl _)]; simp
  have hjj := And.intro hj2 (And.intro hj2 hj2)
  refine w_astore_n (pc := 17) E dJ7_copyOf_9075b_17 (i := 2) (ls' := [_, _, _]) rfl (Nat.le_of_ble_eq_true rfl) rfl ?_
  refine w_aload_n (pc := 18) E dJ7_copyOf_9075b_18 (i := 0) rfl rfl ?_
  refine w_iconst (pc := 19) E dJ7_copyOf_9075b_19 rfl ?_
  refine w_aload_n (pc := 20) E dJ7_copyOf_9075b_20 (i := 2) rfl rfl ?_
  refine w_iconst (pc := 21) E dJ7_copyOf_9075b_21 rfl ?_
  refine w_aload_n (pc := 22) E dJ7_copyOf_9075b_22 (i := 0) rfl rfl ?_
  refine w_alen (pc := 23) E dJ7_copyOf_9075b_23 hjj.2.1 rfl ?_
  refine w_iload_n (pc := 24) E dJ7_copyOf_9075b_24 (i := 1) rfl rfl ?_
  refine w_min (pc := 25) E dJ7_copyOf_9075b_25 (big_at 819 (by decide +kernel) (by decide +kernel)) rfl (by decide) (Nat.le_of_ble_eq_true rfl) (by omega) ?_ 
  refine w_copyb (pc := 28) (n0 := min (N : Int) v) E dJ7_copyOf_9075b_28 (big_at 820 (by decide +kernel) (by decide +kernel)) hj2 hn2 (Nat.le_refl _) (by omega) (by omega) (by omega) hf rfl (by decide) (Nat.le_of_ble_eq_true rfl) rfl ?_
  refine w_aload_n (pc := 31) E dJ7_copyOf_9075b_31 (i := 2) rfl rfl ?_
  refine w_widen (k' := 1) (n' := 170) (by omega) (by omega) ?_
  refine w_aret (pc := 32) E hr (by first | exact Or.inl ⟨_, rfl⟩ | exact Or.inr ⟨_, rfl⟩) dJ7_copyOf_9075b_32 ?_
  rw [List.set_append_right _ _ (Nat.le_refl _)]; simp

theorem cw_J5_ensure {cx : Cx} {ws : va_W} {i j a q N : Nat} {f : Nat → Int32} {ml : Int32} {z : Int} (hs : SBw cx ws i j a q N f ml z) {v : Int} (h0 : 0 ≤ v) (h1 : v ≤ 84) : MtW cx yJ5_ensureCapacityInternal_d00df cJ5_ensureCapacityInternal_d00df 3 none 3 1 170 [.ref a, .int (oi v)] ws (QVw cx (fun w => EnP cx ws i j a f ml z v w)) := by
  refine mt_intro cd_J5_ensureCapacityInternal_d00df (by decide +kernel) (Nat.le_of_ble_eq_true rfl) rfl (fun Pg Lc Ev s m args below meth c E hr => ?_)
  refine w_ent (ls' := [some (.ref a), some (.int (oi v)), none]) rfl ?_
  have hN0 := hs.2.2.1
  have hN1 := hs.2.2.2.1
  have hN2 := hs.2.2.2.2.1
  refine w_aload_n (pc := 0) E dJ5_ensureCapacityInternal_d00df_0 (i := 0) rfl rfl ?_
  refine w_get (pc := 1) E dJ5_ensureCapacityInternal_d00df_1 fl_J5_15 hs.1 rfl ?_
  refine w_alen (pc := 4) E dJ5_ensureCapacityInternal_d00df_4 hs.2.1 rfl ?_
  refine w_aload_n (pc := 5) E dJ5_ensureCapacityInternal_d00df_5 (i := 0) rfl rfl ?_
  refine w_get (pc := 6) E dJ5_ensureCapacityInternal_d00df_6 fl_J5_22 hs.1 rfl ?_
  refine w_ishr0 (pc := 9) E dJ5_ensureCapacityInternal_d00df_9 ?_
  refine w_istore_n (pc := 10) E dJ5_ensureCapacityInternal_d00df_10 (i := 2) (ls' := [_, _, _]) rfl (Nat.le_of_ble_eq_true rfl) rfl ?_
  refine w_iload_n (pc := 11) E dJ5_ensureCapacityInternal_d00df_11 (i := 1) rfl rfl ?_
  refine w_iload_n (pc := 12) E dJ5_ensureCapacityInternal_d00df_12 (i := 2) rfl rfl ?_
  refine w_isub (pc := 13) E dJ5_ensureCapacityInternal_d00df_13 ?_
  refine w_if_le (pc := 14) (tgt := 38) E dJ5_ensureCapacityInternal_d00df_14 (by decide) (fun qh14 => ?_) (fun qh14 => ?_) 
  · refine w_widen (k' := 1) (n' := 170) (by omega) (by omega) ?_
    refine w_vret (pc := 38) E hr dJ5_ensureCapacityInternal_d00df_38 ?_
    exact ⟨j, q, N, f, hs, by omega, fun _ _ => rfl, FR.rf _ _ _⟩
  · refine w_aload_n (pc := 17) E dJ5_ensureCapacityInternal_d00df_17 (i := 0) rfl rfl ?_
    refine w_aload_n (pc := 18) E dJ5_ensureCapacityInternal_d00df_18 (i := 0) rfl rfl ?_
    refine w_get (pc := 19) E dJ5_ensureCapacityInternal_d00df_19 fl_J5_15 hs.1 rfl ?_
    refine w_aload_n (pc := 22) E dJ5_ensureCapacityInternal_d00df_22 (i := 0) rfl rfl ?_
    refine w_iload_n (pc := 23) E dJ5_ensureCapacityInternal_d00df_23 (i := 1) rfl rfl ?_
    refine w_callPI (pc := 24) (As := [_]) E dJ5_ensureCapacityInternal_d00df_24 mp_J5_104 hs.1 (cw_J5_newCapacity hs (by omega) (by omega)) rfl rfl (by decide) (Nat.le_of_ble_eq_true rfl) rfl (Nat.le_of_ble_eq_true rfl) (by decide) (fun x24 w24 hw24 => ?_)
    obtain ⟨rfl, rfl⟩ := hw24
    refine w_aload_n (pc := 27) E dJ5_ensureCapacityInternal_d00df_27 (i := 0) rfl rfl ?_
    refine w_get (pc := 28) E dJ5_ensureCapacityInternal_d00df_28 fl_J5_22 hs.1 rfl ?_
    refine w_ishl0 (pc := 31) E dJ5_ensureCapacityInternal_d00df_31 ?_
    refine w_callSR (pc := 32) (As := [_, _]) E dJ5_ensureCapacityInternal_d00df_32 ml_J5_108  (cw_J7_copyOf (N2 := (N + max (v - N) (N + 2)).toNat) hs.2.1 hs.2.2.2.2.2 (by omega) (by omega) (by omega)) rfl rfl (by decide) (Nat.le_of_ble_eq_true rfl) rfl (Nat.le_of_ble_eq_true rfl) (by decide) (fun u32 w32 hw32 => ?_)
    have hl := (List.getElem?_eq_some_iff.mp hs.1).1
    have hi2 : w32[i]? = some (a, .inr (0, sbF q ml z)) := by rw [hw32, List.getElem?_append_left hl]; exact hs.1
    have hn2 : w32[ws.length]? = some (u32, .inl (cA cx 3, (N + max (v - N) (N + 2)).toNat, .inl (va_cpy f (fun _ => 0) 0 0 N))) := by rw [hw32, List.getElem?_append_right (Nat.le_refl _)]; simp
    have hh := And.intro hi2 hi2
    refine w_put (pc := 35) E dJ5_ensureCapacityInternal_d00df_35 fl_J5_15 hh.1 rfl rfl rfl (Nat.le_of_ble_eq_true rfl) rfl ?_
    refine w_widen (k' := 1) (n' := 170) (by omega) (by omega) ?_
    refine w_vret (pc := 38) E hr dJ5_ensureCapacityInternal_d00df_38 ?_
    refine ⟨ws.length, u32, (N + max (v - N) (N + 2)).toNat, va_cpy f (fun _ => 0) 0 0 N, ⟨?_, ?_, by omega, by omega, by omega, sb_fitC hs.2.2.2.2.2 sb_fit0⟩, by omega, fun x hx => sb_cpy0 (by omega), fun k e hk hj he => ?_, Or.inr (Nat.le_refl _)⟩
    · rw [List.getElem?_set_self (List.getElem?_eq_some_iff.mp hi2).1]; rfl
    · rw [List.getElem?_set_ne (by omega)]; exact hn2
    · rw [List.getElem?_set_ne (Ne.symm hk), hw32, List.getElem?_append_left (List.getElem?_eq_some_iff.mp he).1]; exact he

theorem cw_J5_appendC {cx : Cx} {ws : va_W} {i j a q N : Nat} {f : Nat → Int32} {ml : Int32} {z : Int} (hs : SBw cx ws i j a q N f ml z) {v : Int} (hv0 : 0 ≤ v) (hv1 : v < 128) (hz : z ≤ 83) : MtW cx yJ5_append_3fe6f cJ5_append_3fe6f 2 (some (.object "java/lang/AbstractStringBuilder")) 4 1 170 [.ref a, .int (oi v)] ws (QRw cx (fun u w => ApP cx ws i j a f ml z [v] u w)) := by
  refine mt_intro cd_J5_append_3fe6f (by decide +kernel) (Nat.le_of_ble_eq_true rfl) rfl (fun Pg Lc Ev s m args below meth c E hr => ?_)
  refine w_ent (ls' := [some (.ref a), some (.int (oi v))]) rfl ?_
  have hN0 := hs.2.2.1
  have hN2 := hs.2.2.2.2.1
  refine w_aload_n (pc := 0) E dJ5_append_3fe6f_0 (i := 0) rfl rfl ?_
  refine w_aload_n (pc := 1) E dJ5_append_3fe6f_1 (i := 0) rfl rfl ?_
  refine w_get (pc := 2) E dJ5_append_3fe6f_2 fl_J5_79 hs.1 rfl ?_
  refine w_iconst (pc := 5) E dJ5_append_3fe6f_5 rfl ?_
  refine w_iadd (pc := 6) E dJ5_append_3fe6f_6 ?_
  refine w_callPV (pc := 7) (As := [_]) E dJ5_append_3fe6f_7 mp_J5_100 hs.1 (cw_J5_ensure hs (by omega) (by omega)) rfl rfl (by decide) (Nat.le_of_ble_eq_true rfl) rfl (Nat.le_of_ble_eq_true rfl) (by decide) (fun w7 hw7 => ?_)
  obtain ⟨j1, q1, N1, f1, hs1, hN1, hk1, hF1⟩ := hw7
  have hN4 := hs1.2.2.2.2.1
  refine w_aload_n (pc := 10) E dJ5_append_3fe6f_10 (i := 0) rfl rfl ?_
  refine w_callPI (pc := 11) (As := []) E dJ5_append_3fe6f_11 mp_J5_83 hs1.1 (cw_J5_isLatin1 hs1) rfl rfl (by decide) (Nat.le_of_ble_eq_true rfl) rfl (Nat.le_of_ble_eq_true rfl) (by decide) (fun x11 w11 hw11 => ?_)
  obtain ⟨rfl, rfl⟩ := hw11
  refine w_if_eq (pc := 14) (tgt := 45) E dJ5_append_3fe6f_14 (by decide) (fun qh14 => absurd qh14 (by omega)) (fun qh14 => ?_) (by decide) (by decide)
  refine w_iload_n (pc := 17) E dJ5_append_3fe6f_17 (i := 1) rfl rfl ?_
  refine w_callSI (pc := 18) (As := [_]) E dJ5_append_3fe6f_18 ml_J5_191  (cw_J1_canEncode hv0 hv1) rfl rfl (by decide) (Nat.le_of_ble_eq_true rfl) rfl (Nat.le_of_ble_eq_true rfl) (by decide) (fun x18 w18 hw18 => ?_)
  obtain ⟨rfl, rfl⟩ := hw18
  refine w_if_eq (pc := 21) (tgt := 45) E dJ5_append_3fe6f_21 (by decide) (fun qh21 => absurd qh21 (by omega)) (fun qh21 => ?_) (by decide) (by decide)
  refine w_aload_n (pc := 24) E dJ5_append_3fe6f_24 (i := 0) rfl rfl ?_
  refine w_get (pc := 25) E dJ5_append_3fe6f_25 fl_J5_15 hs1.1 rfl ?_
  refine w_aload_n (pc := 28) E dJ5_append_3fe6f_28 (i := 0) rfl rfl ?_
  refine w_dup (pc := 29) E dJ5_append_3fe6f_29 rfl ?_
  refine w_get (pc := 30) E dJ5_append_3fe6f_30 fl_J5_79 hs1.1 rfl ?_
  refine w_dup_x1 (pc := 33) E dJ5_append_3fe6f_33 rfl rfl ?_
  refine w_iconst (pc := 34) E dJ5_append_3fe6f_34 rfl ?_
  refine w_iadd (pc := 35) E dJ5_append_3fe6f_35 ?_
  refine w_put (pc := 36) E dJ5_append_3fe6f_36 fl_J5_79 hs1.1 rfl rfl rfl (Nat.le_of_ble_eq_true rfl) rfl ?_
  refine w_iload_n (pc := 39) E dJ5_append_3fe6f_39 (i := 1) rfl rfl ?_
  refine w_i2b (pc := 40) E dJ5_append_3fe6f_40 (bo_i2b hv0 hv1) ?_
  refine w_bast (pc := 41) E dJ5_append_3fe6f_41 (hs1.seti (ml' := ml) (z' := z + 1) (by omega) (by omega)).2.1 hN0 (by omega) (by omega) rfl ?_
  refine w_goto (pc := 42) (tgt := 75) E dJ5_append_3fe6f_42 (by decide) ?_
  refine w_aload_n (pc := 75) E dJ5_append_3fe6f_75 (i := 0) rfl rfl ?_
  refine w_widen (k' := 1) (n' := 170) (by omega) (by omega) ?_
  refine w_aret (pc := 76) E hr (by first | exact Or.inl ⟨_, rfl⟩ | exact Or.inr ⟨_, rfl⟩) dJ5_append_3fe6f_76 ?_
  have e1 : z + (([v] : List Int).length : Int) = z + 1 := by simp
  rw [bo_nar hv0 hv1]
  refine ⟨rfl, j1, q1, N1, upd f1 z.toNat (oi v), ?_, hF1.seti.setj, fun x hx => ?_, fun t ht => ?_⟩
  · rw [e1]; exact (hs1.seti (by omega) (by omega)).setj (sb_fitU hs1.2.2.2.2.2 (bo_fit hv0 hv1))
  · unfold upd; rw [if_neg (by omega)]; exact hk1 x hx
  · have ht0 : t = 0 := by simpa using ht
    subst ht0
    unfold upd; rw [if_pos (by omega)]; rfl

theorem cw_J4_appendC {cx : Cx} {ws : va_W} {i j a q N : Nat} {f : Nat → Int32} {ml : Int32} {z : Int} (hs : SBw cx ws i j a q N f ml z) {v : Int} (hv0 : 0 ≤ v) (hv1 : v < 128) (hz : z ≤ 83) : MtW cx yJ4_append_cf468 cJ4_append_cf468 2 (some (.object "java/lang/StringBuilder")) 5 1 170 [.ref a, .int (oi v)] ws (QRw cx (fun u w => ApP cx ws i j a f ml z [v] u w)) := by
  refine mt_intro cd_J4_append_cf468 (by decide +kernel) (Nat.le_of_ble_eq_true rfl) rfl (fun Pg Lc Ev s m args below meth c E hr => ?_)
  refine w_ent (ls' := [some (.ref a), some (.int (oi v))]) rfl ?_
  refine w_aload_n (pc := 0) E dJ4_append_cf468_0 (i := 0) rfl rfl ?_
  refine w_iload_n (pc := 1) E dJ4_append_cf468_1 (i := 1) rfl rfl ?_
  refine w_callUR (pc := 2) (As := [_]) E dJ4_append_cf468_2 mu_J4_50 hs.1 (cw_J5_appendC hs hv0 hv1 hz) rfl rfl (by decide) (Nat.le_of_ble_eq_true rfl) rfl (Nat.le_of_ble_eq_true rfl) (by decide) (fun u2 w2 hw2 => ?_)
  refine w_pop (pc := 5) E dJ4_append_cf468_5 rfl ?_
  refine w_aload_n (pc := 6) E dJ4_append_cf468_6 (i := 0) rfl rfl ?_
  refine w_widen (k' := 1) (n' := 170) (by omega) (by omega) ?_
  refine w_aret (pc := 7) E hr (by first | exact Or.inl ⟨_, rfl⟩ | exact Or.inr ⟨_, rfl⟩) dJ4_append_cf468_7 ?_
  exact ⟨rfl, hw2.2⟩

theorem dg_1 {v : Int} (h : v ≤ 9) : dgL v = [48 + v] := by unfold dgL; rw [if_pos h]
theorem dg_2 {v : Int} (h : 9 < v) (h2 : v ≤ 99) : dgL v = [48 + v / 10, 48 + v % 10] := by unfold dgL; rw [if_neg (by omega), if_pos h2]
theorem dg_100 : dgL 100 = [49, 48, 48] := by decide

theorem cw_J6_stringSize {cx : Cx} {ws : va_W} {v : Int} (h0 : 0 ≤ v) (h1 : v ≤ 100) : MtW cx yJ6_stringSize_0f7a4 cJ6_stringSize_0f7a4 4 (some .int) 1 0 0 [.int (oi v)] ws (QIw cx (fun x w => (dgL v).length = x ∧ ws = w)) := by
  refine mt_intro cd_J6_stringSize_0f7a4 (by decide +kernel) (Nat.le_of_ble_eq_true rfl) rfl (fun Pg Lc Ev s m args below meth c E hr => ?_)
  refine w_ent (ls' := [some (.int (oi v)), none, none, none]) rfl ?_
  refine w_iconst (pc := 0) E dJ6_stringSize_0f7a4_0 rfl ?_
  refine w_istore_n (pc := 1) E dJ6_stringSize_0f7a4_1 (i := 1) (ls' := [_, _, _, _]) rfl (Nat.le_of_ble_eq_true rfl) rfl ?_
  refine w_iload_n (pc := 2) E dJ6_stringSize_0f7a4_2 (i := 0) rfl rfl ?_
  refine w_if_lt (pc := 3) (tgt := 11) E dJ6_stringSize_0f7a4_3 (by decide) (fun qh3 => absurd qh3 (by omega)) (fun qh3 => ?_) 
  refine w_iconst (pc := 6) E dJ6_stringSize_0f7a4_6 rfl ?_
  refine w_istore_n (pc := 7) E dJ6_stringSize_0f7a4_7 (i := 1) (ls' := [_, _, _, _]) rfl (Nat.le_of_ble_eq_true rfl) rfl ?_
  refine w_iload_n (pc := 8) E dJ6_stringSize_0f7a4_8 (i := 0) rfl rfl ?_
  refine w_ineg (pc := 9) E dJ6_stringSize_0f7a4_9 ?_
  refine w_istore_n (pc := 10) E dJ6_stringSize_0f7a4_10 (i := 0) (ls' := [_, _, _, _]) rfl (Nat.le_of_ble_eq_true rfl) rfl ?_
  refine w_bipush (pc := 11) E dJ6_stringSize_0f7a4_11 rfl ?_
  refine w_istore_n (pc := 13) E dJ6_stringSize_0f7a4_13 (i := 2) (ls' := [_, _, _, _]) rfl (Nat.le_of_ble_eq_true rfl) rfl ?_
  refine w_iconst (pc := 14) E dJ6_stringSize_0f7a4_14 rfl ?_
  refine w_istore_n (pc := 15) E dJ6_stringSize_0f7a4_15 (i := 3) (ls' := [_, _, _, _]) rfl (Nat.le_of_ble_eq_true rfl) rfl ?_
  refine w_iload_n (pc := 16) E dJ6_stringSize_0f7a4_16 (i := 3) rfl rfl ?_
  refine w_bipush (pc := 17) E dJ6_stringSize_0f7a4_17 rfl ?_
  refine w_icmp_ge (pc := 19) (tgt := 42) E dJ6_stringSize_0f7a4_19 (by decide) (fun qh19 => absurd qh19 (by omega)) (fun qh19 => ?_) 
  refine w_iload_n (pc := 22) E dJ6_stringSize_0f7a4_22 (i := 0) rfl rfl ?_
  refine w_iload_n (pc := 23) E dJ6_stringSize_0f7a4_23 (i := 2) rfl rfl ?_
  refine w_icmp_le (pc := 24) (tgt := 31) E dJ6_stringSize_0f7a4_24 (by decide) (fun qh24 => ?_) (fun qh24 => ?_) 
  · refine w_bipush (pc := 31) E dJ6_stringSize_0f7a4_31 rfl ?_
    refine w_iload_n (pc := 33) E dJ6_stringSize_0f7a4_33 (i := 2) rfl rfl ?_
    refine w_imul (pc := 34) E dJ6_stringSize_0f7a4_34 ?_
    refine w_istore_n (pc := 35) E dJ6_stringSize_0f7a4_35 (i := 2) (ls' := [_, _, _, _]) rfl (Nat.le_of_ble_eq_true rfl) rfl ?_
    refine w_iinc (pc := 36) E dJ6_stringSize_0f7a4_36 (ls' := [_, _, _, _]) rfl rfl rfl ?_
    refine w_goto (pc := 39) (tgt := 16) E dJ6_stringSize_0f7a4_39 (by decide) ?_
    refine w_iload_n (pc := 16) E dJ6_stringSize_0f7a4_16 (i := 3) rfl rfl ?_
    refine w_bipush (pc := 17) E dJ6_stringSize_0f7a4_17 rfl ?_
    refine w_icmp_ge (pc := 19) (tgt := 42) E dJ6_stringSize_0f7a4_19 (by decide) (fun qh19 => absurd qh19 (by omega)) (fun qh19 => ?_) 
    refine w_iload_n (pc := 22) E dJ6_stringSize_0f7a4_22 (i := 0) rfl rfl ?_
    refine w_iload_n (pc := 23) E dJ6_stringSize_0f7a4_23 (i := 2) rfl rfl ?_
    refine w_icmp_le (pc := 24) (tgt := 31) E dJ6_stringSize_0f7a4_24 (by decide) (fun qh24 => ?_) (fun qh24 => ?_) 
    · refine w_bipush (pc := 31) E dJ6_stringSize_0f7a4_31 rfl ?_
      refine w_iload_n (pc := 33) E dJ6_stringSize_0f7a4_33 (i := 2) rfl rfl ?_
      refine w_imul (pc := 34) E dJ6_stringSize_0f7a4_34 ?_
      refine w_istore_n (pc := 35) E dJ6_stringSize_0f7a4_35 (i := 2) (ls' := [_, _, _, _]) rfl (Nat.le_of_ble_eq_true rfl) rfl ?_
      refine w_iinc (pc := 36) E dJ6_stringSize_0f7a4_36 (ls' := [_, _, _, _]) rfl rfl rfl ?_
      refine w_goto (pc := 39) (tgt := 16) E dJ6_stringSize_0f7a4_39 (by decide) ?_
      refine w_iload_n (pc := 16) E dJ6_stringSize_0f7a4_16 (i := 3) rfl rfl ?_
      refine w_bipush (pc := 17) E dJ6_stringSize_0f7a4_17 rfl ?_
      refine w_icmp_ge (pc := 19) (tgt := 42) E dJ6_stringSize_0f7a4_19 (by decide) (fun qh19 => absurd qh19 (by omega)) (fun qh19 => ?_) 
      refine w_iload_n (pc := 22) E dJ6_stringSize_0f7a4_22 (i := 0) rfl rfl ?_
      refine w_iload_n (pc := 23) E dJ6_stringSize_0f7a4_23 (i := 2) rfl rfl ?_
      refine w_icmp_le (pc := 24) (tgt := 31) E dJ6_stringSize_0f7a4_24 (by decide) (fun qh24 => absurd qh24 (by omega)) (fun qh24 => ?_) 
      refine w_iload_n (pc := 27) E dJ6_stringSize_0f7a4_27 (i := 3) rfl rfl ?_
      refine w_iload_n (pc := 28) E dJ6_stringSize_0f7a4_28 (i := 1) rfl rfl ?_
      refine w_iadd (pc := 29) E dJ6_stringSize_0f7a4_29 ?_
      refine w_iret (pc := 30) E hr dJ6_stringSize_0f7a4_30 ?_
      have e : v = 100 := by omega
      subst e
      exact ⟨by rw [dg_100]; rfl, rfl⟩
    · refine w_iload_n (pc := 27) E dJ6_stringSize_0f7a4_27 (i := 3) rfl rfl ?_
      refine w_iload_n (pc := 28) E dJ6_stringSize_0f7a4_28 (i := 1) rfl rfl ?_
      refine w_iadd (pc := 29) E dJ6_stringSize_0f7a4_29 ?_
      refine w_iret (pc := 30) E hr dJ6_stringSize_0f7a4_30 ?_
      exact ⟨by rw [dg_2 (by omega) (by omega)]; rfl, rfl⟩
  · refine w_iload_n (pc := 27) E dJ6_stringSize_0f7a4_27 (i := 3) rfl rfl ?_
    refine w_iload_n (pc := 28) E dJ6_stringSize_0f7a4_28 (i := 1) rfl rfl ?_
    refine w_iadd (pc := 29) E dJ6_stringSize_0f7a4_29 ?_
    refine w_iret (pc := 30) E hr dJ6_stringSize_0f7a4_30 ?_
    exact ⟨by rw [dg_1 (by omega)]; rfl, rfl⟩

def GcP (cx : Cx) (ws : va_W) (j q N : Nat) (f : Nat → Int32) (z : Int) (cs : List Int) (x : Int) (w : va_W) : Prop := ∃ f' : Nat → Int32, w = ws.set j (q, .inl (cA cx 3, N, .inl f')) ∧ sb_Fit f' ∧ (∀ x : Nat, (x : Int) < z → f' x = f x) ∧ ∀ t : Nat, t < cs.length → f' (z.toNat + t) = oi (cs.getD t 0)
theorem up_ne {f : Nat → Int32} {k x : Nat} {v : Int32} (h : x ≠ k) : upd f k v x = f x := by unfold upd; rw [if_neg h]
theorem up_eq {f : Nat → Int32} {k x : Nat} {v : Int32} (h : x = k) : upd f k v x = v := by unfold upd; rw [if_pos h]
theorem set_at {ws : va_W} {j : Nat} {e e' : Nat × va_E} (h : ws[j]? = some e) : (ws.set j e')[j]? = some e' := List.getElem?_set_self (List.getElem?_eq_some_iff.mp h).1

theorem cw_getChars1 {cx : Cx} {ws : va_W} {j q N : Nat} {f : Nat → Int32} {z : Int} (hj : ws[j]? = some (q, .inl (cA cx 3, N, .inl f))) (hf : sb_Fit f) (hN : N ≤ 400) (z0 : 0 ≤ z) {v : Int} (h0 : 0 ≤ v) (h1 : v ≤ 9) (hz : z + 1 ≤ N) : MtW cx yJ6_getChars_ba4f3 cJ6_getChars_ba4f3 7 (some .int) 1 0 0 [.int (oi v), .int (oi (z + 1)), .ref q] ws (QIw cx (fun x w => GcP cx ws j q N f z [48 + v] x w)) := by
  refine mt_intro cd_J6_getChars_ba4f3 (by decide +kernel) (Nat.le_of_ble_eq_true rfl) rfl (fun Pg Lc Ev s m args below meth c E hr => ?_)
  refine w_ent (ls' := [some (.int (oi v)), some (.int (oi (z + 1))), some (.ref q), none, none, none, none]) rfl ?_
  refine w_iload_n (pc := 0) E dJ6_getChars_ba4f3_0 (i := 1) rfl rfl ?_
  refine w_istore (pc := 1) E dJ6_getChars_ba4f3_1 (ls' := [_, _, _, _, _, _, _]) (Nat.le_of_ble_eq_true rfl) rfl ?_
  refine w_iload_n (pc := 3) E dJ6_getChars_ba4f3_3 (i := 0) rfl rfl ?_
  refine w_if_ge (pc := 4) (tgt := 11) E dJ6_getChars_ba4f3_4 (by decide) (fun qh4 => ?_) (fun qh4 => absurd qh4 (by omega)) 
  refine w_iconst (pc := 11) E dJ6_getChars_ba4f3_11 rfl ?_
  refine w_istore (pc := 12) E dJ6_getChars_ba4f3_12 (ls' := [_, _, _, _, _, _, _]) (Nat.le_of_ble_eq_true rfl) rfl ?_
  refine w_iload (pc := 14) E dJ6_getChars_ba4f3_14 rfl ?_
  refine w_if_ne (pc := 16) (tgt := 22) E dJ6_getChars_ba4f3_16 (by decide) (fun qh16 => absurd qh16 (by omega)) (fun qh16 => ?_) (by decide) (by decide)
  refine w_iload_n (pc := 19) E dJ6_getChars_ba4f3_19 (i := 0) rfl rfl ?_
  refine w_ineg (pc := 20) E dJ6_getChars_ba4f3_20 ?_
  refine w_istore_n (pc := 21) E dJ6_getChars_ba4f3_21 (i := 0) (ls' := [_, _, _, _, _, _, _]) rfl (Nat.le_of_ble_eq_true rfl) rfl ?_
  refine w_iload_n (pc := 22) E dJ6_getChars_ba4f3_22 (i := 0) rfl rfl ?_
  refine w_bipush (pc := 23) E dJ6_getChars_ba4f3_23 rfl ?_
  refine w_icmp_gt (pc := 25) (tgt := 72) E dJ6_getChars_ba4f3_25 (by decide) (fun qh25 => ?_) (fun qh25 => absurd qh25 (by omega)) 
  refine w_aload_n (pc := 72) E dJ6_getChars_ba4f3_72 (i := 2) rfl rfl ?_
  refine w_iinc (pc := 73) E dJ6_getChars_ba4f3_73 (ls' := [_, _, _, _, _, _, _]) rfl rfl rfl ?_
  refine w_iload (pc := 76) E dJ6_getChars_ba4f3_76 rfl ?_
  refine w_dig1 (pc := 78) E dJ6_getChars_ba4f3_78 (big_at 1034 (by decide +kernel) (by decide +kernel)) (fun t78 ht78 => ?_)
  refine w_iload_n (pc := 81) E dJ6_getChars_ba4f3_81 (i := 0) rfl rfl ?_
  refine w_ineg (pc := 82) E dJ6_getChars_ba4f3_82 ?_
  refine w_tb (pc := 83) (v := oi (48 + v)) E dJ6_getChars_ba4f3_83 ht78 (by omega) (by omega) (by omega) (by first | rfl | (rw [oi_natOf (by omega)]; congr 1; omega)) ?_
  refine w_bast (pc := 84) E dJ6_getChars_ba4f3_84 hj (by omega) (by omega) (by omega) rfl ?_
  rw [bo_nar (by omega) (by omega)]
  refine w_iload_n (pc := 85) E dJ6_getChars_ba4f3_85 (i := 0) rfl rfl ?_
  refine w_bipush (pc := 86) E dJ6_getChars_ba4f3_86 rfl ?_
  refine w_icmp_ge (pc := 88) (tgt := 104) E dJ6_getChars_ba4f3_88 (by decide) (fun qh88 => ?_) (fun qh88 => absurd qh88 (by omega)) 
  refine w_iload (pc := 104) E dJ6_getChars_ba4f3_104 rfl ?_
  refine w_if_eq (pc := 106) (tgt := 118) E dJ6_getChars_ba4f3_106 (by decide) (fun qh106 => ?_) (fun qh106 => absurd qh106 (by omega)) (by decide) (by decide)
  refine w_iload (pc := 118) E dJ6_getChars_ba4f3_118 rfl ?_
  refine w_iret (pc := 120) E hr dJ6_getChars_ba4f3_120 ?_
  refine ⟨_, rfl, sb_fitU hf (bo_fit (by omega) (by omega)), fun x hx => up_ne (by omega), fun t ht => ?_⟩
  have ht0 : t = 0 := by simpa using ht
  subst ht0
  exact up_eq (by omega)

theorem cw_getChars2 {cx : Cx} {ws : va_W} {j q N : Nat} {f : Nat → Int32} {z : Int} (hj : ws[j]? = some (q, .inl (cA cx 3, N, .inl f))) (hf : sb_Fit f) (hN : N ≤ 400) (z0 : 0 ≤ z) {v : Int} (h0 : 10 ≤ v) (h1 : v ≤ 99) (hz : z + 2 ≤ N) : MtW cx yJ6_getChars_ba4f3 cJ6_getChars_ba4f3 7 (some .int) 1 0 0 [.int (oi v), .int (oi (z + 2)), .ref q] ws (QIw cx (fun x w => GcP cx ws j q N f z [48 + v / 10, 48 + v % 10] x w)) := by
  refine mt_intro cd_J6_getChars_ba4f3 (by decide +kernel) (Nat.le_of_ble_eq_true rfl) rfl (fun Pg Lc Ev s m args below meth c E hr => ?_)
  refine w_ent (ls' := [some (.int (oi v)), some (.int (oi (z + 2))), some (.ref q), none, none, none, none]) rfl ?_
  refine w_iload_n (pc := 0) E dJ6_getChars_ba4f3_0 (i := 1) rfl rfl ?_
  refine w_istore (pc := 1) E dJ6_getChars_ba4f3_1 (ls' := [_, _, _, _, _, _, _]) (Nat.le_of_ble_eq_true rfl) rfl ?_
  refine w_iload_n (pc := 3) E dJ6_getChars_ba4f3_3 (i := 0) rfl rfl ?_
  refine w_if_ge (pc := 4) (tgt := 11) E dJ6_getChars_ba4f3_4 (by decide) (fun qh4 => ?_) (fun qh4 => absurd qh4 (by omega)) 
  refine w_iconst (pc := 11) E dJ6_getChars_ba4f3_11 rfl ?_
  refine w_istore (pc := 12) E dJ6_getChars_ba4f3_12 (ls' := [_, _, _, _, _, _, _]) (Nat.le_of_ble_eq_true rfl) rfl ?_
  refine w_iload (pc := 14) E dJ6_getChars_ba4f3_14 rfl ?_
  refine w_if_ne (pc := 16) (tgt := 22) E dJ6_getChars_ba4f3_16 (by decide) (fun qh16 => absurd qh16 (by omega)) (fun qh16 => ?_) (by decide) (by decide)
  refine w_iload_n (pc := 19) E dJ6_getChars_ba4f3_19 (i := 0) rfl rfl ?_
  refine w_ineg (pc := 20) E dJ6_getChars_ba4f3_20 ?_
  refine w_istore_n (pc := 21) E dJ6_getChars_ba4f3_21 (i := 0) (ls' := [_, _, _, _, _, _, _]) rfl (Nat.le_of_ble_eq_true rfl) rfl ?_
  refine w_iload_n (pc := 22) E dJ6_getChars_ba4f3_22 (i := 0) rfl rfl ?_
  refine w_bipush (pc := 23) E dJ6_getChars_ba4f3_23 rfl ?_
  refine w_icmp_gt (pc := 25) (tgt := 72) E dJ6_getChars_ba4f3_25 (by decide) (fun qh25 => ?_) (fun qh25 => absurd qh25 (by omega)) 
  refine w_aload_n (pc := 72) E dJ6_getChars_ba4f3_72 (i := 2) rfl rfl ?_
  refine w_iinc (pc := 73) E dJ6_getChars_ba4f3_73 (ls' := [_, _, _, _, _, _, _]) rfl rfl rfl ?_
  refine w_iload (pc := 76) E dJ6_getChars_ba4f3_76 rfl ?_
  refine w_dig1 (pc := 78) E dJ6_getChars_ba4f3_78 (big_at 1034 (by decide +kernel) (by decide +kernel)) (fun t78 ht78 => ?_)
  refine w_iload_n (pc := 81) E dJ6_getChars_ba4f3_81 (i := 0) rfl rfl ?_
  refine w_ineg (pc := 82) E dJ6_getChars_ba4f3_82 ?_
  refine w_tb (pc := 83) (v := oi (48 + v % 10)) E dJ6_getChars_ba4f3_83 ht78 (by omega) (by omega) (by omega) (by first | rfl | (rw [oi_natOf (by omega)]; congr 1; omega)) ?_
  refine w_bast (pc := 84) E dJ6_getChars_ba4f3_84 hj (by omega) (by omega) (by omega) rfl ?_
  rw [bo_nar (by omega) (by omega)]
  refine w_iload_n (pc := 85) E dJ6_getChars_ba4f3_85 (i := 0) rfl rfl ?_
  refine w_bipush (pc := 86) E dJ6_getChars_ba4f3_86 rfl ?_
  refine w_icmp_ge (pc := 88) (tgt := 104) E dJ6_getChars_ba4f3_88 (by decide) (fun qh88 => absurd qh88 (by omega)) (fun qh88 => ?_) 
  refine w_aload_n (pc := 91) E dJ6_getChars_ba4f3_91 (i := 2) rfl rfl ?_
  refine w_iinc (pc := 92) E dJ6_getChars_ba4f3_92 (ls' := [_, _, _, _, _, _, _]) rfl rfl rfl ?_
  refine w_iload (pc := 95) E dJ6_getChars_ba4f3_95 rfl ?_
  refine w_dig10 (pc := 97) E dJ6_getChars_ba4f3_97 (big_at 1036 (by decide +kernel) (by decide +kernel)) (fun t97 ht97 => ?_)
  refine w_iload_n (pc := 100) E dJ6_getChars_ba4f3_100 (i := 0) rfl rfl ?_
  refine w_ineg (pc := 101) E dJ6_getChars_ba4f3_101 ?_
  refine w_tb (pc := 102) (v := oi (48 + v / 10)) E dJ6_getChars_ba4f3_102 ht97 (by omega) (by omega) (by omega) (by first | rfl | (rw [oi_natOf (by omega)]; congr 1; omega)) ?_
  refine w_bast (pc := 103) E dJ6_getChars_ba4f3_103 (set_at hj) (by omega) (by omega) (by omega) rfl ?_
  rw [bo_nar (by omega) (by omega)]
  refine w_iload (pc := 104) E dJ6_getChars_ba4f3_104 rfl ?_
  refine w_if_eq (pc := 106) (tgt := 118) E dJ6_getChars_ba4f3_106 (by decide) (fun qh106 => ?_) (fun qh106 => absurd qh106 (by omega)) (by decide) (by decide)
  refine w_iload (pc := 118) E dJ6_getChars_ba4f3_118 rfl ?_
  refine w_iret (pc := 120) E hr dJ6_getChars_ba4f3_120 ?_
  refine ⟨_, List.set_set _, sb_fitU (sb_fitU hf (bo_fit (by omega) (by omega))) (bo_fit (by omega) (by omega)), fun x hx => (up_ne (by omega)).trans (up_ne (by omega)), fun t ht => ?_⟩
  have ht0 : t = 0 ∨ t = 1 := by simp at ht; omega
  rcases ht0 with rfl | rfl
  · exact up_eq (by omega)
  · exact (up_ne (by omega)).trans (up_eq (by omega))

theorem cw_getChars3 {cx : Cx} {ws : va_W} {j q N : Nat} {f : Nat → Int32} {z : Int} (hj : ws[j]? = some (q, .inl (cA cx 3, N, .inl f))) (hf : sb_Fit f) (hN : N ≤ 400) (z0 : 0 ≤ z) (hz : z + 3 ≤ N) : MtW cx yJ6_getChars_ba4f3 cJ6_getChars_ba4f3 7 (some .int) 1 0 0 [.int (oi 100), .int (oi (z + 3)), .ref q] ws (QIw cx (fun x w => GcP cx ws j q N f z [49, 48, 48] x w)) := by
  refine mt_intro cd_J6_getChars_ba4f3 (by decide +kernel) (Nat.le_of_ble_eq_true rfl) rfl (fun Pg Lc Ev s m args below meth c E hr => ?_)
  refine w_ent (ls' := [some (.int (oi 100)), some (.int (oi (z + 3))), some (.ref q), none, none, none, none]) rfl ?_
  refine w_iload_n (pc := 0) E dJ6_getChars_ba4f3_0 (i := 1) rfl rfl ?_
  refine w_istore (pc := 1) E dJ6_getChars_ba4f3_1 (ls' := [_, _, _, _, _, _, _]) (Nat.le_of_ble_eq_true rfl) rfl ?_
  refine w_iload_n (pc := 3) E dJ6_getChars_ba4f3_3 (i := 0) rfl rfl ?_
  refine w_if_ge (pc := 4) (tgt := 11) E dJ6_getChars_ba4f3_4 (by decide) (fun qh4 => ?_) (fun qh4 => absurd qh4 (by omega)) (by decide) (by decide)
  refine w_iconst (pc := 11) E dJ6_getChars_ba4f3_11 rfl ?_
  refine w_istore (pc := 12) E dJ6_getChars_ba4f3_12 (ls' := [_, _, _, _, _, _, _]) (Nat.le_of_ble_eq_true rfl) rfl ?_
  refine w_iload (pc := 14) E dJ6_getChars_ba4f3_14 rfl ?_
  refine w_if_ne (pc := 16) (tgt := 22) E dJ6_getChars_ba4f3_16 (by decide) (fun qh16 => absurd qh16 (by omega)) (fun qh16 => ?_) (by decide) (by decide)
  refine w_iload_n (pc := 19) E dJ6_getChars_ba4f3_19 (i := 0) rfl rfl ?_
  refine w_ineg (pc := 20) E dJ6_getChars_ba4f3_20 ?_
  refine w_istore_n (pc := 21) E dJ6_getChars_ba4f3_21 (i := 0) (ls' := [_, _, _, _, _, _, _]) rfl (Nat.le_of_ble_eq_true rfl) rfl ?_
  refine w_iload_n (pc := 22) E dJ6_getChars_ba4f3_22 (i := 0) rfl rfl ?_
  refine w_bipush (pc := 23) E dJ6_getChars_ba4f3_23 rfl ?_
  refine w_icmp_gt (pc := 25) (tgt := 72) E dJ6_getChars_ba4f3_25 (by decide) (fun qh25 => absurd qh25 (by omega)) (fun qh25 => ?_) 
  refine w_iload_n (pc := 28) E dJ6_getChars_ba4f3_28 (i := 0) rfl rfl ?_
  refine w_bipush (pc := 29) E dJ6_getChars_ba4f3_29 rfl ?_
  refine w_idivT (pc := 31) E dJ6_getChars_ba4f3_31 (inR_of (by omega) (by omega)) (inR_of (by omega) (by omega)) (by omega) ?_
  refine w_top (b := -1) (by decide) ?_
  refine w_istore_n (pc := 32) E dJ6_getChars_ba4f3_32 (i := 3) (ls' := [_, _, _, _, _, _, _]) rfl (Nat.le_of_ble_eq_true rfl) rfl ?_
  refine w_iload_n (pc := 33) E dJ6_getChars_ba4f3_33 (i := 3) rfl rfl ?_
  refine w_bipush (pc := 34) E dJ6_getChars_ba4f3_34 rfl ?_
  refine w_imul (pc := 36) E dJ6_getChars_ba4f3_36 ?_
  refine w_iload_n (pc := 37) E dJ6_getChars_ba4f3_37 (i := 0) rfl rfl ?_
  refine w_isub (pc := 38) E dJ6_getChars_ba4f3_38 ?_
  refine w_istore (pc := 39) E dJ6_getChars_ba4f3_39 (ls' := [_, _, _, _, _, _, _]) (Nat.le_of_ble_eq_true rfl) rfl ?_
  refine w_iload_n (pc := 41) E dJ6_getChars_ba4f3_41 (i := 3) rfl rfl ?_
  refine w_istore_n (pc := 42) E dJ6_getChars_ba4f3_42 (i := 0) (ls' := [_, _, _, _, _, _, _]) rfl (Nat.le_of_ble_eq_true rfl) rfl ?_
  refine w_aload_n (pc := 43) E dJ6_getChars_ba4f3_43 (i := 2) rfl rfl ?_
  refine w_iinc (pc := 44) E dJ6_getChars_ba4f3_44 (ls' := [_, _, _, _, _, _, _]) rfl rfl rfl ?_
  refine w_iload (pc := 47) E dJ6_getChars_ba4f3_47 rfl ?_
  refine w_dig1 (pc := 49) E dJ6_getChars_ba4f3_49 (big_at 1034 (by decide +kernel) (by decide +kernel)) (fun t49 ht49 => ?_)
  refine w_iload (pc := 52) E dJ6_getChars_ba4f3_52 rfl ?_
  refine w_tb (pc := 54) (v := oi (48)) E dJ6_getChars_ba4f3_54 ht49 (by omega) (by omega) (by omega) (by first | rfl | (rw [oi_natOf (by omega)]; congr 1; omega)) ?_
  refine w_bast (pc := 55) E dJ6_getChars_ba4f3_55 hj (by omega) (by omega) (by omega) rfl ?_
  rw [bo_nar (by omega) (by omega)]
  refine w_aload_n (pc := 56) E dJ6_getChars_ba4f3_56 (i := 2) rfl rfl ?_
  refine w_iinc (pc := 57) E dJ6_getChars_ba4f3_57 (ls' := [_, _, _, _, _, _, _]) rfl rfl rfl ?_
  refine w_iload (pc := 60) E dJ6_getChars_ba4f3_60 rfl ?_
  refine w_dig10 (pc := 62) E dJ6_getChars_ba4f3_62 (big_at 1036 (by decide +kernel) (by decide +kernel)) (fun t62 ht62 => ?_)
  refine w_iload (pc := 65) E dJ6_getChars_ba4f3_65 rfl ?_
  refine w_tb (pc := 67) (v := oi (48)) E dJ6_getChars_ba4f3_67 ht62 (by omega) (by omega) (by omega) (by first | rfl | (rw [oi_natOf (by omega)]; congr 1; omega)) ?_
  refine w_bast (pc := 68) E dJ6_getChars_ba4f3_68 (set_at hj) (by omega) (by omega) (by omega) rfl ?_
  rw [bo_nar (by omega) (by omega)]
  refine w_goto (pc := 69) (tgt := 22) E dJ6_getChars_ba4f3_69 (by decide) ?_
  refine w_iload_n (pc := 22) E dJ6_getChars_ba4f3_22 (i := 0) rfl rfl ?_
  refine w_bipush (pc := 23) E dJ6_getChars_ba4f3_23 rfl ?_
  refine w_icmp_gt (pc := 25) (tgt := 72) E dJ6_getChars_ba4f3_25 (by decide) (fun qh25 => ?_) (fun qh25 => absurd qh25 (by omega)) 
  refine w_aload_n (pc := 72) E dJ6_getChars_ba4f3_72 (i := 2) rfl rfl ?_
  refine w_iinc (pc := 73) E dJ6_getChars_ba4f3_73 (ls' := [_, _, _, _, _, _, _]) rfl rfl rfl ?_
  refine w_iload (pc := 76) E dJ6_getChars_ba4f3_76 rfl ?_
  refine w_dig1 (pc := 78) E dJ6_getChars_ba4f3_78 (big_at 1034 (by decide +kernel) (by decide +kernel)) (fun t78 ht78 => ?_)
  refine w_iload_n (pc := 81) E dJ6_getChars_ba4f3_81 (i := 0) rfl rfl ?_
  refine w_ineg (pc := 82) E dJ6_getChars_ba4f3_82 ?_
  refine w_tb (pc := 83) (v := oi (49)) E dJ6_getChars_ba4f3_83 ht78 (by omega) (by omega) (by omega) (by first | rfl | (rw [oi_natOf (by omega)]; congr 1; omega)) ?_
  refine w_bast (pc := 84) E dJ6_getChars_ba4f3_84 (set_at (set_at hj)) (by omega) (by omega) (by omega) rfl ?_
  rw [bo_nar (by omega) (by omega)]
  refine w_iload_n (pc := 85) E dJ6_getChars_ba4f3_85 (i := 0) rfl rfl ?_
  refine w_bipush (pc := 86) E dJ6_getChars_ba4f3_86 rfl ?_
  refine w_icmp_ge (pc := 88) (tgt := 104) E dJ6_getChars_ba4f3_88 (by decide) (fun qh88 => ?_) (fun qh88 => absurd qh88 (by omega)) 
  refine w_iload (pc := 104) E dJ6_getChars_ba4f3_104 rfl ?_
  refine w_if_eq (pc := 106) (tgt := 118) E dJ6_getChars_ba4f3_106 (by decide) (fun qh106 => ?_) (fun qh106 => absurd qh106 (by omega)) (by decide) (by decide)
  refine w_iload (pc := 118) E dJ6_getChars_ba4f3_118 rfl ?_
  refine w_iret (pc := 120) E hr dJ6_getChars_ba4f3_120 ?_
  refine ⟨_, (List.set_set _).trans (List.set_set _), sb_fitU (sb_fitU (sb_fitU hf (bo_fit (by omega) (by omega))) (bo_fit (by omega) (by omega))) (bo_fit (by omega) (by omega)), fun x hx => ((up_ne (by omega)).trans (up_ne (by omega))).trans (up_ne (by omega)), fun t ht => ?_⟩
  have ht0 : t = 0 ∨ t = 1 ∨ t = 2 := by simp at ht; omega
  rcases ht0 with rfl | rfl | rfl
  · exact up_eq (by omega)
  · exact (up_ne (by omega)).trans (up_eq (by omega))
  · exact ((up_ne (by omega)).trans (up_ne (by omega))).trans (up_eq (by omega))

theorem cw_getChars {cx : Cx} {ws : va_W} {j q N : Nat} {f : Nat → Int32} {z : Int} (hj : ws[j]? = some (q, .inl (cA cx 3, N, .inl f))) (hf : sb_Fit f) (hN : N ≤ 400) (z0 : 0 ≤ z) {v b : Int} (h0 : 0 ≤ v) (h1 : v ≤ 100) (hb : b = z + (dgL v).length) (hz : b ≤ N) : MtW cx yJ6_getChars_ba4f3 cJ6_getChars_ba4f3 7 (some .int) 1 0 0 [.int (oi v), .int (oi b), .ref q] ws (QIw cx (fun x w => GcP cx ws j q N f z (dgL v) x w)) := by
  subst hb
  by_cases g1 : v ≤ 9
  · rw [dg_1 g1] at hz ⊢
    exact cw_getChars1 hj hf hN z0 h0 g1 (by simpa using hz)
  · by_cases g2 : v ≤ 99
    · rw [dg_2 (by omega) g2] at hz ⊢
      exact cw_getChars2 hj hf hN z0 (by omega) g2 (by simpa using hz)
    · have e : v = 100 := by omega
      subst e
      rw [dg_100] at hz ⊢
      exact cw_getChars3 hj hf hN z0 (by simpa using hz)
theorem dg_len (v : Int) : 1 ≤ (dgL v).length ∧ (dgL v).length ≤ 3 := by
  unfold dgL
  split
  · simp
  · split <;> simp
theorem cw_J5_appendI {cx : Cx} {ws : va_W} {i j a q N : Nat} {f : Nat → Int32} {ml : Int32} {z : Int} (hs : SBw cx ws i j a q N f ml z) {v : Int} (h0 : 0 ≤ v) (h1 : v ≤ 100) (hz : z ≤ 81) : MtW cx yJ5_append_c97b9 cJ5_append_c97b9 4 (some (.object "java/lang/AbstractStringBuilder")) 4 1 170 [.ref a, .int (oi v)] ws (QRw cx (fun u w => ApP cx ws i j a f ml z (dgL v) u w)) := by
  refine mt_intro cd_J5_append_c97b9 (by decide +kernel) (Nat.le_of_ble_eq_true rfl) rfl (fun Pg Lc Ev s m args below meth c E hr => ?_)
  refine w_ent (ls' := [some (.ref a), some (.int (oi v)), none, none]) rfl ?_
  have hN0 := hs.2.2.1
  have hN2 := hs.2.2.2.2.1
  have hdl := dg_len v
  refine w_aload_n (pc := 0) E dJ5_append_c97b9_0 (i := 0) rfl rfl ?_
  refine w_get (pc := 1) E dJ5_append_c97b9_1 fl_J5_79 hs.1 rfl ?_
  refine w_istore_n (pc := 4) E dJ5_append_c97b9_4 (i := 2) (ls' := [_, _, _, _]) rfl (Nat.le_of_ble_eq_true rfl) rfl ?_
  refine w_iload_n (pc := 5) E dJ5_append_c97b9_5 (i := 2) rfl rfl ?_
  refine w_iload_n (pc := 6) E dJ5_append_c97b9_6 (i := 1) rfl rfl ?_
  refine w_callSI (pc := 7) (As := [_]) E dJ5_append_c97b9_7 ml_J5_245  (cw_J6_stringSize h0 h1) rfl rfl (by decide) (Nat.le_of_ble_eq_true rfl) rfl (Nat.le_of_ble_eq_true rfl) (by decide) (fun x7 w7 hw7 => ?_)
  obtain ⟨rfl, rfl⟩ := hw7
  refine w_iadd (pc := 10) E dJ5_append_c97b9_10 ?_
  refine w_istore_n (pc := 11) E dJ5_append_c97b9_11 (i := 3) (ls' := [_, _, _, _]) rfl (Nat.le_of_ble_eq_true rfl) rfl ?_
  refine w_aload_n (pc := 12) E dJ5_append_c97b9_12 (i := 0) rfl rfl ?_
  refine w_iload_n (pc := 13) E dJ5_append_c97b9_13 (i := 3) rfl rfl ?_
  refine w_callPV (pc := 14) (As := [_]) E dJ5_append_c97b9_14 mp_J5_100 hs.1 (cw_J5_ensure hs (by omega) (by omega)) rfl rfl (by decide) (Nat.le_of_ble_eq_true rfl) rfl (Nat.le_of_ble_eq_true rfl) (by decide) (fun w14 hw14 => ?_)
  obtain ⟨j1, q1, N1, f1, hs1, hN1, hk1, hF1⟩ := hw14
  refine w_aload_n (pc := 17) E dJ5_append_c97b9_17 (i := 0) rfl rfl ?_
  refine w_callPI (pc := 18) (As := []) E dJ5_append_c97b9_18 mp_J5_83 hs1.1 (cw_J5_isLatin1 hs1) rfl rfl (by decide) (Nat.le_of_ble_eq_true rfl) rfl (Nat.le_of_ble_eq_true rfl) (by decide) (fun x18 w18 hw18 => ?_)
  obtain ⟨rfl, rfl⟩ := hw18
  refine w_if_eq (pc := 21) (tgt := 37) E dJ5_append_c97b9_21 (by decide) (fun qh21 => absurd qh21 (by omega)) (fun qh21 => ?_) (by decide) (by decide)
  refine w_iload_n (pc := 24) E dJ5_append_c97b9_24 (i := 1) rfl rfl ?_
  refine w_iload_n (pc := 25) E dJ5_append_c97b9_25 (i := 3) rfl rfl ?_
  refine w_aload_n (pc := 26) E dJ5_append_c97b9_26 (i := 0) rfl rfl ?_
  refine w_get (pc := 27) E dJ5_append_c97b9_27 fl_J5_15 hs1.1 rfl ?_
  refine w_callSI (pc := 30) (As := [_, _, _]) E dJ5_append_c97b9_30 ml_J5_248  (cw_getChars hs1.2.1 hs1.2.2.2.2.2 hs1.2.2.2.2.1 hN0 h0 h1 rfl hN1) rfl rfl (by decide) (Nat.le_of_ble_eq_true rfl) rfl (Nat.le_of_ble_eq_true rfl) (by decide) (fun x30 w30 hw30 => ?_)
  obtain ⟨f2, rfl, hf2, hk2, hv2⟩ := hw30
  refine w_pop (pc := 33) E dJ5_append_c97b9_33 rfl ?_
  refine w_goto (pc := 34) (tgt := 48) E dJ5_append_c97b9_34 (by decide) ?_
  refine w_aload_n (pc := 48) E dJ5_append_c97b9_48 (i := 0) rfl rfl ?_
  refine w_iload_n (pc := 49) E dJ5_append_c97b9_49 (i := 3) rfl rfl ?_
  refine w_put (pc := 50) E dJ5_append_c97b9_50 fl_J5_79 (hs1.setj hf2).1 rfl rfl rfl (Nat.le_of_ble_eq_true rfl) rfl ?_
  refine w_aload_n (pc := 53) E dJ5_append_c97b9_53 (i := 0) rfl rfl ?_
  refine w_widen (k' := 1) (n' := 170) (by omega) (by omega) ?_
  refine w_aret (pc := 54) E hr (by first | exact Or.inl ⟨_, rfl⟩ | exact Or.inr ⟨_, rfl⟩) dJ5_append_c97b9_54 ?_
  exact ⟨rfl, j1, q1, N1, f2, (hs1.setj hf2).seti (by omega) (by omega), hF1.setj.seti, fun x hx => (hk2 x hx).trans (hk1 x hx), hv2⟩

theorem cw_J4_appendI {cx : Cx} {ws : va_W} {i j a q N : Nat} {f : Nat → Int32} {ml : Int32} {z : Int} (hs : SBw cx ws i j a q N f ml z) {v : Int} (h0 : 0 ≤ v) (h1 : v ≤ 100) (hz : z ≤ 81) : MtW cx yJ4_append_bf812 cJ4_append_bf812 2 (some (.object "java/lang/StringBuilder")) 5 1 170 [.ref a, .int (oi v)] ws (QRw cx (fun u w => ApP cx ws i j a f ml z (dgL v) u w)) := by
  refine mt_intro cd_J4_append_bf812 (by decide +kernel) (Nat.le_of_ble_eq_true rfl) rfl (fun Pg Lc Ev s m args below meth c E hr => ?_)
  refine w_ent (ls' := [some (.ref a), some (.int (oi v))]) rfl ?_
  refine w_aload_n (pc := 0) E dJ4_append_bf812_0 (i := 0) rfl rfl ?_
  refine w_iload_n (pc := 1) E dJ4_append_bf812_1 (i := 1) rfl rfl ?_
  refine w_callUR (pc := 2) (As := [_]) E dJ4_append_bf812_2 mu_J4_53 hs.1 (cw_J5_appendI hs h0 h1 hz) rfl rfl (by decide) (Nat.le_of_ble_eq_true rfl) rfl (Nat.le_of_ble_eq_true rfl) (by decide) (fun u2 w2 hw2 => ?_)
  refine w_pop (pc := 5) E dJ4_append_bf812_5 rfl ?_
  refine w_aload_n (pc := 6) E dJ4_append_bf812_6 (i := 0) rfl rfl ?_
  refine w_widen (k' := 1) (n' := 170) (by omega) (by omega) ?_
  refine w_aret (pc := 7) E hr (by first | exact Or.inl ⟨_, rfl⟩ | exact Or.inr ⟨_, rfl⟩) dJ4_append_bf812_7 ?_
  exact ⟨rfl, hw2.2⟩

/-- an empty text -/
def S0P (cx : Cx) (ws : va_W) (i j a : Nat) (w : va_W) : Prop := ∃ (j' q' N' : Nat) (f' : Nat → Int32) (ml' : Int32), SBw cx w i j' a q' N' f' ml' 0 ∧ FR ws w i j j'
theorem cw_J5_setLength0 {cx : Cx} {ws : va_W} {i j a q N : Nat} {f : Nat → Int32} {ml : Int32} {z : Int} (hs : SBw cx ws i j a q N f ml z) : MtW cx yJ5_setLength_d00df cJ5_setLength_d00df 2 none 4 1 170 [.ref a, .int (oi 0)] ws (QVw cx (fun w => S0P cx ws i j a w)) := by
  refine mt_intro cd_J5_setLength_d00df (by decide +kernel) (Nat.le_of_ble_eq_true rfl) rfl (fun Pg Lc Ev s m args below meth c E hr => ?_)
  refine w_ent (ls' := [some (.ref a), some (.int (oi 0))]) rfl ?_
  have hN0 := hs.2.2.1
  have hN1 := hs.2.2.2.1
  have hN2 := hs.2.2.2.2.1
  refine w_iload_n (pc := 0) E dJ5_setLength_d00df_0 (i := 1) rfl rfl ?_
  refine w_if_ge (pc := 1) (tgt := 13) E dJ5_setLength_d00df_1 (by decide) (fun qh1 => ?_) (fun qh1 => absurd qh1 (by omega)) (by decide) (by decide)
  refine w_aload_n (pc := 13) E dJ5_setLength_d00df_13 (i := 0) rfl rfl ?_
  refine w_iload_n (pc := 14) E dJ5_setLength_d00df_14 (i := 1) rfl rfl ?_
  refine w_callPV (pc := 15) (As := [_]) E dJ5_setLength_d00df_15 mp_J5_100 hs.1 (cw_J5_ensure hs (by omega) (by omega)) rfl rfl (by decide) (Nat.le_of_ble_eq_true rfl) rfl (Nat.le_of_ble_eq_true rfl) (by decide) (fun w15 hw15 => ?_)
  obtain ⟨j1, q1, N1, f1, hs1, hN1, hk1, hF1⟩ := hw15
  have hN5 := hs1.2.2.2.1
  refine w_aload_n (pc := 18) E dJ5_setLength_d00df_18 (i := 0) rfl rfl ?_
  refine w_get (pc := 19) E dJ5_setLength_d00df_19 fl_J5_79 hs1.1 rfl ?_
  refine w_iload_n (pc := 22) E dJ5_setLength_d00df_22 (i := 1) rfl rfl ?_
  refine w_icmp_ge (pc := 23) (tgt := 63) E dJ5_setLength_d00df_23 (by decide) (fun qh23 => ?_) (fun qh23 => absurd qh23 (by omega)) 
  refine w_aload_n (pc := 63) E dJ5_setLength_d00df_63 (i := 0) rfl rfl ?_
  refine w_get (pc := 64) E dJ5_setLength_d00df_64 fl_J5_79 hs1.1 rfl ?_
  refine w_iload_n (pc := 67) E dJ5_setLength_d00df_67 (i := 1) rfl rfl ?_
  refine w_icmp_le (pc := 68) (tgt := 76) E dJ5_setLength_d00df_68 (by decide) (fun qh68 => ?_) (fun qh68 => ?_) 
  · refine w_aload_n (pc := 76) E dJ5_setLength_d00df_76 (i := 0) rfl rfl ?_
    refine w_iload_n (pc := 77) E dJ5_setLength_d00df_77 (i := 1) rfl rfl ?_
    refine w_put (pc := 78) E dJ5_setLength_d00df_78 fl_J5_79 hs1.1 rfl rfl rfl (Nat.le_of_ble_eq_true rfl) rfl ?_
    refine w_widen (k' := 1) (n' := 170) (by omega) (by omega) ?_
    refine w_vret (pc := 81) E hr dJ5_setLength_d00df_81 ?_
    exact ⟨j1, q1, N1, f1, ml, hs1.seti (by omega) (by omega), hF1.seti⟩
  · refine w_aload_n (pc := 71) E dJ5_setLength_d00df_71 (i := 0) rfl rfl ?_
    refine w_iconst (pc := 72) E dJ5_setLength_d00df_72 rfl ?_
    refine w_put (pc := 73) E dJ5_setLength_d00df_73 fl_J5_73 hs1.1 rfl rfl rfl (Nat.le_of_ble_eq_true rfl) rfl ?_
    refine w_aload_n (pc := 76) E dJ5_setLength_d00df_76 (i := 0) rfl rfl ?_
    refine w_iload_n (pc := 77) E dJ5_setLength_d00df_77 (i := 1) rfl rfl ?_
    refine w_put (pc := 78) E dJ5_setLength_d00df_78 fl_J5_79 (hs1.seti (ml' := oi 1) (z' := z) (by omega) (by omega)).1 rfl rfl rfl (Nat.le_of_ble_eq_true rfl) rfl ?_
    refine w_widen (k' := 1) (n' := 170) (by omega) (by omega) ?_
    refine w_vret (pc := 81) E hr dJ5_setLength_d00df_81 ?_
    exact ⟨j1, q1, N1, f1, oi 1, (hs1.seti (by omega) (by omega)).seti (by omega) (by omega), hF1.seti.seti⟩

theorem cw_J4_setLength0 {cx : Cx} {ws : va_W} {i j a q N : Nat} {f : Nat → Int32} {ml : Int32} {z : Int} (hs : SBw cx ws i j a q N f ml z) : MtW cx yJ4_setLength_d00df cJ4_setLength_d00df 2 none 5 1 170 [.ref a, .int (oi 0)] ws (QVw cx (fun w => S0P cx ws i j a w)) := by
  refine mt_intro cd_J4_setLength_d00df (by decide +kernel) (Nat.le_of_ble_eq_true rfl) rfl (fun Pg Lc Ev s m args below meth c E hr => ?_)
  refine w_ent (ls' := [some (.ref a), some (.int (oi 0))]) rfl ?_
  refine w_aload_n (pc := 0) E dJ4_setLength_d00df_0 (i := 0) rfl rfl ?_
  refine w_iload_n (pc := 1) E dJ4_setLength_d00df_1 (i := 1) rfl rfl ?_
  refine w_callUV (pc := 2) (As := [_]) E dJ4_setLength_d00df_2 mu_J4_333 hs.1 (cw_J5_setLength0 hs) rfl rfl (by decide) (Nat.le_of_ble_eq_true rfl) rfl (Nat.le_of_ble_eq_true rfl) (by decide) (fun w2 hw2 => ?_)
  refine w_widen (k' := 1) (n' := 170) (by omega) (by omega) ?_
  refine w_vret (pc := 5) E hr dJ4_setLength_d00df_5 ?_
  exact hw2

