/-! a walk's judgement over the numbered world, and its rows -/
section GD
variable (cx : Cx) (y : MethodName) (cc : ByteArray) (nL d uc us : Nat) (p : Program) (l : Launch) (e : Env) (R : Room) (s : State) (m : MethodId) (args : Array Value) (below : List Frame) (meth : Method) (c : Code) (Q : State → Prop)
def En : Prop := p.tables.exec = Jvm.exec ∧ c.code = cc ∧ c.maxLocals = nL ∧ s.vm.findClass y.cls = some m.cls ∧ (∀ w ∈ BIG, w.before args s = true) ∧ va_K cx.1 vwCl (tysC cx) s ∧ Stat cx s ∧ cx.2.2.2 ≤ s.heap.size ∧ meth.locks = false ∧ d ≤ R.frames ∧ 64 * d ≤ R.locals ∧ uc ≤ R.cells ∧ us ≤ R.slots
def G (pc : Nat) (ls : List (Option Value)) (sk : List Value) (M : Mem) (k n : Nat) : Prop :=
  ∀ (H : Heap) (lsA : Array Slot) (locs : List Loc), InH cx M H → va_S (cA0 cx) s.heap H locs → lvOK lsA ls → W p l e R s m args below meth c H locs k n Q (F0 m pc lsA sk)
end GD
abbrev QI (cx : Cx) (Post : Int → Mem → Prop) : Array Value → State → Outcome → State → Prop := va_Qi (fun (r : Int32) (u : Int × Mem) => r = oi u.1 ∧ Post u.1 u.2) (fun u t => Rep cx u.2 t) (cA0 cx)
abbrev QV (cx : Cx) (Post : Mem → Prop) : Array Value → State → Outcome → State → Prop := va_Qv (fun (u : Mem) => Post u) (fun u t => Rep cx u t) (cA0 cx)
theorem lv_entry_ok (vs : List Value) {n : Nat} (h : vs.length ≤ n) (hc : ∀ v ∈ vs, v.category = 1) : lvOK ((vs.map Slot.val ++ List.replicate (n - vs.length) Slot.unset).toArray) (vs.map some ++ List.replicate (n - vs.length) none) := by
  refine ⟨by simp, ⟨fun i v hi hv => ?_, fun i hi => ?_⟩, fun i v hi => ?_⟩
  · exfalso
    rw [List.getElem?_toArray] at hi
    by_cases hl : i < vs.length
    · rw [List.getElem?_append_left (by simpa using hl), List.getElem?_map] at hi
      cases hg : vs[i]? with
      | none => rw [hg] at hi; cases hi
      | some w =>
        rw [hg] at hi
        cases hi
        have := hc v (List.mem_of_getElem? hg)
        omega
    · rw [List.getElem?_append_right (by simpa using hl), List.getElem?_replicate] at hi
      split at hi <;> cases hi
  · exfalso
    rw [List.getElem?_toArray] at hi
    by_cases hl : i < vs.length
    · rw [List.getElem?_append_left (by simpa using hl), List.getElem?_map] at hi
      cases hg : vs[i]? with
      | none => rw [hg] at hi; cases hi
      | some w => rw [hg] at hi; cases hi
    · rw [List.getElem?_append_right (by simpa using hl), List.getElem?_replicate] at hi
      split at hi <;> cases hi
  · by_cases hl : i < vs.length
    · rw [List.getElem?_append_left (by simpa using hl), List.getElem?_map] at hi
      cases hg : vs[i]? with
      | none => rw [hg] at hi; cases hi
      | some w =>
        rw [hg] at hi
        cases hi
        refine ⟨?_, hc v (List.mem_of_getElem? hg)⟩
        rw [List.getElem?_toArray, List.getElem?_append_left (by simpa using hl), List.getElem?_map, hg]
        rfl
    · rw [List.getElem?_append_right (by simpa using hl), List.getElem?_replicate] at hi
      split at hi <;> cases hi
section GI
variable {cx : Cx} {y : MethodName} {cc : ByteArray} {nL d uc us : Nat}
theorem ct_intro {rt : Option FieldType} {av : List Value} {M : Mem} {Post : Int → Mem → Prop} (hcode : .code y cc nL rt ∈ BIG) (hy : plainName y.cls = true) (hav : av.length ≤ nL) (hac : av.all (fun v => v.category == 1) = true)
    (body : ∀ (p : Program) (l : Launch) (e : Env) (s : State) (m : MethodId) (args : Array Value) (below : List Frame) (meth : Method) (c : Code), En cx y cc nL d uc us p (rmD d uc us) s m args meth c → meth.sig.returnType = rt →
      G cx p l e (rmD d uc us) s m args below meth c (MQ below (QI cx Post) args s uc us (cA0 cx)) 0 (av.map some ++ List.replicate (nL - av.length) none) [] M 0 0) : Ct cx y cc nL rt d uc us av M Post := by
  refine ⟨hcode, fun l => ?_⟩
  refine Met.ofW (cc := cc) (maxL := nL) (ret := rt) hy rfl ?_
  intro p e s m args below meth c s₁ B hml hv
  obtain ⟨rfl, hI, hK, hS, hN⟩ := hv
  have hts := atoms_spec (ws := .code y cc nL rt :: BIG) B.pre
  have hc1 : ∀ v ∈ av, v.category = 1 := fun v hv => by simpa using List.all_eq_true.mp hac v hv
  rw [entry_eq m av hc1 nL]
  exact body p l e s m av.toArray below meth c ⟨B.exec, B.bytes, hml, findClass_of_methodNamed B.named, fun w hw => hts w (List.mem_cons_of_mem _ hw), hK, hS, hN, B.notSynchronized, Nat.le_refl _, Nat.le_refl _, Nat.le_refl _, Nat.le_refl _⟩ B.returns s.heap _ [] hI va_S.rf (lv_entry_ok av hav hc1)
theorem cv_intro {av : List Value} {M : Mem} {Post : Mem → Prop} (hcode : .code y cc nL none ∈ BIG) (hy : plainName y.cls = true) (hav : av.length ≤ nL) (hac : av.all (fun v => v.category == 1) = true)
    (body : ∀ (p : Program) (l : Launch) (e : Env) (s : State) (m : MethodId) (args : Array Value) (below : List Frame) (meth : Method) (c : Code), En cx y cc nL d uc us p (rmD d uc us) s m args meth c → meth.sig.returnType = none →
      G cx p l e (rmD d uc us) s m args below meth c (MQ below (QV cx Post) args s uc us (cA0 cx)) 0 (av.map some ++ List.replicate (nL - av.length) none) [] M 0 0) : Cv cx y cc nL d uc us av M Post := by
  refine ⟨hcode, fun l => ?_⟩
  refine Met.ofW (cc := cc) (maxL := nL) (ret := none) hy rfl ?_
  intro p e s m args below meth c s₁ B hml hv
  obtain ⟨rfl, hI, hK, hS, hN⟩ := hv
  have hts := atoms_spec (ws := .code y cc nL none :: BIG) B.pre
  have hc1 : ∀ v ∈ av, v.category = 1 := fun v hv => by simpa using List.all_eq_true.mp hac v hv
  rw [entry_eq m av hc1 nL]
  exact body p l e s m av.toArray below meth c ⟨B.exec, B.bytes, hml, findClass_of_methodNamed B.named, fun w hw => hts w (List.mem_cons_of_mem _ hw), hK, hS, hN, B.notSynchronized, Nat.le_refl _, Nat.le_refl _, Nat.le_refl _, Nat.le_refl _⟩ B.returns s.heap _ [] hI va_S.rf (lv_entry_ok av hav hc1)
variable {p : Program} {l : Launch} {e : Env} {R : Room} {s : State} {m : MethodId} {args : Array Value} {below : List Frame} {meth : Method} {c : Code} {Q : State → Prop}
variable {pc : Nat} {ls : List (Option Value)} {sk : List Value} {M : Mem} {k n : Nat}
theorem rep_end (E : En cx y cc nL d uc us p R s m args meth c) {H : Heap} {locs : List Loc} (hI : InH cx M H) (hS : va_S (cA0 cx) s.heap H locs) {t : State} (ht : t.heap = H) (hW : s.WarmedH t.vm) : Rep cx M t := by
  subst ht
  obtain ⟨hx, hb, hml, hown, hts, hK, hSt, hN, hlk, -⟩ := E
  exact ⟨hI, va_K.moved hW.alike hK, hSt.moved hW (fun a h1 h2 => hS.2.1 a h1 h2), Nat.le_trans hN hS.1⟩
theorem g_iret {Post : Int → Mem → Prop} {x : Int} (E : En cx y cc nL d uc us p R s m args meth c) (hr : meth.sig.returnType = some .int) (hd : decode cc pc = .ok (.ireturn, 1)) (hP : Post x M) : G cx p l e R s m args below meth c (MQ below (QI cx Post) args s k n (cA0 cx)) pc ls [.int (oi x)] M k n := by
  intro H lsA locs hI hS hL
  exact W.iret E.1 E.2.1 hr (fun t ht hW => ⟨⟨oi x, (x, M), rfl, ⟨rfl, hP⟩, rep_end E hI hS ht hW⟩, hS.F ht⟩) hS.2.2 hd E.2.2.2.2.2.2.2.2.1
theorem g_zret {Post : Int → Mem → Prop} {x : Int} (E : En cx y cc nL d uc us p R s m args meth c) (hr : meth.sig.returnType = some .boolean) (hd : decode cc pc = .ok (.ireturn, 1)) (hx : x = 0 ∨ x = 1) (hP : Post x M) : G cx p l e R s m args below meth c (MQ below (QI cx Post) args s k n (cA0 cx)) pc ls [.int (oi x)] M k n := by
  intro H lsA locs hI hS hL
  exact W.zret E.1 E.2.1 hr (by rcases hx with rfl | rfl <;> rfl) (fun t ht hW => ⟨⟨oi x, (x, M), rfl, ⟨rfl, hP⟩, rep_end E hI hS ht hW⟩, hS.F ht⟩) hS.2.2 hd E.2.2.2.2.2.2.2.2.1
theorem g_vret {Post : Mem → Prop} (E : En cx y cc nL d uc us p R s m args meth c) (hr : meth.sig.returnType = none) (hd : decode cc pc = .ok (.return_, 1)) (hP : Post M) : G cx p l e R s m args below meth c (MQ below (QV cx Post) args s k n (cA0 cx)) pc ls [] M k n := by
  intro H lsA locs hI hS hL
  exact W.vret E.1 E.2.1 hr (fun t ht hW => ⟨⟨M, rfl, hP, rep_end E hI hS ht hW⟩, hS.F ht⟩) hS.2.2 hd E.2.2.2.2.2.2.2.2.1
theorem g_widen {k' n' : Nat} (h1 : k ≤ k') (h2 : n ≤ n') (kk : G cx p l e R s m args below meth c Q pc ls sk M k' n') : G cx p l e R s m args below meth c Q pc ls sk M k n :=
  fun H lsA locs hI hS hL => W.widen h1 h2 (kk H lsA locs hI hS hL)
/-- fewer locals -/
theorem g_weak {ls' : List (Option Value)} (hl : ls.length = ls'.length) (h : ∀ (i : Nat) (v : Value), ls'[i]? = some (some v) → ls[i]? = some (some v)) (kk : G cx p l e R s m args below meth c Q pc ls' sk M k n) : G cx p l e R s m args below meth c Q pc ls sk M k n :=
  fun H lsA locs hI hS hL => kk H lsA locs hI hS ⟨hL.1.trans hl, hL.2.1, fun i v hi => hL.2.2 i v (h i v hi)⟩
end GI
