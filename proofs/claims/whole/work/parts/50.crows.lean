/-! rows for constructors, over cell lists -/
section GWK
variable {cx : Cx} {y : MethodName} {cc : ByteArray} {nL d uc us : Nat}
theorem mk_intro {rt : Option FieldType} {av : List Value} {ws : va_W} {Qc : Array Value → State → Outcome → State → Prop} (hcode : .code y cc nL rt ∈ BIG) (hy : plainFor y = true) (hav : av.length ≤ nL) (hac : av.all (fun v => v.category == 1) = true)
    (body : ∀ (p : Program) (l : Launch) (e : Env) (s : State) (m : MethodId) (args : Array Value) (below : List Frame) (meth : Method) (c : Code), En cx y cc nL d uc us p (rmD d uc us) s m args meth c → meth.sig.returnType = rt → meth.name = y.name →
      GW cx p l e (rmD d uc us) s m args below meth c (MQ below Qc args s uc us (cA0 cx)) 0 (av.map some ++ List.replicate (nL - av.length) none) [] ws 0 0) : MtW cx y cc nL rt d uc us av ws Qc := by
  refine ⟨hcode, fun l => ?_⟩
  refine va_MetF (cc := cc) (maxL := nL) (ret := rt) hy rfl ?_
  intro p e s m args below meth c s₁ B hml hv
  obtain ⟨rfl, hP, hD, hK, hS, hN⟩ := hv
  have hts := atoms_spec (ws := .code y cc nL rt :: BIG) B.pre
  have hc1 : ∀ v ∈ av, v.category = 1 := fun v hv => by simpa using List.all_eq_true.mp hac v hv
  rw [entry_eq m av hc1 nL]
  exact body p l e s m av.toArray below meth c ⟨B.exec, B.bytes, hml, findClass_of_methodNamed B.named, fun w hw => hts w (List.mem_cons_of_mem _ hw), hK, hS, hN, B.notSynchronized, Nat.le_refl _, Nat.le_refl _, Nat.le_refl _, Nat.le_refl _⟩ B.returns (name_of_methodNamed B.named B.method).1 s.heap _ [] hP hD va_S.rf (lv_entry_ok av hav hc1)
def MtK (cx : Cx) (y : MethodName) (cc : ByteArray) (nL : Nat) (rt : Option FieldType) (d uc us : Nat) (av : List Value) (ws : va_W) (Qc : Array Value → State → Outcome → State → Prop) : Prop :=
  .code y cc nL rt ∈ BIG ∧ ∀ l : Launch, Met l y (.code y cc nL rt :: BIG) (rmD d uc us) (va_Pc av (fun U => RepW cx ws U ∧ va_AO "ExamBoard$Board" U)) Qc uc us (cA0 cx)
theorem mk_introK {rt : Option FieldType} {av : List Value} {ws : va_W} {Qc : Array Value → State → Outcome → State → Prop} (hcode : .code y cc nL rt ∈ BIG) (hy : plainFor y = true) (hav : av.length ≤ nL) (hac : av.all (fun v => v.category == 1) = true)
    (body : ∀ (p : Program) (l : Launch) (e : Env) (s : State) (m : MethodId) (args : Array Value) (below : List Frame) (meth : Method) (c : Code), En cx y cc nL d uc us p (rmD d uc us) s m args meth c → va_AO "ExamBoard$Board" s → meth.sig.returnType = rt → meth.name = y.name →
      GW cx p l e (rmD d uc us) s m args below meth c (MQ below Qc args s uc us (cA0 cx)) 0 (av.map some ++ List.replicate (nL - av.length) none) [] ws 0 0) : MtK cx y cc nL rt d uc us av ws Qc := by
  refine ⟨hcode, fun l => ?_⟩
  refine va_MetF (cc := cc) (maxL := nL) (ret := rt) hy rfl ?_
  intro p e s m args below meth c s₁ B hml hv
  obtain ⟨rfl, ⟨hP, hD, hK, hS, hN⟩, hAO⟩ := hv
  have hts := atoms_spec (ws := .code y cc nL rt :: BIG) B.pre
  have hc1 : ∀ v ∈ av, v.category = 1 := fun v hv => by simpa using List.all_eq_true.mp hac v hv
  rw [entry_eq m av hc1 nL]
  exact body p l e s m av.toArray below meth c ⟨B.exec, B.bytes, hml, findClass_of_methodNamed B.named, fun w hw => hts w (List.mem_cons_of_mem _ hw), hK, hS, hN, B.notSynchronized, Nat.le_refl _, Nat.le_refl _, Nat.le_refl _, Nat.le_refl _⟩ hAO B.returns (name_of_methodNamed B.named B.method).1 s.heap _ [] hP hD va_S.rf (lv_entry_ok av hav hc1)
variable {p : Program} {l : Launch} {e : Env} {R : Room} {s : State} {m : MethodId} {args : Array Value} {below : List Frame} {meth : Method} {c : Code} {Q : State → Prop}
variable {pc : Nat} {ls : List (Option Value)} {sk : List Value} {ws : va_W} {k n idx : Nat}
theorem w_objI {a : Nat} (E : En cx y cc nL d uc us p R s m args meth c) (hd : decode cc pc = .ok (.invokespecial idx, 3)) (hm : Cond.methodLink y.cls idx Lib.objectInit ∈ BIG) (hls : ls.length = nL) (hdp : 1 ≤ d) (hcat : (sk.map fun v => v.category).sum ≤ 8)
    (kk : GW cx p l e R s m args below meth c Q (pc + 3) ls sk ws k n) : GW cx p l e R s m args below meth c Q pc ls (.ref a :: sk) ws k n := by
  intro H lsA locs hP hD hS hL
  have hts := E.2.2.2.2.1
  have e1 := E.2.2.2.2.2.2.2.2.2.1
  have e2 := E.2.2.2.2.2.2.2.2.2.2.1
  refine W.objInit E.1 E.2.1 E.2.2.2.1 (hts _ hm) (hts _ (big_at 87 (by decide +kernel) (by decide +kernel))) (hts _ (big_at 88 (by decide +kernel) (by decide +kernel))) rfl (hL.1.trans (hls.trans E.2.2.1.symm)) rfl hd (by omega) (by show 2 * 0 + _ + 12 ≤ _; omega) ?_
  exact W.eq (g2 := F0 m (pc + 3) lsA sk) rfl (kk H lsA locs hP hD hS hL)
theorem w_newO {ci N : Nat} {C : String} {T : u_T} {ty : Nat → FieldType} {fs : List Value} (E : En cx y cc nL d uc us p R s m args meth c) (hd : decode cc pc = .ok (.new idx, 3)) (hF : ClF ci C T N ty) (h1 : Cond.classLink y.cls idx C ∈ BIG) (h2 : Cond.instantiable C N ∈ BIG) (h3 : Cond.initialized C ∈ BIG) (hfs : ∀ j, j < N → defaultValue (ty j) = vp_V fs j) (hr : k + 1 ≤ uc ∧ n + N ≤ us)
    (kk : ∀ q : Nat, GW cx p l e R s m args below meth c Q (pc + 3) ls (.ref q :: sk) (ws ++ [(q, .inr (ci, fs))]) (k + 1) (n + N)) : GW cx p l e R s m args below meth c Q pc ls sk ws k n := by
  intro H lsA locs hP hD hS hL
  have hts := E.2.2.2.2.1
  have hh := E.2.2.2.2.2.2.2.1
  have h5 := E.2.2.2.2.2.2.2.2.2.2.2.1
  have h6 := E.2.2.2.2.2.2.2.2.2.2.2.2
  exact va_new E.1 E.2.1 hts hF.2.1 ty hF.2.2.1 E.2.2.2.1 (hts _ h1) (hts _ h2) (hts _ h3) E.2.2.2.2.2.1 hP hD hS (fun q hq => Nat.le_trans hh hq) hF.1 hfs (by omega) (by omega) hd (fun q H1 hP1 hD1 hS1 => kk q H1 lsA locs hP1 hD1 hS1 hL)
theorem w_putF {a i ci N f : Nat} {C : String} {T : u_T} {ty : Nat → FieldType} {tt : FieldType} {fs : List Value} {v : Value} {ws' : va_W} (E : En cx y cc nL d uc us p R s m args meth c) (hin : meth.name = "<init>") (hd : decode cc pc = .ok (.putfield idx, 3)) (hF : ClF ci C T N ty) (hf : f < N) (hlk : Cond.fieldLink y.cls idx (T f).1 (T f).2.1 (T f).2.2.1 ∈ BIG) (hfin : (T f).2.2.2 = true) (hdecl : (T f).1 = y.cls) (hi : ws[i]? = some (a, .inr (ci, fs))) (hpd : parseFieldDescriptor (T f).2.2.1 = some tt) (hn : narrow tt v = v) (hfit : fits tt v = true) (hq : f < fs.length) (hw' : ws.set i (a, .inr (ci, fs.set f v)) = ws')
    (kk : GW cx p l e R s m args below meth c Q (pc + 3) ls sk ws' k n) : GW cx p l e R s m args below meth c Q pc ls (v :: .ref a :: sk) ws k n := by
  subst hw'
  intro H lsA locs hP hD hS hL
  have hts := E.2.2.2.2.1
  exact va_putF (ty := tt) E.1 E.2.1 hts hF.2.1 ty hF.2.2.1 hF.2.2.2 E.2.2.2.1 E.2.2.2.2.2.1 hP hD hS i hi hF.1 f hf (hts _ hlk) (fun _ h => h) hfin hin hdecl hpd hn hfit hq hd (fun H1 locs1 hP1 hD1 hS1 => kk H1 lsA locs1 hP1 hD1 hS1 hL)
theorem w_iast {a i N : Nat} {f : Nat → Int32} {x : Int} {v : Int32} {ws' : va_W} (E : En cx y cc nL d uc us p R s m args meth c) (hd : decode cc pc = .ok (.iastore, 1)) (hi : ws[i]? = some (a, .inl (cA cx 0, N, .inl f))) (h0 : 0 ≤ x) (h1 : x < N) (hN : N ≤ 6000) (hw' : ws.set i (a, .inl (cA cx 0, N, .inl (upd f x.toNat v))) = ws')
    (kk : GW cx p l e R s m args below meth c Q (pc + 1) ls sk ws' k n) : GW cx p l e R s m args below meth c Q pc ls (.int v :: .int (oi x) :: .ref a :: sk) ws k n := by
  subst hw'
  intro H lsA locs hP hD hS hL
  refine va_iast E.1 E.2.1 E.2.2.2.2.2.1 hP hD hS i 0 hi rfl (oi_in h0 h1 (by omega)) hd (fun H1 locs1 hP1 hD1 hS1 => ?_)
  rw [oi_clamp h0 (inR_of (by omega) (by omega))] at hP1 hD1
  exact kk H1 lsA locs1 hP1 hD1 hS1 hL
theorem w_alenI {a i N : Nat} {f : Nat → Int32} {z : Int} (E : En cx y cc nL d uc us p R s m args meth c) (hd : decode cc pc = .ok (.arraylength, 1)) (hi : ws[i]? = some (a, .inl (cA cx 0, N, .inl f))) (hz : (N : Int) = z)
    (kk : GW cx p l e R s m args below meth c Q (pc + 1) ls (.int (oi z) :: sk) ws k n) : GW cx p l e R s m args below meth c Q pc ls (.ref a :: sk) ws k n := by
  subst hz
  intro H lsA locs hP hD hS hL
  exact va_alen E.1 E.2.1 E.2.2.2.2.2.1 hP i 0 hi rfl (oi_nat N).symm hd (kk H lsA locs hP hD hS hL)
theorem w_new_int {z : Int} {N : Nat} (E : En cx y cc nL d uc us p R s m args meth c) (hd : decode cc pc = .ok (.newarray .int, 2)) (hz : z = N) (hN : N ≤ 6000) (hr : k + 1 ≤ uc ∧ n + N ≤ us)
    (kk : ∀ q : Nat, GW cx p l e R s m args below meth c Q (pc + 2) ls (.ref q :: sk) (ws ++ [(q, .inl (cA cx 0, N, .inl (fun _ => 0)))]) (k + 1) (n + N)) : GW cx p l e R s m args below meth c Q pc ls (.int (oi z) :: sk) ws k n := by
  subst hz
  intro H lsA locs hP hD hS hL
  have h1 := E.2.2.2.2.2.2.2.2.2.2.2.1
  have h2 := E.2.2.2.2.2.2.2.2.2.2.2.2
  have hh := E.2.2.2.2.2.2.2.1
  refine va_newa (atype := .int) (ty := .int) (a0 := (N, .inl (fun _ => 0))) (N' := N) E.1 E.2.1 (E.2.2.2.2.1 _ (big_at 175 (by decide +kernel) (by decide +kernel))) rfl E.2.2.2.2.2.1 hP hD hS (fun q hq => Nat.le_trans hh hq) (fun cA => rfl) (by rw [oi_nat]; exact nI_pos (by omega)) (by rw [oi_nat]; exact nI_clamp (by omega)) (Nat.le_trans (Nat.mul_le_mul_right _ hN) (by decide)) (by omega) (by omega) hd (fun q cB H1 hK1 hP1 hD1 hS1 => ?_)
  have e : cB = cA cx 0 := by
    have g1 := (hK1.2 5 (cB, .int) rfl).2
    have g2 := (E.2.2.2.2.2.1.2 0 (cA cx 0, .int) rfl).2
    exact Option.some.inj (g1.symm.trans g2)
  subst e
  exact kk q H1 lsA locs hP1 hD1 hS1 hL
theorem w_new_boolean {z : Int} {N : Nat} (E : En cx y cc nL d uc us p R s m args meth c) (hd : decode cc pc = .ok (.newarray .boolean, 2)) (hz : z = N) (hN : N ≤ 6000) (hr : k + 1 ≤ uc ∧ n + N ≤ us)
    (kk : ∀ q : Nat, GW cx p l e R s m args below meth c Q (pc + 2) ls (.ref q :: sk) (ws ++ [(q, .inl (cA cx 1, N, .inl (fun _ => 0)))]) (k + 1) (n + N)) : GW cx p l e R s m args below meth c Q pc ls (.int (oi z) :: sk) ws k n := by
  subst hz
  intro H lsA locs hP hD hS hL
  have h1 := E.2.2.2.2.2.2.2.2.2.2.2.1
  have h2 := E.2.2.2.2.2.2.2.2.2.2.2.2
  have hh := E.2.2.2.2.2.2.2.1
  refine va_newa (atype := .boolean) (ty := .boolean) (a0 := (N, .inl (fun _ => 0))) (N' := N) E.1 E.2.1 (E.2.2.2.2.1 _ (big_at 249 (by decide +kernel) (by decide +kernel))) rfl E.2.2.2.2.2.1 hP hD hS (fun q hq => Nat.le_trans hh hq) (fun cA => rfl) (by rw [oi_nat]; exact nI_pos (by omega)) (by rw [oi_nat]; exact nI_clamp (by omega)) (Nat.le_trans (Nat.mul_le_mul_right _ hN) (by decide)) (by omega) (by omega) hd (fun q cB H1 hK1 hP1 hD1 hS1 => ?_)
  have e : cB = cA cx 1 := by
    have g1 := (hK1.2 5 (cB, .boolean) rfl).2
    have g2 := (E.2.2.2.2.2.1.2 1 (cA cx 1, .boolean) rfl).2
    exact Option.some.inj (g1.symm.trans g2)
  subst e
  exact kk q H1 lsA locs hP1 hD1 hS1 hL
theorem w_new_char {z : Int} {N : Nat} (E : En cx y cc nL d uc us p R s m args meth c) (hd : decode cc pc = .ok (.newarray .char, 2)) (hz : z = N) (hN : N ≤ 6000) (hr : k + 1 ≤ uc ∧ n + N ≤ us)
    (kk : ∀ q : Nat, GW cx p l e R s m args below meth c Q (pc + 2) ls (.ref q :: sk) (ws ++ [(q, .inl (cA cx 2, N, .inl (fun _ => 0)))]) (k + 1) (n + N)) : GW cx p l e R s m args below meth c Q pc ls (.int (oi z) :: sk) ws k n := by
  subst hz
  intro H lsA locs hP hD hS hL
  have h1 := E.2.2.2.2.2.2.2.2.2.2.2.1
  have h2 := E.2.2.2.2.2.2.2.2.2.2.2.2
  have hh := E.2.2.2.2.2.2.2.1
  refine va_newa (atype := .char) (ty := .char) (a0 := (N, .inl (fun _ => 0))) (N' := N) E.1 E.2.1 (E.2.2.2.2.1 _ (big_at 336 (by decide +kernel) (by decide +kernel))) rfl E.2.2.2.2.2.1 hP hD hS (fun q hq => Nat.le_trans hh hq) (fun cA => rfl) (by rw [oi_nat]; exact nI_pos (by omega)) (by rw [oi_nat]; exact nI_clamp (by omega)) (Nat.le_trans (Nat.mul_le_mul_right _ hN) (by decide)) (by omega) (by omega) hd (fun q cB H1 hK1 hP1 hD1 hS1 => ?_)
  have e : cB = cA cx 2 := by
    have g1 := (hK1.2 5 (cB, .char) rfl).2
    have g2 := (E.2.2.2.2.2.1.2 2 (cA cx 2, .char) rfl).2
    exact Option.some.inj (g1.symm.trans g2)
  subst e
  exact kk q H1 lsA locs hP1 hD1 hS1 hL
theorem w_newQ {z : Int} {N : Nat} (E : En cx y cc nL d uc us p R s m args meth c) (hd : decode cc pc = .ok (.anewarray idx, 3)) (hAO : va_AO "ExamBoard$Board" s) (h1 : Cond.classLink y.cls idx "ExamBoard$Board" ∈ BIG) (hz : z = N) (hN : N ≤ 6000) (hr : k + 1 ≤ uc ∧ n + N ≤ us)
    (kk : ∀ q : Nat, GW cx p l e R s m args below meth c Q (pc + 3) ls (.ref q :: sk) (ws ++ [(q, .inl (cA cx 4, N, .inr (.inr (.inr (.inr (fun _ => none))))))]) (k + 1) (n + N)) : GW cx p l e R s m args below meth c Q pc ls (.int (oi z) :: sk) ws k n := by
  subst hz
  intro H lsA locs hP hD hS hL
  have h5 := E.2.2.2.2.2.2.2.2.2.2.2.1
  have h6 := E.2.2.2.2.2.2.2.2.2.2.2.2
  have hh := E.2.2.2.2.2.2.2.1
  have hts := E.2.2.2.2.1
  refine va_newq (C := "ExamBoard$Board") (N' := N) E.1 E.2.1 E.2.2.2.1 (hts _ h1) hAO E.2.2.2.2.2.1 hP hD hS (fun q hq => Nat.le_trans hh hq) (by rw [oi_nat]; exact nI_pos (by omega)) (by rw [oi_nat]; exact nI_clamp (by omega)) (by omega) (by omega) (by omega) hd (fun q cB H1 hK1 hP1 hD1 hS1 => ?_)
  have e : cB = cA cx 4 := by
    obtain ⟨kA, comp, -, -, -, g1⟩ := (hK1.2 5 (cB, .object "ExamBoard$Board") rfl).2
    obtain ⟨kA', comp', -, -, -, g2⟩ := (E.2.2.2.2.2.1.2 4 (cA cx 4, .object "ExamBoard$Board") rfl).2
    exact Option.some.inj (g1.symm.trans g2)
  subst e
  exact kk q H1 lsA locs hP1 hD1 hS1 hL
theorem w_aast {a i j N v : Nat} {vs : List Value} {f : Nat → Option Nat} {x : Int} {ws' : va_W} (E : En cx y cc nL d uc us p R s m args meth c) (hd : decode cc pc = .ok (.aastore, 1)) (hi : ws[i]? = some (a, .inl (cA cx 4, N, .inr (.inr (.inr (.inr f)))))) (hj : ws[j]? = some (v, .inr (1, vs))) (h0 : 0 ≤ x) (h1 : x < N) (hN : N ≤ 6000) (hw' : ws.set i (a, .inl (cA cx 4, N, .inr (.inr (.inr (.inr (va_up f x.toNat (some v))))))) = ws')
    (kk : GW cx p l e R s m args below meth c Q (pc + 1) ls sk ws' k n) : GW cx p l e R s m args below meth c Q pc ls (.ref v :: .int (oi x) :: .ref a :: sk) ws k n := by
  subst hw'
  intro H lsA locs hP hD hS hL
  refine va_astq E.1 E.2.1 E.2.2.2.2.2.1 hP hD hS i 4 j 1 (r := ("ExamBoard$Board", TX0, 18)) hi rfl hj rfl (oi_in h0 h1 (by omega)) hd (fun H1 locs1 hP1 hD1 hS1 => ?_)
  rw [oi_clamp h0 (inR_of (by omega) (by omega))] at hP1 hD1
  exact kk H1 lsA locs1 hP1 hD1 hS1 hL
section one
variable {y2 : MethodName} {cc2 : ByteArray} {nL2 d2 uc2 us2 : Nat} {As : List Value} {na : Nat}
theorem w_callI {sk0 : List Value} {a i ci : Nat} {fs : List Value} {q : vw_C} {Post : va_W → Prop} (E : En cx y cc nL d uc us p R s m args meth c) (hd : decode cc pc = .ok (.invokespecial idx, 3)) (hb : MLb y2 na) (hm : Cond.methodLink y.cls idx y2 ∈ BIG) (hin : Cond.instanceMethod y2 ∈ BIG) (hnm : y2.name = "<init>") (hC : MtW cx y2 cc2 nL2 none d2 uc2 us2 (.ref a :: As) ws (QVw cx Post)) (hst : sk0 = As.reverse ++ .ref a :: sk) (hn : As.length = na) (hdp : d2 < d) (hnl : nL2 ≤ 45) (hls : ls.length = nL) (hcat : (sk.map fun v => v.category).sum ≤ 8) (hr : k + uc2 ≤ uc ∧ n + us2 ≤ us)
    (kk' : ∀ ws', Post ws' → GW cx p l e R s m args below meth c Q (pc + 3) ls sk ws' (k + uc2) (n + us2)) : GW cx p l e R s m args below meth c Q pc ls sk0 ws k n := by
  subst hst
  intro H lsA locs hP hD hS hL
  have hts := E.2.2.2.2.1
  exact goW_v hS hL (va_runI (call_fix E) (hC.2 l) ⟨cb_of E hb hm hC.1 hdp hnl, hnm, hts _ hin⟩ ⟨blindW, fun U hU hW => ⟨rfl, repW_end E hP hD hS hU hW⟩⟩ rfl hn (hL.1.trans hls) rfl (lv_roomG hcat) hd (room_ok E hr)) kk'
theorem w_callIN {sk0 : List Value} {a : Nat} {Post : va_W → Prop} (E : En cx y cc nL d uc us p R s m args meth c) (hd : decode cc pc = .ok (.invokespecial idx, 3)) (hb : MLb y2 na) (hm : va_Nw (.methodLinkNest y.cls idx y2 "ExamBoard") s) (hin : Cond.instanceMethod y2 ∈ BIG) (hnm : y2.name = "<init>") (hC : MtW cx y2 cc2 nL2 none d2 uc2 us2 (.ref a :: As) ws (QVw cx Post)) (hst : sk0 = As.reverse ++ .ref a :: sk) (hn : As.length = na) (hdp : d2 < d) (hnl : nL2 ≤ 45) (hls : ls.length = nL) (hcat : (sk.map fun v => v.category).sum ≤ 8) (hr : k + uc2 ≤ uc ∧ n + us2 ≤ us)
    (kk' : ∀ ws', Post ws' → GW cx p l e R s m args below meth c Q (pc + 3) ls sk ws' (k + uc2) (n + us2)) : GW cx p l e R s m args below meth c Q pc ls sk0 ws k n := by
  subst hst
  intro H lsA locs hP hD hS hL
  have hts := E.2.2.2.2.1
  exact goW_v hS hL (va_runIN (call_fix E) (hC.2 l) ⟨cn_of E hb hm hC.1 hdp hnl, hnm, hts _ hin⟩ ⟨blindW, fun U hU hW => ⟨rfl, repW_end E hP hD hS hU hW⟩⟩ rfl hn (hL.1.trans hls) rfl (lv_roomG hcat) hd (room_ok E hr)) kk'
theorem w_callIK {sk0 : List Value} {a : Nat} {Post : va_W → Prop} (E : En cx y cc nL d uc us p R s m args meth c) (hAO : va_AO "ExamBoard$Board" s) (hd : decode cc pc = .ok (.invokespecial idx, 3)) (hb : MLb y2 na) (hm : Cond.methodLink y.cls idx y2 ∈ BIG) (hin : Cond.instanceMethod y2 ∈ BIG) (hnm : y2.name = "<init>") (hC : MtK cx y2 cc2 nL2 none d2 uc2 us2 (.ref a :: As) ws (QVw cx Post)) (hst : sk0 = As.reverse ++ .ref a :: sk) (hn : As.length = na) (hdp : d2 < d) (hnl : nL2 ≤ 45) (hls : ls.length = nL) (hcat : (sk.map fun v => v.category).sum ≤ 8) (hr : k + uc2 ≤ uc ∧ n + us2 ≤ us)
    (kk' : ∀ ws', Post ws' → GW cx p l e R s m args below meth c Q (pc + 3) ls sk ws' (k + uc2) (n + us2)) : GW cx p l e R s m args below meth c Q pc ls sk0 ws k n := by
  subst hst
  intro H lsA locs hP hD hS hL
  have hts := E.2.2.2.2.1
  exact goW_v hS hL (va_runI (call_fix E) (hC.2 l) ⟨cb_of E hb hm hC.1 hdp hnl, hnm, hts _ hin⟩ ⟨fun a U g mk q => ⟨q.1, q.2.1.blind g mk a, va_AO.moved (Vm.Alike.refl U.vm) q.2.2⟩, fun U hU hW => ⟨rfl, repW_end E hP hD hS hU hW, va_AO.moved hW.alike hAO⟩⟩ rfl hn (hL.1.trans hls) rfl (lv_roomG hcat) hd (room_ok E hr)) kk'
end one
end GWK
