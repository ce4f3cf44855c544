/-! the rows of calls -/
def MLb (y2 : MethodName) (na : Nat) : Prop := (y2.cls ≠ "java/lang/invoke/MethodHandle" ∧ y2.cls ≠ "java/lang/invoke/VarHandle" ∧ (parseMethodDescriptor y2.desc).map (fun d => d.parameters.length) = some na) ∧ Cond.initialized y2.cls ∈ BIG
def MLv (own : String) (idx : Nat) (y2 : MethodName) (na : Nat) : Prop := MLb y2 na ∧ Cond.methodLink own idx y2 ∈ BIG ∧ Cond.instanceMethod y2 ∈ BIG ∧ Cond.selects y2.cls y2 y2 ∈ BIG
def MLs (own : String) (idx : Nat) (y2 : MethodName) (na : Nat) : Prop := MLb y2 na ∧ Cond.methodLink own idx y2 ∈ BIG ∧ Cond.static y2 ∈ BIG
/-- a static method of a nest mate -/
def MLn (own : String) (idx : Nat) (y2 : MethodName) (na : Nat) : Prop := MLb y2 na ∧ Cond.static y2 ∈ BIG ∧ ∀ (cx : Cx) (U : State), Stat cx U → va_Nw (.methodLinkNest own idx y2 "ExamBoard") U
section GC
variable {cx : Cx} {y : MethodName} {cc : ByteArray} {nL d uc us : Nat} {p : Program} {l : Launch} {e : Env} {R : Room} {s : State} {m : MethodId} {args : Array Value} {below : List Frame} {meth : Method} {c : Code} {Q : State → Prop}
variable {pc : Nat} {ls : List (Option Value)} {sk : List Value} {M : Mem} {k n : Nat}
theorem call_fix (E : En cx y cc nL d uc us p R s m args meth c) : CallFix p m c cc nL s args BIG y.cls := ⟨E.1, E.2.1, E.2.2.1, E.2.2.2.1, E.2.2.2.2.1⟩
theorem lv_roomG {st : List Value} {H : Array Slot} {rest : List Value} (h : (st.map fun v => v.category).sum ≤ 8) : 2 * (F0 m pc H rest).monitorRoom + (st.map fun v => v.category).sum ≤ 8 := by
  show 2 * 0 + _ ≤ 8
  omega
theorem rcv {H : Heap} {i t q : Nat} {C : String} (hK : va_K cx.1 vwCl (tysC cx) s) (hI : InH cx M H) (hk : kk i = (t + 11, q)) (hC : (vwCl[t + 1]?).map (fun x => x.1) = some C) : ∃ cell : Cell, H[cad cx i]? = some cell ∧ cell.vm.isStatics = false ∧ s.vm.findClass C = some cell.cls := by
  obtain ⟨hid, hP, hD, hM⟩ := hI
  cases hz : vwCl[t + 1]? with
  | none => rw [hz] at hC; cases hC
  | some r =>
    rw [hz] at hC
    cases hC
    have he := wl_get (cx := cx) (M := M) (hid := hid) (kk_lt hk (by
      intro h99
      have : t + 1 < vwCl.length := (List.getElem?_eq_some_iff.mp hz).1
      have e8 : vwCl.length = 8 := rfl
      omega))
    rw [ent_o hk] at he
    exact va_recv hK hP hz he
section one
variable {y2 : MethodName} {cc2 : ByteArray} {nL2 d2 uc2 us2 : Nat} {rt2 : Option FieldType} {As : List Value} {idx na : Nat}
theorem cb_of (E : En cx y cc nL d uc us p R s m args meth c) (hb : MLb y2 na) (hm : Cond.methodLink y.cls idx y2 ∈ BIG) (hc : .code y2 cc2 nL2 rt2 ∈ BIG) (hdp : d2 < d) (hnl : nL2 ≤ 45) : CallB R s args y.cls idx y2 cc2 nL2 rt2 (.code y2 cc2 nL2 rt2 :: BIG) (rmD d2 uc2 us2) uc2 us2 na := by
  have hts := E.2.2.2.2.1
  refine callB_of na hts (big_good _ (fun w hw => by rcases List.mem_cons.mp hw with rfl | h <;> assumption)) rfl rfl rfl (hts _ hb.2) (hts _ hm) hb.1 ⟨?_, ?_⟩
  · have := E.2.2.2.2.2.2.2.2.2.1
    show d2 + 1 ≤ R.frames
    omega
  · have := E.2.2.2.2.2.2.2.2.2.2.1
    show 8 + (nL2 + 11) + 64 * d2 ≤ R.locals
    omega
theorem room_ok (E : En cx y cc nL d uc us p R s m args meth c) (hr : k + uc2 ≤ uc ∧ n + us2 ≤ us) : k + uc2 ≤ R.cells ∧ n + us2 ≤ R.slots := by
  have h1 := E.2.2.2.2.2.2.2.2.2.2.2.1
  have h2 := E.2.2.2.2.2.2.2.2.2.2.2.2
  omega
theorem go_ct {Post : Int → Mem → Prop} {H : Heap} {lsA : Array Slot} {locs : List Loc} {sk0 : List Value} {a : Array Value} (hS : va_S (cA0 cx) s.heap H locs) (hL : lvOK lsA ls)
    (hr : va_Run p l e R s m args below meth c H locs k n uc2 us2 (F0 m pc lsA sk0) sk (QI cx Post a) (cA0 cx))
    (kk' : ∀ x M', Post x M' → G cx p l e R s m args below meth c Q (pc + 3) ls (.int (oi x) :: sk) M' (k + uc2) (n + us2)) : W p l e R s m args below meth c H locs k n Q (F0 m pc lsA sk0) := by
  refine va_calli hr hS (fun q _ h => h) (fun q h => h) (fun r u t H1 locs1 ht hvm hw hB hz1 hk1 hS1 => ?_)
  obtain ⟨rfl, hp⟩ := hw
  have hI1 : InH cx u.2 H1 := by rw [← ht]; exact hB.1
  exact kk' u.1 u.2 hp H1 lsA locs1 hI1 hS1 hL
theorem go_cv {Post : Mem → Prop} {H : Heap} {lsA : Array Slot} {locs : List Loc} {sk0 : List Value} {a : Array Value} (hS : va_S (cA0 cx) s.heap H locs) (hL : lvOK lsA ls)
    (hr : va_Run p l e R s m args below meth c H locs k n uc2 us2 (F0 m pc lsA sk0) sk (QV cx Post a) (cA0 cx))
    (kk' : ∀ M', Post M' → G cx p l e R s m args below meth c Q (pc + 3) ls sk M' (k + uc2) (n + us2)) : W p l e R s m args below meth c H locs k n Q (F0 m pc lsA sk0) := by
  refine va_callv hr hS (fun q _ h => h) (fun q h => h) (fun u t H1 locs1 ht hvm hw hB hz1 hk1 hS1 => ?_)
  have hI1 : InH cx u H1 := by rw [← ht]; exact hB.1
  exact kk' u hw H1 lsA locs1 hI1 hS1 hL
theorem blind {av : List Value} : FrameBlind (va_Pc av (Rep cx M)) := fun a U g mk q => ⟨q.1, q.2.blind g mk a⟩
theorem g_callV {sk0 : List Value} {i t q : Nat} {Post : Int → Mem → Prop} (E : En cx y cc nL d uc us p R s m args meth c) (hd : decode cc pc = .ok (.invokevirtual idx, 3)) (hm : MLv y.cls idx y2 na) (hC : Ct cx y2 cc2 nL2 rt2 d2 uc2 us2 (rf cx i :: As) M Post) (hst : sk0 = As.reverse ++ rf cx i :: sk) (hk : kk i = (t + 11, q)) (hcl : (vwCl[t + 1]?).map (fun x => x.1) = some y2.cls) (hn : As.length = na) (hdp : d2 < d) (hnl : nL2 ≤ 45) (hls : ls.length = nL) (hcat : (sk.map fun v => v.category).sum ≤ 8) (hr : k + uc2 ≤ uc ∧ n + us2 ≤ us)
    (kk' : ∀ x M', Post x M' → G cx p l e R s m args below meth c Q (pc + 3) ls (.int (oi x) :: sk) M' (k + uc2) (n + us2)) : G cx p l e R s m args below meth c Q pc ls sk0 M k n := by
  subst hst
  intro H lsA locs hI hS hL
  have hts := E.2.2.2.2.1
  exact go_ct hS hL (va_runV (call_fix E) (hC.2 l) ⟨cb_of E hm.1 hm.2.1 hC.1 hdp hnl, hts _ hm.2.2.1, hts _ hm.2.2.2⟩ ⟨blind, rcv E.2.2.2.2.2.1 hI hk hcl, fun U hU hW => ⟨rfl, rep_end E hI hS hU hW⟩⟩ rfl hn (hL.1.trans hls) rfl (lv_roomG hcat) hd (room_ok E hr)) kk'
theorem g_callVv {sk0 : List Value} {i t q : Nat} {Post : Mem → Prop} (E : En cx y cc nL d uc us p R s m args meth c) (hd : decode cc pc = .ok (.invokevirtual idx, 3)) (hm : MLv y.cls idx y2 na) (hC : Cv cx y2 cc2 nL2 d2 uc2 us2 (rf cx i :: As) M Post) (hst : sk0 = As.reverse ++ rf cx i :: sk) (hk : kk i = (t + 11, q)) (hcl : (vwCl[t + 1]?).map (fun x => x.1) = some y2.cls) (hn : As.length = na) (hdp : d2 < d) (hnl : nL2 ≤ 45) (hls : ls.length = nL) (hcat : (sk.map fun v => v.category).sum ≤ 8) (hr : k + uc2 ≤ uc ∧ n + us2 ≤ us)
    (kk' : ∀ M', Post M' → G cx p l e R s m args below meth c Q (pc + 3) ls sk M' (k + uc2) (n + us2)) : G cx p l e R s m args below meth c Q pc ls sk0 M k n := by
  subst hst
  intro H lsA locs hI hS hL
  have hts := E.2.2.2.2.1
  exact go_cv hS hL (va_runV (call_fix E) (hC.2 l) ⟨cb_of E hm.1 hm.2.1 hC.1 hdp hnl, hts _ hm.2.2.1, hts _ hm.2.2.2⟩ ⟨blind, rcv E.2.2.2.2.2.1 hI hk hcl, fun U hU hW => ⟨rfl, rep_end E hI hS hU hW⟩⟩ rfl hn (hL.1.trans hls) rfl (lv_roomG hcat) hd (room_ok E hr)) kk'
theorem g_callS {sk0 : List Value} {Post : Int → Mem → Prop} (E : En cx y cc nL d uc us p R s m args meth c) (hd : decode cc pc = .ok (.invokestatic idx, 3)) (hm : MLs y.cls idx y2 na) (hC : Ct cx y2 cc2 nL2 rt2 d2 uc2 us2 (As) M Post) (hst : sk0 = As.reverse ++ sk) (hn : As.length = na) (hdp : d2 < d) (hnl : nL2 ≤ 45) (hls : ls.length = nL) (hcat : (sk.map fun v => v.category).sum ≤ 8) (hr : k + uc2 ≤ uc ∧ n + us2 ≤ us)
    (kk' : ∀ x M', Post x M' → G cx p l e R s m args below meth c Q (pc + 3) ls (.int (oi x) :: sk) M' (k + uc2) (n + us2)) : G cx p l e R s m args below meth c Q pc ls sk0 M k n := by
  subst hst
  intro H lsA locs hI hS hL
  have hts := E.2.2.2.2.1
  exact go_ct hS hL (va_runS (call_fix E) (hC.2 l) ⟨cb_of E hm.1 hm.2.1 hC.1 hdp hnl, hts _ hm.2.2⟩ ⟨blind, fun U hU hW => ⟨rfl, rep_end E hI hS hU hW⟩⟩ rfl hn (hL.1.trans hls) rfl (lv_roomG hcat) hd (room_ok E hr)) kk'
theorem g_callSv {sk0 : List Value} {Post : Mem → Prop} (E : En cx y cc nL d uc us p R s m args meth c) (hd : decode cc pc = .ok (.invokestatic idx, 3)) (hm : MLs y.cls idx y2 na) (hC : Cv cx y2 cc2 nL2 d2 uc2 us2 (As) M Post) (hst : sk0 = As.reverse ++ sk) (hn : As.length = na) (hdp : d2 < d) (hnl : nL2 ≤ 45) (hls : ls.length = nL) (hcat : (sk.map fun v => v.category).sum ≤ 8) (hr : k + uc2 ≤ uc ∧ n + us2 ≤ us)
    (kk' : ∀ M', Post M' → G cx p l e R s m args below meth c Q (pc + 3) ls sk M' (k + uc2) (n + us2)) : G cx p l e R s m args below meth c Q pc ls sk0 M k n := by
  subst hst
  intro H lsA locs hI hS hL
  have hts := E.2.2.2.2.1
  exact go_cv hS hL (va_runS (call_fix E) (hC.2 l) ⟨cb_of E hm.1 hm.2.1 hC.1 hdp hnl, hts _ hm.2.2⟩ ⟨blind, fun U hU hW => ⟨rfl, rep_end E hI hS hU hW⟩⟩ rfl hn (hL.1.trans hls) rfl (lv_roomG hcat) hd (room_ok E hr)) kk'
theorem cn_of (E : En cx y cc nL d uc us p R s m args meth c) (hb : MLb y2 na) (hm : va_Nw (.methodLinkNest y.cls idx y2 "ExamBoard") s) (hc : .code y2 cc2 nL2 rt2 ∈ BIG) (hdp : d2 < d) (hnl : nL2 ≤ 45) : va_CN R s args y.cls idx y2 "ExamBoard" cc2 nL2 rt2 (.code y2 cc2 nL2 rt2 :: BIG) (rmD d2 uc2 us2) uc2 us2 na := by
  have hts := E.2.2.2.2.1
  refine va_cnB na hts (big_good _ (fun w hw => by rcases List.mem_cons.mp hw with rfl | h <;> assumption)) rfl rfl rfl hm (hts _ hb.2) hb.1 ⟨?_, ?_⟩
  · have := E.2.2.2.2.2.2.2.2.2.1
    show d2 + 1 ≤ R.frames
    omega
  · have := E.2.2.2.2.2.2.2.2.2.2.1
    show 8 + (nL2 + 11) + 64 * d2 ≤ R.locals
    omega
theorem g_callN {sk0 : List Value} {Post : Int → Mem → Prop} (E : En cx y cc nL d uc us p R s m args meth c) (hd : decode cc pc = .ok (.invokestatic idx, 3)) (hm : MLn y.cls idx y2 na) (hC : Ct cx y2 cc2 nL2 rt2 d2 uc2 us2 (As) M Post) (hst : sk0 = As.reverse ++ sk) (hn : As.length = na) (hdp : d2 < d) (hnl : nL2 ≤ 45) (hls : ls.length = nL) (hcat : (sk.map fun v => v.category).sum ≤ 8) (hr : k + uc2 ≤ uc ∧ n + us2 ≤ us)
    (kk' : ∀ x M', Post x M' → G cx p l e R s m args below meth c Q (pc + 3) ls (.int (oi x) :: sk) M' (k + uc2) (n + us2)) : G cx p l e R s m args below meth c Q pc ls sk0 M k n := by
  subst hst
  intro H lsA locs hI hS hL
  have hts := E.2.2.2.2.1
  exact go_ct hS hL (va_runSN (call_fix E) (hC.2 l) ⟨cn_of E hm.1 (hm.2.2 cx s E.2.2.2.2.2.2.1) hC.1 hdp hnl, hts _ hm.2.1, trivial⟩ ⟨blind, fun U hU hW => ⟨rfl, rep_end E hI hS hU hW⟩⟩ rfl hn (hL.1.trans hls) rfl (lv_roomG hcat) hd (room_ok E hr)) kk'
end one
end GC
