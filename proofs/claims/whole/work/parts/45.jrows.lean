/-! walks over an explicit list of cells (for the JDK's own methods) -/
def RepW (cx : Cx) (ws : va_W) (U : State) : Prop := va_P cx.1 vwCl ws U.heap ∧ va_D (cA0 cx) ws ∧ va_K cx.1 vwCl (tysC cx) U ∧ Stat cx U ∧ cx.2.2.2 ≤ U.heap.size
theorem RepW.blind {cx : Cx} {ws : va_W} {U : State} (h : RepW cx ws U) (g : JFrame) (mk : MethodId) (a : Array Value) : RepW cx ws (U.calling g mk a) :=
  ⟨h.1, h.2.1, va_K.moved (u := U) (U := U.calling g mk a) (Vm.Alike.refl U.vm) h.2.2.1, h.2.2.2.1.calling g mk a, h.2.2.2.2⟩
def MtW (cx : Cx) (y : MethodName) (cc : ByteArray) (nL : Nat) (rt : Option FieldType) (d uc us : Nat) (av : List Value) (ws : va_W) (Qc : Array Value → State → Outcome → State → Prop) : Prop :=
  .code y cc nL rt ∈ BIG ∧ ∀ l : Launch, Met l y (.code y cc nL rt :: BIG) (rmD d uc us) (va_Pc av (RepW cx ws)) Qc uc us (cA0 cx)
abbrev QIw (cx : Cx) (Post : Int → va_W → Prop) : Array Value → State → Outcome → State → Prop := va_Qi (fun (r : Int32) (u : Int × va_W) => r = oi u.1 ∧ Post u.1 u.2) (fun u t => RepW cx u.2 t) (cA0 cx)
abbrev QVw (cx : Cx) (Post : va_W → Prop) : Array Value → State → Outcome → State → Prop := va_Qv (fun (u : va_W) => Post u) (fun u t => RepW cx u t) (cA0 cx)
abbrev QRw (cx : Cx) (Post : Nat → va_W → Prop) : Array Value → State → Outcome → State → Prop := va_Qr (fun (u : Nat × va_W) => Post u.1 u.2) (fun u a t => a = u.1 ∧ RepW cx u.2 t) (cA0 cx)
section GWD
variable (cx : Cx) (p : Program) (l : Launch) (e : Env) (R : Room) (s : State) (m : MethodId) (args : Array Value) (below : List Frame) (meth : Method) (c : Code) (Q : State → Prop)
def GW (pc : Nat) (ls : List (Option Value)) (sk : List Value) (ws : va_W) (k n : Nat) : Prop :=
  ∀ (H : Heap) (lsA : Array Slot) (locs : List Loc), va_P cx.1 vwCl ws H → va_D (cA0 cx) ws → va_S (cA0 cx) s.heap H locs → lvOK lsA ls → W p l e R s m args below meth c H locs k n Q (F0 m pc lsA sk)
end GWD
section GWI
variable {cx : Cx} {y : MethodName} {cc : ByteArray} {nL d uc us : Nat}
theorem mt_intro {rt : Option FieldType} {av : List Value} {ws : va_W} {Qc : Array Value → State → Outcome → State → Prop} (hcode : .code y cc nL rt ∈ BIG) (hy : plainFor y = true) (hav : av.length ≤ nL) (hac : av.all (fun v => v.category == 1) = true)
    (body : ∀ (p : Program) (l : Launch) (e : Env) (s : State) (m : MethodId) (args : Array Value) (below : List Frame) (meth : Method) (c : Code), En cx y cc nL d uc us p (rmD d uc us) s m args meth c → meth.sig.returnType = rt →
      GW cx p l e (rmD d uc us) s m args below meth c (MQ below Qc args s uc us (cA0 cx)) 0 (av.map some ++ List.replicate (nL - av.length) none) [] ws 0 0) : MtW cx y cc nL rt d uc us av ws Qc := by
  refine ⟨hcode, fun l => ?_⟩
  refine va_MetF (cc := cc) (maxL := nL) (ret := rt) hy rfl ?_
  intro p e s m args below meth c s₁ B hml hv
  obtain ⟨rfl, hP, hD, hK, hS, hN⟩ := hv
  have hts := atoms_spec (ws := .code y cc nL rt :: BIG) B.pre
  have hc1 : ∀ v ∈ av, v.category = 1 := fun v hv => by simpa using List.all_eq_true.mp hac v hv
  rw [entry_eq m av hc1 nL]
  exact body p l e s m av.toArray below meth c ⟨B.exec, B.bytes, hml, findClass_of_methodNamed B.named, fun w hw => hts w (List.mem_cons_of_mem _ hw), hK, hS, hN, B.notSynchronized, Nat.le_refl _, Nat.le_refl _, Nat.le_refl _, Nat.le_refl _⟩ B.returns s.heap _ [] hP hD va_S.rf (lv_entry_ok av hav hc1)
variable {p : Program} {l : Launch} {e : Env} {R : Room} {s : State} {m : MethodId} {args : Array Value} {below : List Frame} {meth : Method} {c : Code} {Q : State → Prop}
variable {pc : Nat} {ls : List (Option Value)} {sk : List Value} {ws : va_W} {k n : Nat}
theorem repW_end (E : En cx y cc nL d uc us p R s m args meth c) {H : Heap} {locs : List Loc} (hP : va_P cx.1 vwCl ws H) (hD : va_D (cA0 cx) ws) (hS : va_S (cA0 cx) s.heap H locs) {t : State} (ht : t.heap = H) (hW : s.WarmedH t.vm) : RepW cx ws t := by
  subst ht
  obtain ⟨hx, hb, hml, hown, hts, hK, hSt, hN, hlk, -⟩ := E
  exact ⟨hP, hD, va_K.moved hW.alike hK, hSt.moved hW (fun a h1 h2 => hS.2.1 a h1 h2), Nat.le_trans hN hS.1⟩
theorem w_iret {Post : Int → va_W → Prop} {x : Int} (E : En cx y cc nL d uc us p R s m args meth c) (hr : meth.sig.returnType = some .int) (hd : decode cc pc = .ok (.ireturn, 1)) (hP' : Post x ws) : GW cx p l e R s m args below meth c (MQ below (QIw cx Post) args s k n (cA0 cx)) pc ls [.int (oi x)] ws k n := by
  intro H lsA locs hP hD hS hL
  exact W.iret E.1 E.2.1 hr (fun t ht hW => ⟨⟨oi x, (x, ws), rfl, ⟨rfl, hP'⟩, repW_end E hP hD hS ht hW⟩, hS.F ht⟩) hS.2.2 hd E.2.2.2.2.2.2.2.2.1
theorem w_zret {Post : Int → va_W → Prop} {x : Int} {ty : FieldType} (E : En cx y cc nL d uc us p R s m args meth c) (hr : meth.sig.returnType = some ty) (hd : decode cc pc = .ok (.ireturn, 1)) (hx : narrow ty (.int (oi x)) = .int (oi x)) (hP' : Post x ws) : GW cx p l e R s m args below meth c (MQ below (QIw cx Post) args s k n (cA0 cx)) pc ls [.int (oi x)] ws k n := by
  intro H lsA locs hP hD hS hL
  exact W.zret E.1 E.2.1 hr hx (fun t ht hW => ⟨⟨oi x, (x, ws), rfl, ⟨rfl, hP'⟩, repW_end E hP hD hS ht hW⟩, hS.F ht⟩) hS.2.2 hd E.2.2.2.2.2.2.2.2.1
theorem w_vret {Post : va_W → Prop} (E : En cx y cc nL d uc us p R s m args meth c) (hr : meth.sig.returnType = none) (hd : decode cc pc = .ok (.return_, 1)) (hP' : Post ws) : GW cx p l e R s m args below meth c (MQ below (QVw cx Post) args s k n (cA0 cx)) pc ls [] ws k n := by
  intro H lsA locs hP hD hS hL
  exact W.vret E.1 E.2.1 hr (fun t ht hW => ⟨⟨ws, rfl, hP', repW_end E hP hD hS ht hW⟩, hS.F ht⟩) hS.2.2 hd E.2.2.2.2.2.2.2.2.1
theorem w_aret {Post : Nat → va_W → Prop} {a : Nat} {rt : FieldType} (E : En cx y cc nL d uc us p R s m args meth c) (hr : meth.sig.returnType = some rt) (hrt : (∃ n, rt = .object n) ∨ ∃ t, rt = .array t) (hd : decode cc pc = .ok (.areturn, 1)) (hP' : Post a ws) : GW cx p l e R s m args below meth c (MQ below (QRw cx Post) args s k n (cA0 cx)) pc ls [.ref a] ws k n := by
  intro H lsA locs hP hD hS hL
  exact W.aret E.1 E.2.1 hr hrt (Or.inr ⟨a, rfl⟩) (fun t ht hW => ⟨⟨(a, ws), a, rfl, hP', rfl, repW_end E hP hD hS ht hW⟩, hS.F ht⟩) hS.2.2 hd E.2.2.2.2.2.2.2.2.1
theorem w_widen {k' n' : Nat} (h1 : k ≤ k') (h2 : n ≤ n') (kk : GW cx p l e R s m args below meth c Q pc ls sk ws k' n') : GW cx p l e R s m args below meth c Q pc ls sk ws k n :=
  fun H lsA locs hP hD hS hL => W.widen h1 h2 (kk H lsA locs hP hD hS hL)
theorem w_weak {ls' : List (Option Value)} (hl : ls.length = ls'.length) (h : ∀ (i : Nat) (v : Value), ls'[i]? = some (some v) → ls[i]? = some (some v)) (kk : GW cx p l e R s m args below meth c Q pc ls' sk ws k n) : GW cx p l e R s m args below meth c Q pc ls sk ws k n :=
  fun H lsA locs hP hD hS hL => kk H lsA locs hP hD hS ⟨hL.1.trans hl, hL.2.1, fun i v hi => hL.2.2 i v (h i v hi)⟩

theorem w_iconst (E : En cx y cc nL d uc us p R s m args meth c) {z : Int} (hd : decode cc pc = .ok (.iconst z, 1)) (hv : Int32.ofInt z = oi z) (kk : GW cx p l e R s m args below meth c Q (pc + 1) ls (.int (oi z) :: sk) ws k n) : GW cx p l e R s m args below meth c Q (pc) ls (sk) ws k n := by
  intro H lsA locs hP hD hS hL
  exact lv_iconst E.1 E.2.1 hd hv (kk H lsA locs hP hD hS hL)
theorem w_bipush (E : En cx y cc nL d uc us p R s m args meth c) {z : Int} (hd : decode cc pc = .ok (.bipush z, 2)) (hv : (Int8.ofInt z).toInt32 = oi z) (kk : GW cx p l e R s m args below meth c Q (pc + 2) ls (.int (oi z) :: sk) ws k n) : GW cx p l e R s m args below meth c Q (pc) ls (sk) ws k n := by
  intro H lsA locs hP hD hS hL
  exact lv_bipush E.1 E.2.1 hd hv (kk H lsA locs hP hD hS hL)
theorem w_sipush (E : En cx y cc nL d uc us p R s m args meth c) {z : Int} (hd : decode cc pc = .ok (.sipush z, 3)) (hv : (Int16.ofInt z).toInt32 = oi z) (kk : GW cx p l e R s m args below meth c Q (pc + 3) ls (.int (oi z) :: sk) ws k n) : GW cx p l e R s m args below meth c Q (pc) ls (sk) ws k n := by
  intro H lsA locs hP hD hS hL
  exact lv_sipush E.1 E.2.1 hd hv (kk H lsA locs hP hD hS hL)
theorem w_iload_n (E : En cx y cc nL d uc us p R s m args meth c) {j : Fin 4} {i : Nat} {x : Int} (hd : decode cc pc = .ok (.iload_n j, 1)) (hi : (j : Nat) = i) (hl : ls[i]? = some (some (.int (oi x)))) (kk : GW cx p l e R s m args below meth c Q (pc + 1) ls (.int (oi x) :: sk) ws k n) : GW cx p l e R s m args below meth c Q (pc) ls (sk) ws k n := by
  intro H lsA locs hP hD hS hL
  exact lv_iload_n E.1 E.2.1 hd hi (hL.2.2 _ _ hl).1 (kk H lsA locs hP hD hS hL)
theorem w_iload (E : En cx y cc nL d uc us p R s m args meth c) {i : Nat} {x : Int} (hd : decode cc pc = .ok (.iload i, 2)) (hl : ls[i]? = some (some (.int (oi x)))) (kk : GW cx p l e R s m args below meth c Q (pc + 2) ls (.int (oi x) :: sk) ws k n) : GW cx p l e R s m args below meth c Q (pc) ls (sk) ws k n := by
  intro H lsA locs hP hD hS hL
  exact lv_iload E.1 E.2.1 hd (hL.2.2 _ _ hl).1 (kk H lsA locs hP hD hS hL)
theorem w_aload_n (E : En cx y cc nL d uc us p R s m args meth c) {j : Fin 4} {i : Nat} {x : Nat} (hd : decode cc pc = .ok (.aload_n j, 1)) (hi : (j : Nat) = i) (hl : ls[i]? = some (some (.ref x))) (kk : GW cx p l e R s m args below meth c Q (pc + 1) ls (.ref x :: sk) ws k n) : GW cx p l e R s m args below meth c Q (pc) ls (sk) ws k n := by
  intro H lsA locs hP hD hS hL
  exact lv_aload_n E.1 E.2.1 hd hi (hL.2.2 _ _ hl).1 (kk H lsA locs hP hD hS hL)
theorem w_aload (E : En cx y cc nL d uc us p R s m args meth c) {i : Nat} {x : Nat} (hd : decode cc pc = .ok (.aload i, 2)) (hl : ls[i]? = some (some (.ref x))) (kk : GW cx p l e R s m args below meth c Q (pc + 2) ls (.ref x :: sk) ws k n) : GW cx p l e R s m args below meth c Q (pc) ls (sk) ws k n := by
  intro H lsA locs hP hD hS hL
  exact lv_aload E.1 E.2.1 hd (hL.2.2 _ _ hl).1 (kk H lsA locs hP hD hS hL)
theorem w_istore_n (E : En cx y cc nL d uc us p R s m args meth c) {j : Fin 4} {i : Nat} {x : Int} {ls' : List (Option Value)} (hd : decode cc pc = .ok (.istore_n j, 1)) (hi : (j : Nat) = i) (hn : i < ls.length) (hl : ls.set i (some (.int (oi x))) = ls') (kk : GW cx p l e R s m args below meth c Q (pc + 1) ls' (sk) ws k n) : GW cx p l e R s m args below meth c Q (pc) ls (.int (oi x) :: sk) ws k n := by
  subst hl
  intro H lsA locs hP hD hS hL
  exact lv_istore_n E.1 E.2.1 hd hi (lvL_has hL) hn rfl (fun lsB hB => kk H lsB locs hP hD hS (lvL_set hL hn rfl hB))
theorem w_istore (E : En cx y cc nL d uc us p R s m args meth c) {i : Nat} {x : Int} {ls' : List (Option Value)} (hd : decode cc pc = .ok (.istore i, 2)) (hn : i < ls.length) (hl : ls.set i (some (.int (oi x))) = ls') (kk : GW cx p l e R s m args below meth c Q (pc + 2) ls' (sk) ws k n) : GW cx p l e R s m args below meth c Q (pc) ls (.int (oi x) :: sk) ws k n := by
  subst hl
  intro H lsA locs hP hD hS hL
  exact lv_istore E.1 E.2.1 hd (lvL_has hL) hn rfl (fun lsB hB => kk H lsB locs hP hD hS (lvL_set hL hn rfl hB))
theorem w_astore_n (E : En cx y cc nL d uc us p R s m args meth c) {j : Fin 4} {i : Nat} {x : Nat} {ls' : List (Option Value)} (hd : decode cc pc = .ok (.astore_n j, 1)) (hi : (j : Nat) = i) (hn : i < ls.length) (hl : ls.set i (some (.ref x)) = ls') (kk : GW cx p l e R s m args below meth c Q (pc + 1) ls' (sk) ws k n) : GW cx p l e R s m args below meth c Q (pc) ls (.ref x :: sk) ws k n := by
  subst hl
  intro H lsA locs hP hD hS hL
  exact lv_astore_n E.1 E.2.1 hd hi (lvL_has hL) hn rfl (fun lsB hB => kk H lsB locs hP hD hS (lvL_set hL hn rfl hB))
theorem w_astore (E : En cx y cc nL d uc us p R s m args meth c) {i : Nat} {x : Nat} {ls' : List (Option Value)} (hd : decode cc pc = .ok (.astore i, 2)) (hn : i < ls.length) (hl : ls.set i (some (.ref x)) = ls') (kk : GW cx p l e R s m args below meth c Q (pc + 2) ls' (sk) ws k n) : GW cx p l e R s m args below meth c Q (pc) ls (.ref x :: sk) ws k n := by
  subst hl
  intro H lsA locs hP hD hS hL
  exact lv_astore E.1 E.2.1 hd (lvL_has hL) hn rfl (fun lsB hB => kk H lsB locs hP hD hS (lvL_set hL hn rfl hB))
theorem w_iinc (E : En cx y cc nL d uc us p R s m args meth c) {i : Nat} {x z v : Int} {ls' : List (Option Value)} (hd : decode cc pc = .ok (.iinc i z, 3)) (hx : ls[i]? = some (some (.int (oi x)))) (hv : x + z = v) (hl : ls.set i (some (.int (oi v))) = ls') (kk : GW cx p l e R s m args below meth c Q (pc + 3) ls' (sk) ws k n) : GW cx p l e R s m args below meth c Q (pc) ls (sk) ws k n := by
  subst hl
  have hn := (List.getElem?_eq_some_iff.mp hx).1
  intro H lsA locs hP hD hS hL
  obtain ⟨j, hj⟩ := List.getElem?_of_mem (lvL_mem.mpr hx)
  exact lv_iinc E.1 E.2.1 hd (lvL_has hL) hj (by rw [← hv]; exact oi_add x z) hn rfl (fun lsB hB => kk H lsB locs hP hD hS (lvL_set hL hn rfl hB))
theorem w_iadd (E : En cx y cc nL d uc us p R s m args meth c) {a b : Int} (hd : decode cc pc = .ok (.iadd, 1)) (kk : GW cx p l e R s m args below meth c Q (pc + 1) ls (.int (oi (a + b)) :: sk) ws k n) : GW cx p l e R s m args below meth c Q (pc) ls (.int (oi b) :: .int (oi a) :: sk) ws k n := by
  intro H lsA locs hP hD hS hL
  exact lv_iadd E.1 E.2.1 hd (by rw [oi_add]; exact kk H lsA locs hP hD hS hL)
theorem w_isub (E : En cx y cc nL d uc us p R s m args meth c) {a b : Int} (hd : decode cc pc = .ok (.isub, 1)) (kk : GW cx p l e R s m args below meth c Q (pc + 1) ls (.int (oi (a - b)) :: sk) ws k n) : GW cx p l e R s m args below meth c Q (pc) ls (.int (oi b) :: .int (oi a) :: sk) ws k n := by
  intro H lsA locs hP hD hS hL
  exact lv_isub E.1 E.2.1 hd (by rw [oi_sub]; exact kk H lsA locs hP hD hS hL)
theorem w_imul (E : En cx y cc nL d uc us p R s m args meth c) {a b : Int} (hd : decode cc pc = .ok (.imul, 1)) (kk : GW cx p l e R s m args below meth c Q (pc + 1) ls (.int (oi (a * b)) :: sk) ws k n) : GW cx p l e R s m args below meth c Q (pc) ls (.int (oi b) :: .int (oi a) :: sk) ws k n := by
  intro H lsA locs hP hD hS hL
  exact lv_imul E.1 E.2.1 hd (by rw [oi_mul]; exact kk H lsA locs hP hD hS hL)
theorem w_ineg (E : En cx y cc nL d uc us p R s m args meth c) {a : Int} (hd : decode cc pc = .ok (.ineg, 1)) (kk : GW cx p l e R s m args below meth c Q (pc + 1) ls (.int (oi (-a)) :: sk) ws k n) : GW cx p l e R s m args below meth c Q (pc) ls (.int (oi a) :: sk) ws k n := by
  intro H lsA locs hP hD hS hL
  exact lv_ineg E.1 E.2.1 hd (by rw [oi_neg]; exact kk H lsA locs hP hD hS hL)
theorem w_idiv (E : En cx y cc nL d uc us p R s m args meth c) {a b : Int} (hd : decode cc pc = .ok (.idiv, 1)) (h0 : 0 ≤ a) (h1 : a ≤ 2147483647) (h2 : 0 < b) (h3 : b ≤ 2147483647) (kk : GW cx p l e R s m args below meth c Q (pc + 1) ls (.int (oi (a / b)) :: sk) ws k n) : GW cx p l e R s m args below meth c Q (pc) ls (.int (oi b) :: .int (oi a) :: sk) ws k n := by
  have ha : inR a := ⟨by omega, h1⟩
  have hb : inR b := ⟨by omega, h3⟩
  intro H lsA locs hP hD hS hL
  exact lv_idiv E.1 E.2.1 hd (fun z => by have := (oi_eq hb (inR_of (by decide) (by decide))).mp (z.trans oi_0); omega) (by rw [oi_div ha hb h0 h2]; exact kk H lsA locs hP hD hS hL)
theorem w_irem (E : En cx y cc nL d uc us p R s m args meth c) {a b : Int} (hd : decode cc pc = .ok (.irem, 1)) (h0 : 0 ≤ a) (h1 : a ≤ 2147483647) (h2 : 0 < b) (h3 : b ≤ 2147483647) (kk : GW cx p l e R s m args below meth c Q (pc + 1) ls (.int (oi (a % b)) :: sk) ws k n) : GW cx p l e R s m args below meth c Q (pc) ls (.int (oi b) :: .int (oi a) :: sk) ws k n := by
  have ha : inR a := ⟨by omega, h1⟩
  have hb : inR b := ⟨by omega, h3⟩
  intro H lsA locs hP hD hS hL
  exact lv_irem E.1 E.2.1 hd (fun z => by have := (oi_eq hb (inR_of (by decide) (by decide))).mp (z.trans oi_0); omega) (by rw [oi_rem ha hb h0 h2]; exact kk H lsA locs hP hD hS hL)
theorem w_i2c (E : En cx y cc nL d uc us p R s m args meth c) {a : Int} (hd : decode cc pc = .ok (.i2c, 1)) (h0 : 0 ≤ a) (h1 : a < 65536) (kk : GW cx p l e R s m args below meth c Q (pc + 1) ls (.int (oi a) :: sk) ws k n) : GW cx p l e R s m args below meth c Q (pc) ls (.int (oi a) :: sk) ws k n := by
  intro H lsA locs hP hD hS hL
  refine lv_i2c E.1 E.2.1 hd ?_ (kk H lsA locs hP hD hS hL)
  rw [oi_natOf h0]
  exact oi_char (by omega)
theorem w_dup (E : En cx y cc nL d uc us p R s m args meth c) {v : Value} (hd : decode cc pc = .ok (.dup, 1)) (hv : v.category = 1) (kk : GW cx p l e R s m args below meth c Q (pc + 1) ls (v :: v :: sk) ws k n) : GW cx p l e R s m args below meth c Q (pc) ls (v :: sk) ws k n := by
  intro H lsA locs hP hD hS hL
  exact lv_dup E.1 E.2.1 hd hv (kk H lsA locs hP hD hS hL)
theorem w_pop (E : En cx y cc nL d uc us p R s m args meth c) {v : Value} (hd : decode cc pc = .ok (.pop, 1)) (hv : v.category = 1) (kk : GW cx p l e R s m args below meth c Q (pc + 1) ls (sk) ws k n) : GW cx p l e R s m args below meth c Q (pc) ls (v :: sk) ws k n := by
  intro H lsA locs hP hD hS hL
  exact lv_pop E.1 E.2.1 hd hv (kk H lsA locs hP hD hS hL)
theorem w_dup_x1 (E : En cx y cc nL d uc us p R s m args meth c) {v w : Value} (hd : decode cc pc = .ok (.dup_x1, 1)) (hv : v.category = 1) (hw : w.category = 1) (kk : GW cx p l e R s m args below meth c Q (pc + 1) ls (v :: w :: v :: sk) ws k n) : GW cx p l e R s m args below meth c Q (pc) ls (v :: w :: sk) ws k n := by
  intro H lsA locs hP hD hS hL
  exact lv_dup_x1 E.1 E.2.1 hd hv hw (kk H lsA locs hP hD hS hL)
theorem w_dup_x2 (E : En cx y cc nL d uc us p R s m args meth c) {v w x : Value} (hd : decode cc pc = .ok (.dup_x2, 1)) (hv : v.category = 1) (hw : w.category = 1) (hx : x.category = 1) (kk : GW cx p l e R s m args below meth c Q (pc + 1) ls (v :: w :: x :: v :: sk) ws k n) : GW cx p l e R s m args below meth c Q (pc) ls (v :: w :: x :: sk) ws k n := by
  intro H lsA locs hP hD hS hL
  exact lv_dup_x2 E.1 E.2.1 hd hv hw hx (kk H lsA locs hP hD hS hL)
theorem w_dup2 (E : En cx y cc nL d uc us p R s m args meth c) {v w : Value} (hd : decode cc pc = .ok (.dup2, 1)) (hv : v.category = 1) (hw : w.category = 1) (kk : GW cx p l e R s m args below meth c Q (pc + 1) ls (v :: w :: v :: w :: sk) ws k n) : GW cx p l e R s m args below meth c Q (pc) ls (v :: w :: sk) ws k n := by
  intro H lsA locs hP hD hS hL
  exact lv_dup2_11 E.1 E.2.1 hd hv hw (kk H lsA locs hP hD hS hL)
theorem w_goto (E : En cx y cc nL d uc us p R s m args meth c) {off : Int} {tgt : Nat} (hd : decode cc pc = .ok (.goto off, 3)) (ht : (pc : Int) + off = (tgt : Int)) (kk : GW cx p l e R s m args below meth c Q (tgt) ls (sk) ws k n) : GW cx p l e R s m args below meth c Q (pc) ls (sk) ws k n := by
  intro H lsA locs hP hD hS hL
  exact lv_goto E.1 E.2.1 hd ht (kk H lsA locs hP hD hS hL)
theorem w_if_eq (E : En cx y cc nL d uc us p R s m args meth c) {a : Int} {off : Int} {tgt : Nat} (hd : decode cc pc = .ok (.ifCond .eq off, 3)) (ht : (pc : Int) + off = (tgt : Int)) (kt : a = 0 → GW cx p l e R s m args below meth c Q (tgt) ls (sk) ws k n) (kf : ¬ a = 0 → GW cx p l e R s m args below meth c Q (pc + 3) ls (sk) ws k n) (ha : -2147483648 ≤ a := by omega) (ha2 : a ≤ 2147483647 := by omega) : GW cx p l e R s m args below meth c Q (pc) ls (.int (oi a) :: sk) ws k n := by
  have qa : inR a := ⟨ha, ha2⟩
  have qb : inR 0 := inR_of (by decide) (by decide)
  intro H lsA locs hP hD hS hL
  exact lv_if_eq E.1 E.2.1 hd ht (fun h => kt ((oi_eq qa qb).mp h) H lsA locs hP hD hS hL) (fun h => kf (fun z => h ((oi_eq qa qb).mpr z)) H lsA locs hP hD hS hL)
theorem w_if_ne (E : En cx y cc nL d uc us p R s m args meth c) {a : Int} {off : Int} {tgt : Nat} (hd : decode cc pc = .ok (.ifCond .ne off, 3)) (ht : (pc : Int) + off = (tgt : Int)) (kt : ¬ a = 0 → GW cx p l e R s m args below meth c Q (tgt) ls (sk) ws k n) (kf : a = 0 → GW cx p l e R s m args below meth c Q (pc + 3) ls (sk) ws k n) (ha : -2147483648 ≤ a := by omega) (ha2 : a ≤ 2147483647 := by omega) : GW cx p l e R s m args below meth c Q (pc) ls (.int (oi a) :: sk) ws k n := by
  have qa : inR a := ⟨ha, ha2⟩
  have qb : inR 0 := inR_of (by decide) (by decide)
  intro H lsA locs hP hD hS hL
  exact lv_if_ne E.1 E.2.1 hd ht (fun h => kt (fun z => h ((oi_eq qa qb).mpr z)) H lsA locs hP hD hS hL) (fun h => kf ((oi_eq qa qb).mp h) H lsA locs hP hD hS hL)
theorem w_if_lt (E : En cx y cc nL d uc us p R s m args meth c) {a : Int} {off : Int} {tgt : Nat} (hd : decode cc pc = .ok (.ifCond .lt off, 3)) (ht : (pc : Int) + off = (tgt : Int)) (kt : a < 0 → GW cx p l e R s m args below meth c Q (tgt) ls (sk) ws k n) (kf : ¬ a < 0 → GW cx p l e R s m args below meth c Q (pc + 3) ls (sk) ws k n) (ha : -2147483648 ≤ a := by omega) (ha2 : a ≤ 2147483647 := by omega) : GW cx p l e R s m args below meth c Q (pc) ls (.int (oi a) :: sk) ws k n := by
  have qa : inR a := ⟨ha, ha2⟩
  have qb : inR 0 := inR_of (by decide) (by decide)
  intro H lsA locs hP hD hS hL
  exact lv_if_lt E.1 E.2.1 hd ht (fun h => kt ((oi_lt qa qb).mp h) H lsA locs hP hD hS hL) (fun h => kf (fun z => h ((oi_lt qa qb).mpr z)) H lsA locs hP hD hS hL)
theorem w_if_ge (E : En cx y cc nL d uc us p R s m args meth c) {a : Int} {off : Int} {tgt : Nat} (hd : decode cc pc = .ok (.ifCond .ge off, 3)) (ht : (pc : Int) + off = (tgt : Int)) (kt : 0 ≤ a → GW cx p l e R s m args below meth c Q (tgt) ls (sk) ws k n) (kf : ¬ 0 ≤ a → GW cx p l e R s m args below meth c Q (pc + 3) ls (sk) ws k n) (ha : -2147483648 ≤ a := by omega) (ha2 : a ≤ 2147483647 := by omega) : GW cx p l e R s m args below meth c Q (pc) ls (.int (oi a) :: sk) ws k n := by
  have qa : inR a := ⟨ha, ha2⟩
  have qb : inR 0 := inR_of (by decide) (by decide)
  intro H lsA locs hP hD hS hL
  exact lv_if_ge E.1 E.2.1 hd ht (fun h => kt ((oi_le qb qa).mp h) H lsA locs hP hD hS hL) (fun h => kf (fun z => h ((oi_le qb qa).mpr z)) H lsA locs hP hD hS hL)
theorem w_if_gt (E : En cx y cc nL d uc us p R s m args meth c) {a : Int} {off : Int} {tgt : Nat} (hd : decode cc pc = .ok (.ifCond .gt off, 3)) (ht : (pc : Int) + off = (tgt : Int)) (kt : 0 < a → GW cx p l e R s m args below meth c Q (tgt) ls (sk) ws k n) (kf : ¬ 0 < a → GW cx p l e R s m args below meth c Q (pc + 3) ls (sk) ws k n) (ha : -2147483648 ≤ a := by omega) (ha2 : a ≤ 2147483647 := by omega) : GW cx p l e R s m args below meth c Q (pc) ls (.int (oi a) :: sk) ws k n := by
  have qa : inR a := ⟨ha, ha2⟩
  have qb : inR 0 := inR_of (by decide) (by decide)
  intro H lsA locs hP hD hS hL
  exact lv_if_gt E.1 E.2.1 hd ht (fun h => kt ((oi_lt qb qa).mp h) H lsA locs hP hD hS hL) (fun h => kf (fun z => h ((oi_lt qb qa).mpr z)) H lsA locs hP hD hS hL)
theorem w_if_le (E : En cx y cc nL d uc us p R s m args meth c) {a : Int} {off : Int} {tgt : Nat} (hd : decode cc pc = .ok (.ifCond .le off, 3)) (ht : (pc : Int) + off = (tgt : Int)) (kt : a ≤ 0 → GW cx p l e R s m args below meth c Q (tgt) ls (sk) ws k n) (kf : ¬ a ≤ 0 → GW cx p l e R s m args below meth c Q (pc + 3) ls (sk) ws k n) (ha : -2147483648 ≤ a := by omega) (ha2 : a ≤ 2147483647 := by omega) : GW cx p l e R s m args below meth c Q (pc) ls (.int (oi a) :: sk) ws k n := by
  have qa : inR a := ⟨ha, ha2⟩
  have qb : inR 0 := inR_of (by decide) (by decide)
  intro H lsA locs hP hD hS hL
  exact lv_if_le E.1 E.2.1 hd ht (fun h => kt ((oi_le qa qb).mp h) H lsA locs hP hD hS hL) (fun h => kf (fun z => h ((oi_le qa qb).mpr z)) H lsA locs hP hD hS hL)
theorem w_icmp_eq (E : En cx y cc nL d uc us p R s m args meth c) {a b : Int} {off : Int} {tgt : Nat} (hd : decode cc pc = .ok (.if_icmp .eq off, 3)) (ht : (pc : Int) + off = (tgt : Int)) (kt : a = b → GW cx p l e R s m args below meth c Q (tgt) ls (sk) ws k n) (kf : ¬ a = b → GW cx p l e R s m args below meth c Q (pc + 3) ls (sk) ws k n) (ha : -2147483648 ≤ a := by omega) (ha2 : a ≤ 2147483647 := by omega) (hb : -2147483648 ≤ b := by omega) (hb2 : b ≤ 2147483647 := by omega) : GW cx p l e R s m args below meth c Q (pc) ls (.int (oi b) :: .int (oi a) :: sk) ws k n := by
  have qa : inR a := ⟨ha, ha2⟩
  have qb : inR b := ⟨hb, hb2⟩
  intro H lsA locs hP hD hS hL
  exact lv_icmp_eq E.1 E.2.1 hd ht (fun h => kt ((oi_eq qa qb).mp h) H lsA locs hP hD hS hL) (fun h => kf (fun z => h ((oi_eq qa qb).mpr z)) H lsA locs hP hD hS hL)
theorem w_icmp_ne (E : En cx y cc nL d uc us p R s m args meth c) {a b : Int} {off : Int} {tgt : Nat} (hd : decode cc pc = .ok (.if_icmp .ne off, 3)) (ht : (pc : Int) + off = (tgt : Int)) (kt : ¬ a = b → GW cx p l e R s m args below meth c Q (tgt) ls (sk) ws k n) (kf : a = b → GW cx p l e R s m args below meth c Q (pc + 3) ls (sk) ws k n) (ha : -2147483648 ≤ a := by omega) (ha2 : a ≤ 2147483647 := by omega) (hb : -2147483648 ≤ b := by omega) (hb2 : b ≤ 2147483647 := by omega) : GW cx p l e R s m args below meth c Q (pc) ls (.int (oi b) :: .int (oi a) :: sk) ws k n := by
  have qa : inR a := ⟨ha, ha2⟩
  have qb : inR b := ⟨hb, hb2⟩
  intro H lsA locs hP hD hS hL
  exact lv_icmp_ne E.1 E.2.1 hd ht (fun h => kt (fun z => h ((oi_eq qa qb).mpr z)) H lsA locs hP hD hS hL) (fun h => kf ((oi_eq qa qb).mp h) H lsA locs hP hD hS hL)
theorem w_icmp_lt (E : En cx y cc nL d uc us p R s m args meth c) {a b : Int} {off : Int} {tgt : Nat} (hd : decode cc pc = .ok (.if_icmp .lt off, 3)) (ht : (pc : Int) + off = (tgt : Int)) (kt : a < b → GW cx p l e R s m args below meth c Q (tgt) ls (sk) ws k n) (kf : ¬ a < b → GW cx p l e R s m args below meth c Q (pc + 3) ls (sk) ws k n) (ha : -2147483648 ≤ a := by omega) (ha2 : a ≤ 2147483647 := by omega) (hb : -2147483648 ≤ b := by omega) (hb2 : b ≤ 2147483647 := by omega) : GW cx p l e R s m args below meth c Q (pc) ls (.int (oi b) :: .int (oi a) :: sk) ws k n := by
  have qa : inR a := ⟨ha, ha2⟩
  have qb : inR b := ⟨hb, hb2⟩
  intro H lsA locs hP hD hS hL
  exact lv_icmp_lt E.1 E.2.1 hd ht (fun h => kt ((oi_lt qa qb).mp h) H lsA locs hP hD hS hL) (fun h => kf (fun z => h ((oi_lt qa qb).mpr z)) H lsA locs hP hD hS hL)
theorem w_icmp_ge (E : En cx y cc nL d uc us p R s m args meth c) {a b : Int} {off : Int} {tgt : Nat} (hd : decode cc pc = .ok (.if_icmp .ge off, 3)) (ht : (pc : Int) + off = (tgt : Int)) (kt : b ≤ a → GW cx p l e R s m args below meth c Q (tgt) ls (sk) ws k n) (kf : ¬ b ≤ a → GW cx p l e R s m args below meth c Q (pc + 3) ls (sk) ws k n) (ha : -2147483648 ≤ a := by omega) (ha2 : a ≤ 2147483647 := by omega) (hb : -2147483648 ≤ b := by omega) (hb2 : b ≤ 2147483647 := by omega) : GW cx p l e R s m args below meth c Q (pc) ls (.int (oi b) :: .int (oi a) :: sk) ws k n := by
  have qa : inR a := ⟨ha, ha2⟩
  have qb : inR b := ⟨hb, hb2⟩
  intro H lsA locs hP hD hS hL
  exact lv_icmp_ge E.1 E.2.1 hd ht (fun h => kt ((oi_le qb qa).mp h) H lsA locs hP hD hS hL) (fun h => kf (fun z => h ((oi_le qb qa).mpr z)) H lsA locs hP hD hS hL)
theorem w_icmp_gt (E : En cx y cc nL d uc us p R s m args meth c) {a b : Int} {off : Int} {tgt : Nat} (hd : decode cc pc = .ok (.if_icmp .gt off, 3)) (ht : (pc : Int) + off = (tgt : Int)) (kt : b < a → GW cx p l e R s m args below meth c Q (tgt) ls (sk) ws k n) (kf : ¬ b < a → GW cx p l e R s m args below meth c Q (pc + 3) ls (sk) ws k n) (ha : -2147483648 ≤ a := by omega) (ha2 : a ≤ 2147483647 := by omega) (hb : -2147483648 ≤ b := by omega) (hb2 : b ≤ 2147483647 := by omega) : GW cx p l e R s m args below meth c Q (pc) ls (.int (oi b) :: .int (oi a) :: sk) ws k n := by
  have qa : inR a := ⟨ha, ha2⟩
  have qb : inR b := ⟨hb, hb2⟩
  intro H lsA locs hP hD hS hL
  exact lv_icmp_gt E.1 E.2.1 hd ht (fun h => kt ((oi_lt qb qa).mp h) H lsA locs hP hD hS hL) (fun h => kf (fun z => h ((oi_lt qb qa).mpr z)) H lsA locs hP hD hS hL)
theorem w_icmp_le (E : En cx y cc nL d uc us p R s m args meth c) {a b : Int} {off : Int} {tgt : Nat} (hd : decode cc pc = .ok (.if_icmp .le off, 3)) (ht : (pc : Int) + off = (tgt : Int)) (kt : a ≤ b → GW cx p l e R s m args below meth c Q (tgt) ls (sk) ws k n) (kf : ¬ a ≤ b → GW cx p l e R s m args below meth c Q (pc + 3) ls (sk) ws k n) (ha : -2147483648 ≤ a := by omega) (ha2 : a ≤ 2147483647 := by omega) (hb : -2147483648 ≤ b := by omega) (hb2 : b ≤ 2147483647 := by omega) : GW cx p l e R s m args below meth c Q (pc) ls (.int (oi b) :: .int (oi a) :: sk) ws k n := by
  have qa : inR a := ⟨ha, ha2⟩
  have qb : inR b := ⟨hb, hb2⟩
  intro H lsA locs hP hD hS hL
  exact lv_icmp_le E.1 E.2.1 hd ht (fun h => kt ((oi_le qa qb).mp h) H lsA locs hP hD hS hL) (fun h => kf (fun z => h ((oi_le qa qb).mpr z)) H lsA locs hP hD hS hL)
theorem w_ent {ls' : List (Option Value)} (h : ls = ls') (kk : GW cx p l e R s m args below meth c Q pc ls' sk ws k n) : GW cx p l e R s m args below meth c Q pc ls sk ws k n := h ▸ kk
theorem w_wk {ls' : List (Option Value)} (h : lsLe ls' ls) (kk : GW cx p l e R s m args below meth c Q pc ls' sk ws k n) : GW cx p l e R s m args below meth c Q pc ls sk ws k n := w_weak (lsLe_ok _ _ h).1 (lsLe_ok _ _ h).2 kk
theorem w_wk2 {ls' : List (Option Value)} (kk : GW cx p l e R s m args below meth c Q pc ls' sk ws k n) (h : lsLe ls' ls) : GW cx p l e R s m args below meth c Q pc ls sk ws k n := w_wk h kk
theorem w_top {a b : Int} (h : a = b) (kk : GW cx p l e R s m args below meth c Q pc ls (.int (oi b) :: sk) ws k n) : GW cx p l e R s m args below meth c Q pc ls (.int (oi a) :: sk) ws k n := h ▸ kk
theorem w_max {idx : Nat} {a b : Int} (E : En cx y cc nL d uc us p R s m args meth c) (hd : decode cc pc = .ok (.invokestatic idx, 3)) (hm : Cond.methodLink y.cls idx Lib.Math.max.name ∈ BIG) (hls : ls.length = nL) (hdp : 1 ≤ d) (hcat : (sk.map fun v => v.category).sum ≤ 8) (hr : k ≤ uc ∧ n ≤ us)
    (kk : GW cx p l e R s m args below meth c Q (pc + 3) ls (.int (oi (max a b)) :: sk) ws k n) (ha : -2147483648 ≤ a := by omega) (ha2 : a ≤ 2147483647 := by omega) (hb : -2147483648 ≤ b := by omega) (hb2 : b ≤ 2147483647 := by omega) : GW cx p l e R s m args below meth c Q pc ls (.int (oi b) :: .int (oi a) :: sk) ws k n := by
  intro H lsA locs hP hD hS hL
  have hts := E.2.2.2.2.1
  have := E.2.2.2.2.2.2.2.2.2.1
  have := E.2.2.2.2.2.2.2.2.2.2.1
  have := E.2.2.2.2.2.2.2.2.2.2.2.1
  have := E.2.2.2.2.2.2.2.2.2.2.2.2
  refine va_mmax E.1 E.2.1 (E.2.2.1.trans (hls.symm.trans hL.1.symm)) E.2.2.2.1 (hts _ hm) (hts _ (big_at 487 (by decide +kernel) (by decide +kernel))) (hts _ (big_at 73 (by decide +kernel) (by decide +kernel))) (hts _ math_code_max) (by omega) (by omega) (by omega) (by omega) hd ?_
  have e : (if oi a < oi b then oi b else oi a) = oi (max a b) := by
    by_cases h : a < b
    · rw [if_pos ((oi_lt ⟨ha, ha2⟩ ⟨hb, hb2⟩).mpr h), show max a b = b by omega]
    · rw [if_neg (fun z => h ((oi_lt ⟨ha, ha2⟩ ⟨hb, hb2⟩).mp z)), show max a b = a by omega]
  rw [e]
  exact kk H lsA locs hP hD hS hL
theorem w_min {idx : Nat} {a b : Int} (E : En cx y cc nL d uc us p R s m args meth c) (hd : decode cc pc = .ok (.invokestatic idx, 3)) (hm : Cond.methodLink y.cls idx Lib.Math.min.name ∈ BIG) (hls : ls.length = nL) (hdp : 1 ≤ d) (hcat : (sk.map fun v => v.category).sum ≤ 8) (hr : k ≤ uc ∧ n ≤ us)
    (kk : GW cx p l e R s m args below meth c Q (pc + 3) ls (.int (oi (min a b)) :: sk) ws k n) (ha : -2147483648 ≤ a := by omega) (ha2 : a ≤ 2147483647 := by omega) (hb : -2147483648 ≤ b := by omega) (hb2 : b ≤ 2147483647 := by omega) : GW cx p l e R s m args below meth c Q pc ls (.int (oi b) :: .int (oi a) :: sk) ws k n := by
  intro H lsA locs hP hD hS hL
  have hts := E.2.2.2.2.1
  have := E.2.2.2.2.2.2.2.2.2.1
  have := E.2.2.2.2.2.2.2.2.2.2.1
  have := E.2.2.2.2.2.2.2.2.2.2.2.1
  have := E.2.2.2.2.2.2.2.2.2.2.2.2
  refine va_mmin E.1 E.2.1 (E.2.2.1.trans (hls.symm.trans hL.1.symm)) E.2.2.2.1 (hts _ hm) (hts _ (big_at 403 (by decide +kernel) (by decide +kernel))) (hts _ (big_at 73 (by decide +kernel) (by decide +kernel))) (hts _ math_code_min) (by omega) (by omega) (by omega) (by omega) hd ?_
  have e : (if oi b < oi a then oi b else oi a) = oi (min a b) := by
    by_cases h : b < a
    · rw [if_pos ((oi_lt ⟨hb, hb2⟩ ⟨ha, ha2⟩).mpr h), show min a b = b by omega]
    · rw [if_neg (fun z => h ((oi_lt ⟨hb, hb2⟩ ⟨ha, ha2⟩).mp z)), show min a b = a by omega]
  rw [e]
  exact kk H lsA locs hP hD hS hL
theorem w_get {a i ci f idx : Nat} {ds : String} {fn : Bool} {fs : List Value} {v : Value} (E : En cx y cc nL d uc us p R s m args meth c) (hd : decode cc pc = .ok (.getfield idx, 3)) (hf : FLk y.cls idx ci f ds fn) (hi : ws[i]? = some (a, .inr (ci, fs))) (hv : fs[f]? = some v)
    (kk : GW cx p l e R s m args below meth c Q (pc + 3) ls (v :: sk) ws k n) : GW cx p l e R s m args below meth c Q pc ls (.ref a :: sk) ws k n := by
  intro H lsA locs hP hD hS hL
  obtain ⟨C, T, N, ty, ⟨hc, hw, hty, hnm⟩, hfN, hds, hfn, hlk⟩ := hf
  exact va_get E.1 E.2.1 E.2.2.2.2.1 hw E.2.2.2.1 E.2.2.2.2.2.1 hP i hi hc f hfN (E.2.2.2.2.1 _ hlk) (fun _ h => h) hv hd (kk H lsA locs hP hD hS hL)
theorem w_put {a i ci f idx : Nat} {ds : String} {tt : FieldType} {fs : List Value} {v : Value} {ws' : va_W} (E : En cx y cc nL d uc us p R s m args meth c) (hd : decode cc pc = .ok (.putfield idx, 3)) (hf : FLk y.cls idx ci f ds false) (hi : ws[i]? = some (a, .inr (ci, fs))) (hpd : parseFieldDescriptor ds = some tt) (hn : narrow tt v = v) (hfit : fits tt v = true) (hq : f < fs.length) (hw' : ws.set i (a, .inr (ci, fs.set f v)) = ws')
    (kk : GW cx p l e R s m args below meth c Q (pc + 3) ls sk ws' k n) : GW cx p l e R s m args below meth c Q pc ls (v :: .ref a :: sk) ws k n := by
  subst hw'
  intro H lsA locs hP hD hS hL
  obtain ⟨C, T, N, ty, ⟨hc, hw, hty, hnm⟩, hfN, hds, hfn, hlk⟩ := hf
  exact va_put (ty := tt) E.1 E.2.1 E.2.2.2.2.1 hw ty hty hnm E.2.2.2.1 E.2.2.2.2.2.1 hP hD hS i hi hc f hfN (E.2.2.2.2.1 _ hlk) (fun _ h => h) hfn (by rw [hds]; exact hpd) hn hfit hq hd (fun H1 locs1 hP1 hD1 hS1 => kk H1 lsA locs1 hP1 hD1 hS1 hL)
theorem w_alen {a i N : Nat} {f : Nat → Int32} {z : Int} (E : En cx y cc nL d uc us p R s m args meth c) (hd : decode cc pc = .ok (.arraylength, 1)) (hi : ws[i]? = some (a, .inl (cA cx 3, N, .inl f))) (hz : (N : Int) = z)
    (kk : GW cx p l e R s m args below meth c Q (pc + 1) ls (.int (oi z) :: sk) ws k n) : GW cx p l e R s m args below meth c Q pc ls (.ref a :: sk) ws k n := by
  subst hz
  intro H lsA locs hP hD hS hL
  exact va_alen E.1 E.2.1 E.2.2.2.2.2.1 hP i 3 hi rfl (oi_nat N).symm hd (kk H lsA locs hP hD hS hL)
theorem w_bald {a i N : Nat} {f : Nat → Int32} {x : Int} {v : Int32} (E : En cx y cc nL d uc us p R s m args meth c) (hd : decode cc pc = .ok (.baload, 1)) (hi : ws[i]? = some (a, .inl (cA cx 3, N, .inl f))) (h0 : 0 ≤ x) (h1 : x < N) (hN : N ≤ 1000) (hv : f x.toNat = v)
    (kk : GW cx p l e R s m args below meth c Q (pc + 1) ls (.int v :: sk) ws k n) : GW cx p l e R s m args below meth c Q pc ls (.int (oi x) :: .ref a :: sk) ws k n := by
  subst hv
  intro H lsA locs hP hD hS hL
  refine va_bald E.1 E.2.1 E.2.2.2.2.2.1 hP i 3 hi rfl (oi_in h0 h1 (by omega)) hd ?_
  rw [oi_clamp h0 (inR_of (by omega) (by omega))]
  exact kk H lsA locs hP hD hS hL
theorem w_bast {a i N : Nat} {f : Nat → Int32} {x : Int} {v : Int32} {ws' : va_W} (E : En cx y cc nL d uc us p R s m args meth c) (hd : decode cc pc = .ok (.bastore, 1)) (hi : ws[i]? = some (a, .inl (cA cx 3, N, .inl f))) (h0 : 0 ≤ x) (h1 : x < N) (hN : N ≤ 1000) (hw' : ws.set i (a, .inl (cA cx 3, N, .inl (upd f x.toNat (vp_nar .byte v)))) = ws')
    (kk : GW cx p l e R s m args below meth c Q (pc + 1) ls sk ws' k n) : GW cx p l e R s m args below meth c Q pc ls (.int v :: .int (oi x) :: .ref a :: sk) ws k n := by
  subst hw'
  intro H lsA locs hP hD hS hL
  refine va_bast E.1 E.2.1 E.2.2.2.2.2.1 hP hD hS i 3 hi rfl (oi_in h0 h1 (by omega)) hd (fun H1 locs1 hP1 hD1 hS1 => ?_)
  rw [oi_clamp h0 (inR_of (by omega) (by omega))] at hP1 hD1
  exact kk H1 lsA locs1 hP1 hD1 hS1 hL
theorem w_newb {z : Int} {N : Nat} (E : En cx y cc nL d uc us p R s m args meth c) (hd : decode cc pc = .ok (.newarray .byte, 2)) (hz : z = N) (hN : N ≤ 1000) (hr : k + 1 ≤ uc ∧ n + N ≤ us)
    (kk : ∀ q : Nat, GW cx p l e R s m args below meth c Q (pc + 2) ls (.ref q :: sk) (ws ++ [(q, .inl (cA cx 3, N, .inl (fun _ => 0)))]) (k + 1) (n + N)) : GW cx p l e R s m args below meth c Q pc ls (.int (oi z) :: sk) ws k n := by
  subst hz
  intro H lsA locs hP hD hS hL
  have h1 := E.2.2.2.2.2.2.2.2.2.2.2.1
  have h2 := E.2.2.2.2.2.2.2.2.2.2.2.2
  have hh := E.2.2.2.2.2.2.2.1
  refine va_newa (atype := .byte) (ty := .byte) (a0 := (N, .inl (fun _ => 0))) (N' := N) E.1 E.2.1 (E.2.2.2.2.1 _ (big_at 307 (by decide +kernel) (by decide +kernel))) rfl E.2.2.2.2.2.1 hP hD hS (fun q hq => Nat.le_trans hh hq) (fun cA => rfl) (by rw [oi_nat]; exact nI_pos (by omega)) (by rw [oi_nat]; exact nI_clamp (by omega)) (Nat.le_trans (Nat.mul_le_mul_right _ hN) (by decide)) (by omega) (by omega) hd (fun q cB H1 hK1 hP1 hD1 hS1 => ?_)
  have e : cB = cA cx 3 := by
    have g1 := (hK1.2 5 (cB, .byte) rfl).2
    have g2 := (E.2.2.2.2.2.1.2 3 (cA cx 3, .byte) rfl).2
    exact Option.some.inj (g1.symm.trans g2)
  subst e
  exact kk q H1 lsA locs hP1 hD1 hS1 hL
theorem w_copyb {idx i j a b q1 q2 w : Nat} {f g : Nat → Int32} {n0 : Int} {ws' : va_W} (E : En cx y cc nL d uc us p R s m args meth c) (hd : decode cc pc = .ok (.invokestatic idx, 3)) (hm : Cond.methodLink y.cls idx arraycopyName ∈ BIG) (hi : ws[i]? = some (a, .inl (cA cx 3, q1, .inl f))) (hj : ws[j]? = some (b, .inl (cA cx 3, q2, .inl g))) (h1 : w ≤ q1) (h2 : w ≤ q2) (hN : q1 ≤ 1000) (hn : n0 = w) (hfit : sb_Fit f) (hls : ls.length = nL) (hdp : 1 ≤ d) (hcat : (sk.map fun v => v.category).sum ≤ 8) (hw' : ws.set j (b, .inl (cA cx 3, q2, .inl (va_cpy f g 0 0 w))) = ws')
    (kk : GW cx p l e R s m args below meth c Q (pc + 3) ls sk ws' k n) : GW cx p l e R s m args below meth c Q pc ls (.int (oi n0) :: .int (oi 0) :: .ref b :: .int (oi 0) :: .ref a :: sk) ws k n := by
  subst hn; subst hw'
  intro H lsA locs hP hD hS hL
  have hts := E.2.2.2.2.1
  have e1 := E.2.2.2.2.2.2.2.2.2.1
  have e2 := E.2.2.2.2.2.2.2.2.2.2.1
  have hnf : nativeFrameWords "java/lang/System" "arraycopy" 5 ≤ 40 := by decide
  have c0 : (oi 0).toNatClampNeg = 0 := by decide
  have cw : (oi (w : Int)).toNatClampNeg = w := by rw [oi_nat]; exact nI_clamp (by omega)
  refine va_copyi (ty := .byte) E.1 E.2.1 (E.2.2.1.trans (hls.symm.trans hL.1.symm)) E.2.2.2.1 (hts _ hm) (hts _ (big_at 407 (by decide +kernel) (by decide +kernel))) (hts _ (big_at 406 (by decide +kernel) (by decide +kernel))) (hts _ (big_at 74 (by decide +kernel) (by decide +kernel))) E.2.2.2.2.2.1 hP hD hS i j 3 3 hi hj rfl rfl rfl (by decide) (by decide) (by rw [oi_nat]; exact nI_pos (by omega)) (by rw [c0, cw]; omega) (by rw [c0, cw]; omega) (fun x _ => hfit _) (by omega) (by omega) hd (fun H1 locs1 hP1 hD1 hS1 => ?_)
  rw [c0, cw] at hP1 hD1
  exact kk H1 lsA locs1 hP1 hD1 hS1 hL
theorem w_getsC {idx : Nat} (E : En cx y cc nL d uc us p R s m args meth c) (hd : decode cc pc = .ok (.getstatic idx, 3)) (hm : Cond.fieldLink y.cls idx "java/lang/String" "COMPACT_STRINGS" "Z" ∈ BIG)
    (kk : GW cx p l e R s m args below meth c Q (pc + 3) ls (.int (oi 1) :: sk) ws k n) : GW cx p l e R s m args below meth c Q pc ls sk ws k n := by
  intro H lsA locs hP hD hS hL
  exact va_gets E.1 E.2.1 E.2.2.2.2.2.2.1.2.2.1 hS E.2.2.2.1 (E.2.2.2.2.1 _ hm) (fun _ h => h) hd (kk H lsA locs hP hD hS hL)
theorem w_getsF {idx : Nat} (E : En cx y cc nL d uc us p R s m args meth c) (hd : decode cc pc = .ok (.getstatic idx, 3)) (hm : Cond.fieldLink y.cls idx "jdk/internal/util/Preconditions" "SIOOBE_FORMATTER" "Ljava/util/function/BiFunction;" ∈ BIG)
    (kk : ∀ v : Value, v.category = 1 → GW cx p l e R s m args below meth c Q (pc + 3) ls (v :: sk) ws k n) : GW cx p l e R s m args below meth c Q pc ls sk ws k n := by
  intro H lsA locs hP hD hS hL
  rcases E.2.2.2.2.2.2.1.2.2.2.2.2.1 with h | ⟨t, h⟩
  · exact va_gets E.1 E.2.1 h hS E.2.2.2.1 (E.2.2.2.2.1 _ hm) (fun _ h => h) hd (kk _ rfl H lsA locs hP hD hS hL)
  · exact va_gets E.1 E.2.1 h hS E.2.2.2.1 (E.2.2.2.2.1 _ hm) (fun _ h => h) hd (kk _ rfl H lsA locs hP hD hS hL)
/-- a table of digits is loaded, and one of its places -/
theorem w_dig1 {idx : Nat} (E : En cx y cc nL d uc us p R s m args meth c) (hd : decode cc pc = .ok (.getstatic idx, 3)) (hm : Cond.fieldLink y.cls idx "java/lang/Integer" "DigitOnes" "[B" ∈ BIG)
    (kk : ∀ t : Nat, va_T .byte t 100 (fun j => .int (nI (48 + j % 10))) (cA0 cx) s s.heap → GW cx p l e R s m args below meth c Q (pc + 3) ls (.ref t :: sk) ws k n) : GW cx p l e R s m args below meth c Q pc ls sk ws k n := by
  intro H lsA locs hP hD hS hL
  obtain ⟨t, h1, h2⟩ := E.2.2.2.2.2.2.1.2.2.2.1
  exact va_gets E.1 E.2.1 h1 hS E.2.2.2.1 (E.2.2.2.2.1 _ hm) (fun _ h => h) hd (kk t h2 H lsA locs hP hD hS hL)
theorem w_dig10 {idx : Nat} (E : En cx y cc nL d uc us p R s m args meth c) (hd : decode cc pc = .ok (.getstatic idx, 3)) (hm : Cond.fieldLink y.cls idx "java/lang/Integer" "DigitTens" "[B" ∈ BIG)
    (kk : ∀ t : Nat, va_T .byte t 100 (fun j => .int (nI (48 + j / 10))) (cA0 cx) s s.heap → GW cx p l e R s m args below meth c Q (pc + 3) ls (.ref t :: sk) ws k n) : GW cx p l e R s m args below meth c Q pc ls sk ws k n := by
  intro H lsA locs hP hD hS hL
  obtain ⟨t, h1, h2⟩ := E.2.2.2.2.2.2.1.2.2.2.2.1
  exact va_gets E.1 E.2.1 h1 hS E.2.2.2.1 (E.2.2.2.2.1 _ hm) (fun _ h => h) hd (kk t h2 H lsA locs hP hD hS hL)
theorem w_tb {t N : Nat} {f : Nat → Int32} {x : Int} {v : Int32} (E : En cx y cc nL d uc us p R s m args meth c) (hd : decode cc pc = .ok (.baload, 1)) (hT : va_T .byte t N (fun j => .int (f j)) (cA0 cx) s s.heap) (h0 : 0 ≤ x) (h1 : x < N) (hN : N ≤ 1000) (hv : f x.toNat = v)
    (kk : GW cx p l e R s m args below meth c Q (pc + 1) ls (.int v :: sk) ws k n) : GW cx p l e R s m args below meth c Q pc ls (.int (oi x) :: .ref t :: sk) ws k n := by
  intro H lsA locs hP hD hS hL
  exact va_tb E.1 E.2.1 hT hS (oi_in h0 h1 (by omega)) (by rw [oi_clamp h0 (inR_of (by omega) (by omega)), hv]) hd (kk H lsA locs hP hD hS hL)
theorem w_ishr0 {a : Int32} (E : En cx y cc nL d uc us p R s m args meth c) (hd : decode cc pc = .ok (.ishr, 1)) (kk : GW cx p l e R s m args below meth c Q (pc + 1) ls (.int a :: sk) ws k n) : GW cx p l e R s m args below meth c Q pc ls (.int (oi 0) :: .int a :: sk) ws k n := by
  intro H lsA locs hP hD hS hL
  refine lv_ishr E.1 E.2.1 hd ?_
  rw [show oi 0 = 0 from rfl, sb_shr0]
  exact kk H lsA locs hP hD hS hL
theorem w_ishl0 {a : Int32} (E : En cx y cc nL d uc us p R s m args meth c) (hd : decode cc pc = .ok (.ishl, 1)) (kk : GW cx p l e R s m args below meth c Q (pc + 1) ls (.int a :: sk) ws k n) : GW cx p l e R s m args below meth c Q pc ls (.int (oi 0) :: .int a :: sk) ws k n := by
  intro H lsA locs hP hD hS hL
  refine lv_ishl E.1 E.2.1 hd ?_
  rw [show oi 0 = 0 from rfl, sb_shl0]
  exact kk H lsA locs hP hD hS hL
theorem w_iandv {a b v : Int32} (E : En cx y cc nL d uc us p R s m args meth c) (hd : decode cc pc = .ok (.iand, 1)) (hv : a &&& b = v) (kk : GW cx p l e R s m args below meth c Q (pc + 1) ls (.int v :: sk) ws k n) : GW cx p l e R s m args below meth c Q pc ls (.int b :: .int a :: sk) ws k n := by
  subst hv
  intro H lsA locs hP hD hS hL
  exact lv_iand E.1 E.2.1 hd (kk H lsA locs hP hD hS hL)
theorem w_i2b {a v : Int32} (E : En cx y cc nL d uc us p R s m args meth c) (hd : decode cc pc = .ok (.i2b, 1)) (hv : a.toInt8.toInt32 = v) (kk : GW cx p l e R s m args below meth c Q (pc + 1) ls (.int v :: sk) ws k n) : GW cx p l e R s m args below meth c Q pc ls (.int a :: sk) ws k n := by
  intro H lsA locs hP hD hS hL
  exact lv_i2b E.1 E.2.1 hd hv (kk H lsA locs hP hD hS hL)
theorem w_ldc {idx : Nat} {z : Int} {v : Int32} (E : En cx y cc nL d uc us p R s m args meth c) (hd : decode cc pc = .ok (.ldc idx, 2)) (hm : Cond.constant y.cls idx v ∈ BIG) (hv : v = oi z) (kk : GW cx p l e R s m args below meth c Q (pc + 2) ls (.int (oi z) :: sk) ws k n) : GW cx p l e R s m args below meth c Q pc ls sk ws k n := by
  subst hv
  intro H lsA locs hP hD hS hL
  exact lv_ldc E.1 E.2.1 E.2.2.2.1 (E.2.2.2.2.1 _ hm) hd (kk H lsA locs hP hD hS hL)
theorem w_ws {ws' : va_W} (h : ws = ws') (kk : GW cx p l e R s m args below meth c Q pc ls sk ws' k n) : GW cx p l e R s m args below meth c Q pc ls sk ws k n := h ▸ kk
theorem w_topv {a b : Int32} (h : a = b) (kk : GW cx p l e R s m args below meth c Q pc ls (.int b :: sk) ws k n) : GW cx p l e R s m args below meth c Q pc ls (.int a :: sk) ws k n := h ▸ kk
theorem sel_priv {C : String} {y2 : MethodName} {nn : Nat} {s : State} {args : Array Value} (hy : y2.cls ≠ "java/lang/invoke/MethodHandle" ∧ y2.cls ≠ "java/lang/invoke/VarHandle") (hins : (Cond.instantiable C nn).before args s = true) (hsm : (Cond.sameMethod y2.cls y2.cls y2.name y2.desc).before args s = true) (hpriv : (Cond.privateMethod y2).before args s = true) (hinst : (Cond.instanceMethod y2).before args s = true) : (Cond.selects C y2 y2).before args s = true := by
  obtain ⟨c, k, hc, hk, -, hniab, -, -⟩ := Cond.instantiable_spec hins
  obtain ⟨mk, methM, hnamed, hmethM, -, -⟩ := Cond.instanceMethod_spec hinst
  have hfound : s.methodFound? y2.cls y2.name y2.desc = some mk := State.methodFound?_of_named hnamed hy
  obtain ⟨cn, ck, r1, hcn, hck, hni, hf, hn1⟩ := Cond.sameMethod_found hsm
  have hcls : mk.cls = cn := Option.some.inj ((findClass_of_methodNamed hnamed).symm.trans hcn)
  have hsel : selectMethod {} s.vm c mk = .method mk := selectMethod_private hmethM (Cond.privateMethod_at hpriv mk methM hnamed hmethM)
  simp only [Cond.before, Cond.holds, Cond.value, hc, hfound, hnamed, hsel, hcls, hck]
  simp
  exact hni
section two
variable {y2 : MethodName} {cc2 : ByteArray} {nL2 d2 uc2 us2 : Nat} {rt2 : Option FieldType} {As : List Value} {idx na : Nat}
theorem blindW {av : List Value} : FrameBlind (va_Pc av (RepW cx ws)) := fun a U g mk q => ⟨q.1, q.2.blind g mk a⟩
theorem goW_i {Post : Int → va_W → Prop} {H : Heap} {lsA : Array Slot} {locs : List Loc} {sk0 : List Value} {a : Array Value} (hS : va_S (cA0 cx) s.heap H locs) (hL : lvOK lsA ls)
    (hr : va_Run p l e R s m args below meth c H locs k n uc2 us2 (F0 m pc lsA sk0) sk (QIw cx Post a) (cA0 cx))
    (kk' : ∀ x ws', Post x ws' → GW cx p l e R s m args below meth c Q (pc + 3) ls (.int (oi x) :: sk) ws' (k + uc2) (n + us2)) : W p l e R s m args below meth c H locs k n Q (F0 m pc lsA sk0) := by
  refine va_calli hr hS (fun q _ h => h) (fun q h => h) (fun r u t H1 locs1 ht hvm hw hB hz1 hk1 hS1 => ?_)
  obtain ⟨rfl, hp⟩ := hw
  exact kk' u.1 u.2 hp H1 lsA locs1 (by rw [← ht]; exact hB.1) hB.2.1 hS1 hL
theorem goW_v {Post : va_W → Prop} {H : Heap} {lsA : Array Slot} {locs : List Loc} {sk0 : List Value} {a : Array Value} (hS : va_S (cA0 cx) s.heap H locs) (hL : lvOK lsA ls)
    (hr : va_Run p l e R s m args below meth c H locs k n uc2 us2 (F0 m pc lsA sk0) sk (QVw cx Post a) (cA0 cx))
    (kk' : ∀ ws', Post ws' → GW cx p l e R s m args below meth c Q (pc + 3) ls sk ws' (k + uc2) (n + us2)) : W p l e R s m args below meth c H locs k n Q (F0 m pc lsA sk0) := by
  refine va_callv hr hS (fun q _ h => h) (fun q h => h) (fun u t H1 locs1 ht hvm hw hB hz1 hk1 hS1 => ?_)
  exact kk' u hw H1 lsA locs1 (by rw [← ht]; exact hB.1) hB.2.1 hS1 hL
theorem goW_r {Post : Nat → va_W → Prop} {H : Heap} {lsA : Array Slot} {locs : List Loc} {sk0 : List Value} {a : Array Value} (hS : va_S (cA0 cx) s.heap H locs) (hL : lvOK lsA ls)
    (hr : va_Run p l e R s m args below meth c H locs k n uc2 us2 (F0 m pc lsA sk0) sk (QRw cx Post a) (cA0 cx))
    (kk' : ∀ x ws', Post x ws' → GW cx p l e R s m args below meth c Q (pc + 3) ls (.ref x :: sk) ws' (k + uc2) (n + us2)) : W p l e R s m args below meth c H locs k n Q (F0 m pc lsA sk0) := by
  refine va_callr hr hS (fun q _ h => h) (fun q h => h) (fun u ra t H1 locs1 ht hvm hw hB hz1 hk1 hS1 => ?_)
  obtain ⟨rfl, hB2⟩ := hB
  exact kk' u.1 u.2 hw H1 lsA locs1 (by rw [← ht]; exact hB2.1) hB2.2.1 hS1 hL
/-- the way a call goes: its run, for any end -/
theorem runW_V {a i ci : Nat} {fs : List Value} {q : vw_C} {Qc : Array Value → State → Outcome → State → Prop} {H : Heap} {lsA : Array Slot} {locs : List Loc} (E : En cx y cc nL d uc us p R s m args meth c) (hP : va_P cx.1 vwCl ws H) (hD : va_D (cA0 cx) ws) (hS : va_S (cA0 cx) s.heap H locs) (hL : lvOK lsA ls)
    (hd : decode cc pc = .ok (.invokevirtual idx, 3)) (hb : MLb y2 na) (hm : Cond.methodLink y.cls idx y2 ∈ BIG) (hin : Cond.instanceMethod y2 ∈ BIG) (hi : ws[i]? = some (a, .inr (ci, fs))) (hcl : vwCl[ci]? = some q) (hsel : (Cond.selects q.1 y2 y2).before args s = true)
    (hC : MtW cx y2 cc2 nL2 rt2 d2 uc2 us2 (.ref a :: As) ws Qc) (hn : As.length = na) (hdp : d2 < d) (hnl : nL2 ≤ 45) (hls : ls.length = nL) (hcat : (sk.map fun v => v.category).sum ≤ 8) (hr : k + uc2 ≤ uc ∧ n + us2 ≤ us) :
    va_Run p l e R s m args below meth c H locs k n uc2 us2 (F0 m pc lsA (As.reverse ++ .ref a :: sk)) sk (Qc (Value.ref a :: As).toArray) (cA0 cx) := by
  have hts := E.2.2.2.2.1
  exact va_runV (call_fix E) (hC.2 l) ⟨cb_of E hb hm hC.1 hdp hnl, hts _ hin, hsel⟩ ⟨blindW, va_recv E.2.2.2.2.2.1 hP hcl hi, fun U hU hW => ⟨rfl, repW_end E hP hD hS hU hW⟩⟩ rfl hn (hL.1.trans hls) rfl (lv_roomG hcat) hd (room_ok E hr)
theorem runW_S {Qc : Array Value → State → Outcome → State → Prop} {H : Heap} {lsA : Array Slot} {locs : List Loc} (E : En cx y cc nL d uc us p R s m args meth c) (hP : va_P cx.1 vwCl ws H) (hD : va_D (cA0 cx) ws) (hS : va_S (cA0 cx) s.heap H locs) (hL : lvOK lsA ls)
    (hd : decode cc pc = .ok (.invokestatic idx, 3)) (hm : MLs y.cls idx y2 na)
    (hC : MtW cx y2 cc2 nL2 rt2 d2 uc2 us2 As ws Qc) (hn : As.length = na) (hdp : d2 < d) (hnl : nL2 ≤ 45) (hls : ls.length = nL) (hcat : (sk.map fun v => v.category).sum ≤ 8) (hr : k + uc2 ≤ uc ∧ n + us2 ≤ us) :
    va_Run p l e R s m args below meth c H locs k n uc2 us2 (F0 m pc lsA (As.reverse ++ sk)) sk (Qc As.toArray) (cA0 cx) := by
  have hts := E.2.2.2.2.1
  exact va_runS (call_fix E) (hC.2 l) ⟨cb_of E hm.1 hm.2.1 hC.1 hdp hnl, hts _ hm.2.2⟩ ⟨blindW, fun U hU hW => ⟨rfl, repW_end E hP hD hS hU hW⟩⟩ rfl hn (hL.1.trans hls) rfl (lv_roomG hcat) hd (room_ok E hr)
def MLu (own : String) (idx : Nat) (y2 : MethodName) (na : Nat) : Prop := (y2.name ≠ "<init>" ∧ (parseMethodDescriptor y2.desc).map (fun d => d.parameters.length) = some na) ∧ ∀ w ∈ ([.methodLink own idx y2, .sameMethod y2.cls y2.cls y2.name y2.desc, .superclass own y2.cls, .instanceMethod y2, .initialized y2.cls] : List Cond), w ∈ BIG
theorem runW_U {a i ci : Nat} {fs : List Value} {q : vw_C} {cC : ClassId} {Qc : Array Value → State → Outcome → State → Prop} {H : Heap} {lsA : Array Slot} {locs : List Loc} (E : En cx y cc nL d uc us p R s m args meth c) (hP : va_P cx.1 vwCl ws H) (hD : va_D (cA0 cx) ws) (hS : va_S (cA0 cx) s.heap H locs) (hL : lvOK lsA ls)
    (hd : decode cc pc = .ok (.invokespecial idx, 3)) (hm : MLu y.cls idx y2 na) (hi : ws[i]? = some (a, .inr (ci, fs))) (hcl : vwCl[ci]? = some q) (hat : ClassAt s q.1 cC)
    (hC : MtW cx y2 cc2 nL2 rt2 d2 uc2 us2 (.ref a :: As) ws Qc) (hn : As.length = na) (hdp : d2 < d) (hnl : nL2 ≤ 45) (hls : ls.length = nL) (hcat : (sk.map fun v => v.category).sum ≤ 8) (hr : k + uc2 ≤ uc ∧ n + us2 ≤ us) :
    va_Run p l e R s m args below meth c H locs k n uc2 us2 (F0 m pc lsA (As.reverse ++ .ref a :: sk)) sk (Qc (Value.ref a :: As).toArray) (cA0 cx) := by
  have hts := E.2.2.2.2.1
  have e1 := E.2.2.2.2.2.2.2.2.2.1
  have e2 := E.2.2.2.2.2.2.2.2.2.2.1
  have hg : GoodIn BIG (va_wsSU y.cls idx y2 (.code y2 cc2 nL2 rt2 :: BIG)) := big_good _ (fun w hw => by
    unfold va_wsSU at hw
    rcases List.mem_append.mp hw with h | h
    · exact hm.2 w h
    · rcases List.mem_cons.mp h with rfl | h
      · exact hC.1
      · exact h)
  exact va_runSU hat (call_fix E) (hC.2 l) (va_cwSU na hts hg rfl rfl rfl hm.1 ⟨by show d2 + 1 ≤ R.frames; omega, by show 8 + (nL2 + 11) + 64 * d2 ≤ R.locals; omega⟩) ⟨blindW, va_recv E.2.2.2.2.2.1 hP hcl hi, fun U hU hW => ⟨rfl, repW_end E hP hD hS hU hW⟩⟩ rfl hn (hL.1.trans hls) rfl (lv_roomG hcat) hd (room_ok E hr)
end two
end GWI
