/-! the rows: an instruction, a row -/
section GR
variable {cx : Cx} {y : MethodName} {cc : ByteArray} {nL d uc us : Nat} {p : Program} {l : Launch} {e : Env} {R : Room} {s : State} {m : MethodId} {args : Array Value} {below : List Frame} {meth : Method} {c : Code} {Q : State → Prop}
variable {pc : Nat} {ls : List (Option Value)} {sk : List Value} {M : Mem} {k n : Nat}
theorem g_iconst (E : En cx y cc nL d uc us p R s m args meth c) {z : Int} (hd : decode cc pc = .ok (.iconst z, 1)) (hv : Int32.ofInt z = oi z) (kk : G cx p l e R s m args below meth c Q (pc + 1) ls (.int (oi z) :: sk) M k n) : G cx p l e R s m args below meth c Q (pc) ls (sk) M k n := by
  intro H lsA locs hI hS hL
  exact lv_iconst E.1 E.2.1 hd hv (kk H lsA locs hI hS hL)
theorem g_bipush (E : En cx y cc nL d uc us p R s m args meth c) {z : Int} (hd : decode cc pc = .ok (.bipush z, 2)) (hv : (Int8.ofInt z).toInt32 = oi z) (kk : G cx p l e R s m args below meth c Q (pc + 2) ls (.int (oi z) :: sk) M k n) : G cx p l e R s m args below meth c Q (pc) ls (sk) M k n := by
  intro H lsA locs hI hS hL
  exact lv_bipush E.1 E.2.1 hd hv (kk H lsA locs hI hS hL)
theorem g_sipush (E : En cx y cc nL d uc us p R s m args meth c) {z : Int} (hd : decode cc pc = .ok (.sipush z, 3)) (hv : (Int16.ofInt z).toInt32 = oi z) (kk : G cx p l e R s m args below meth c Q (pc + 3) ls (.int (oi z) :: sk) M k n) : G cx p l e R s m args below meth c Q (pc) ls (sk) M k n := by
  intro H lsA locs hI hS hL
  exact lv_sipush E.1 E.2.1 hd hv (kk H lsA locs hI hS hL)
theorem g_iload_n (E : En cx y cc nL d uc us p R s m args meth c) {j : Fin 4} {i : Nat} {x : Int} (hd : decode cc pc = .ok (.iload_n j, 1)) (hi : (j : Nat) = i) (hl : ls[i]? = some (some (.int (oi x)))) (kk : G cx p l e R s m args below meth c Q (pc + 1) ls (.int (oi x) :: sk) M k n) : G cx p l e R s m args below meth c Q (pc) ls (sk) M k n := by
  intro H lsA locs hI hS hL
  exact lv_iload_n E.1 E.2.1 hd hi (hL.2.2 _ _ hl).1 (kk H lsA locs hI hS hL)
theorem g_iload (E : En cx y cc nL d uc us p R s m args meth c) {i : Nat} {x : Int} (hd : decode cc pc = .ok (.iload i, 2)) (hl : ls[i]? = some (some (.int (oi x)))) (kk : G cx p l e R s m args below meth c Q (pc + 2) ls (.int (oi x) :: sk) M k n) : G cx p l e R s m args below meth c Q (pc) ls (sk) M k n := by
  intro H lsA locs hI hS hL
  exact lv_iload E.1 E.2.1 hd (hL.2.2 _ _ hl).1 (kk H lsA locs hI hS hL)
theorem g_aload_n (E : En cx y cc nL d uc us p R s m args meth c) {j : Fin 4} {i : Nat} {x : Nat} (hd : decode cc pc = .ok (.aload_n j, 1)) (hi : (j : Nat) = i) (hl : ls[i]? = some (some (.ref x))) (kk : G cx p l e R s m args below meth c Q (pc + 1) ls (.ref x :: sk) M k n) : G cx p l e R s m args below meth c Q (pc) ls (sk) M k n := by
  intro H lsA locs hI hS hL
  exact lv_aload_n E.1 E.2.1 hd hi (hL.2.2 _ _ hl).1 (kk H lsA locs hI hS hL)
theorem g_aload (E : En cx y cc nL d uc us p R s m args meth c) {i : Nat} {x : Nat} (hd : decode cc pc = .ok (.aload i, 2)) (hl : ls[i]? = some (some (.ref x))) (kk : G cx p l e R s m args below meth c Q (pc + 2) ls (.ref x :: sk) M k n) : G cx p l e R s m args below meth c Q (pc) ls (sk) M k n := by
  intro H lsA locs hI hS hL
  exact lv_aload E.1 E.2.1 hd (hL.2.2 _ _ hl).1 (kk H lsA locs hI hS hL)
/-- the listed locals -/
def lvL (ls : List (Option Value)) : List (Nat × Value) := (List.range ls.length).filterMap (fun i => (ls[i]?.join).map (fun v => (i, v)))
theorem lvL_mem {ls : List (Option Value)} {i : Nat} {v : Value} : (i, v) ∈ lvL ls ↔ ls[i]? = some (some v) := by
  unfold lvL
  rw [List.mem_filterMap]
  constructor
  · rintro ⟨j, -, hj⟩
    cases h : ls[j]? with
    | none => rw [h] at hj; cases hj
    | some o =>
      rw [h] at hj
      cases o with
      | none => cases hj
      | some w => cases hj; exact h
  · intro h
    refine ⟨i, List.mem_range.mpr (List.getElem?_eq_some_iff.mp h).1, ?_⟩
    rw [h]
    rfl
theorem lvL_has {lsA : Array Slot} {ls : List (Option Value)} (h : lvOK lsA ls) : lv_has lsA ls.length (lvL ls) := ⟨h.1, h.2.1, fun q hq => (h.2.2 q.1 q.2 (lvL_mem.mp hq)).1⟩
theorem lvL_set {lsA lsB : Array Slot} {ls : List (Option Value)} {i : Nat} {v : Value} (hL : lvOK lsA ls) (hi : i < ls.length) (hv : v.category = 1) (h : lv_has lsB ls.length ((i, v) :: (lvL ls).filter (fun q => !(q.1 == i) && !(q.1 + 1 == i && q.2.category == 2)))) : lvOK lsB (ls.set i (some v)) := by
  refine ⟨by rw [List.length_set]; exact h.1, h.2.1, fun j w hj => ?_⟩
  by_cases e : j = i
  · subst e
    rw [List.getElem?_set_self hi] at hj
    have e2 : v = w := Option.some.inj (Option.some.inj hj)
    subst e2
    exact ⟨h.2.2 (j, v) List.mem_cons_self, hv⟩
  · rw [List.getElem?_set_ne (Ne.symm e)] at hj
    have hw := (hL.2.2 j w hj).2
    refine ⟨h.2.2 (j, w) (List.mem_cons_of_mem _ (List.mem_filter.mpr ⟨lvL_mem.mpr hj, ?_⟩)), hw⟩
    simp [e, hw]
theorem g_istore_n (E : En cx y cc nL d uc us p R s m args meth c) {j : Fin 4} {i : Nat} {x : Int} {ls' : List (Option Value)} (hd : decode cc pc = .ok (.istore_n j, 1)) (hi : (j : Nat) = i) (hn : i < ls.length) (hl : ls.set i (some (.int (oi x))) = ls') (kk : G cx p l e R s m args below meth c Q (pc + 1) ls' (sk) M k n) : G cx p l e R s m args below meth c Q (pc) ls (.int (oi x) :: sk) M k n := by
  subst hl
  intro H lsA locs hI hS hL
  exact lv_istore_n E.1 E.2.1 hd hi (lvL_has hL) hn rfl (fun lsB hB => kk H lsB locs hI hS (lvL_set hL hn rfl hB))
theorem g_istore (E : En cx y cc nL d uc us p R s m args meth c) {i : Nat} {x : Int} {ls' : List (Option Value)} (hd : decode cc pc = .ok (.istore i, 2)) (hn : i < ls.length) (hl : ls.set i (some (.int (oi x))) = ls') (kk : G cx p l e R s m args below meth c Q (pc + 2) ls' (sk) M k n) : G cx p l e R s m args below meth c Q (pc) ls (.int (oi x) :: sk) M k n := by
  subst hl
  intro H lsA locs hI hS hL
  exact lv_istore E.1 E.2.1 hd (lvL_has hL) hn rfl (fun lsB hB => kk H lsB locs hI hS (lvL_set hL hn rfl hB))
theorem g_astore_n (E : En cx y cc nL d uc us p R s m args meth c) {j : Fin 4} {i : Nat} {x : Nat} {ls' : List (Option Value)} (hd : decode cc pc = .ok (.astore_n j, 1)) (hi : (j : Nat) = i) (hn : i < ls.length) (hl : ls.set i (some (.ref x)) = ls') (kk : G cx p l e R s m args below meth c Q (pc + 1) ls' (sk) M k n) : G cx p l e R s m args below meth c Q (pc) ls (.ref x :: sk) M k n := by
  subst hl
  intro H lsA locs hI hS hL
  exact lv_astore_n E.1 E.2.1 hd hi (lvL_has hL) hn rfl (fun lsB hB => kk H lsB locs hI hS (lvL_set hL hn rfl hB))
theorem g_astore (E : En cx y cc nL d uc us p R s m args meth c) {i : Nat} {x : Nat} {ls' : List (Option Value)} (hd : decode cc pc = .ok (.astore i, 2)) (hn : i < ls.length) (hl : ls.set i (some (.ref x)) = ls') (kk : G cx p l e R s m args below meth c Q (pc + 2) ls' (sk) M k n) : G cx p l e R s m args below meth c Q (pc) ls (.ref x :: sk) M k n := by
  subst hl
  intro H lsA locs hI hS hL
  exact lv_astore E.1 E.2.1 hd (lvL_has hL) hn rfl (fun lsB hB => kk H lsB locs hI hS (lvL_set hL hn rfl hB))
theorem g_iinc (E : En cx y cc nL d uc us p R s m args meth c) {i : Nat} {x z v : Int} {ls' : List (Option Value)} (hd : decode cc pc = .ok (.iinc i z, 3)) (hx : ls[i]? = some (some (.int (oi x)))) (hv : x + z = v) (hl : ls.set i (some (.int (oi v))) = ls') (kk : G cx p l e R s m args below meth c Q (pc + 3) ls' (sk) M k n) : G cx p l e R s m args below meth c Q (pc) ls (sk) M k n := by
  subst hl
  have hn := (List.getElem?_eq_some_iff.mp hx).1
  intro H lsA locs hI hS hL
  obtain ⟨j, hj⟩ := List.getElem?_of_mem (lvL_mem.mpr hx)
  exact lv_iinc E.1 E.2.1 hd (lvL_has hL) hj (by rw [← hv]; exact oi_add x z) hn rfl (fun lsB hB => kk H lsB locs hI hS (lvL_set hL hn rfl hB))
theorem g_iadd (E : En cx y cc nL d uc us p R s m args meth c) {a b : Int} (hd : decode cc pc = .ok (.iadd, 1)) (kk : G cx p l e R s m args below meth c Q (pc + 1) ls (.int (oi (a + b)) :: sk) M k n) : G cx p l e R s m args below meth c Q (pc) ls (.int (oi b) :: .int (oi a) :: sk) M k n := by
  intro H lsA locs hI hS hL
  exact lv_iadd E.1 E.2.1 hd (by rw [oi_add]; exact kk H lsA locs hI hS hL)
theorem g_isub (E : En cx y cc nL d uc us p R s m args meth c) {a b : Int} (hd : decode cc pc = .ok (.isub, 1)) (kk : G cx p l e R s m args below meth c Q (pc + 1) ls (.int (oi (a - b)) :: sk) M k n) : G cx p l e R s m args below meth c Q (pc) ls (.int (oi b) :: .int (oi a) :: sk) M k n := by
  intro H lsA locs hI hS hL
  exact lv_isub E.1 E.2.1 hd (by rw [oi_sub]; exact kk H lsA locs hI hS hL)
theorem g_imul (E : En cx y cc nL d uc us p R s m args meth c) {a b : Int} (hd : decode cc pc = .ok (.imul, 1)) (kk : G cx p l e R s m args below meth c Q (pc + 1) ls (.int (oi (a * b)) :: sk) M k n) : G cx p l e R s m args below meth c Q (pc) ls (.int (oi b) :: .int (oi a) :: sk) M k n := by
  intro H lsA locs hI hS hL
  exact lv_imul E.1 E.2.1 hd (by rw [oi_mul]; exact kk H lsA locs hI hS hL)
theorem g_ineg (E : En cx y cc nL d uc us p R s m args meth c) {a : Int} (hd : decode cc pc = .ok (.ineg, 1)) (kk : G cx p l e R s m args below meth c Q (pc + 1) ls (.int (oi (-a)) :: sk) M k n) : G cx p l e R s m args below meth c Q (pc) ls (.int (oi a) :: sk) M k n := by
  intro H lsA locs hI hS hL
  exact lv_ineg E.1 E.2.1 hd (by rw [oi_neg]; exact kk H lsA locs hI hS hL)
theorem g_idiv (E : En cx y cc nL d uc us p R s m args meth c) {a b : Int} (hd : decode cc pc = .ok (.idiv, 1)) (h0 : 0 ≤ a) (h1 : a ≤ 2147483647) (h2 : 0 < b) (h3 : b ≤ 2147483647) (kk : G cx p l e R s m args below meth c Q (pc + 1) ls (.int (oi (a / b)) :: sk) M k n) : G cx p l e R s m args below meth c Q (pc) ls (.int (oi b) :: .int (oi a) :: sk) M k n := by
  have ha : inR a := ⟨by omega, h1⟩
  have hb : inR b := ⟨by omega, h3⟩
  intro H lsA locs hI hS hL
  exact lv_idiv E.1 E.2.1 hd (fun z => by have := (oi_eq hb (inR_of (by decide) (by decide))).mp (z.trans oi_0); omega) (by rw [oi_div ha hb h0 h2]; exact kk H lsA locs hI hS hL)
theorem g_irem (E : En cx y cc nL d uc us p R s m args meth c) {a b : Int} (hd : decode cc pc = .ok (.irem, 1)) (h0 : 0 ≤ a) (h1 : a ≤ 2147483647) (h2 : 0 < b) (h3 : b ≤ 2147483647) (kk : G cx p l e R s m args below meth c Q (pc + 1) ls (.int (oi (a % b)) :: sk) M k n) : G cx p l e R s m args below meth c Q (pc) ls (.int (oi b) :: .int (oi a) :: sk) M k n := by
  have ha : inR a := ⟨by omega, h1⟩
  have hb : inR b := ⟨by omega, h3⟩
  intro H lsA locs hI hS hL
  exact lv_irem E.1 E.2.1 hd (fun z => by have := (oi_eq hb (inR_of (by decide) (by decide))).mp (z.trans oi_0); omega) (by rw [oi_rem ha hb h0 h2]; exact kk H lsA locs hI hS hL)
theorem g_i2c (E : En cx y cc nL d uc us p R s m args meth c) {a : Int} (hd : decode cc pc = .ok (.i2c, 1)) (h0 : 0 ≤ a) (h1 : a < 65536) (kk : G cx p l e R s m args below meth c Q (pc + 1) ls (.int (oi a) :: sk) M k n) : G cx p l e R s m args below meth c Q (pc) ls (.int (oi a) :: sk) M k n := by
  intro H lsA locs hI hS hL
  refine lv_i2c E.1 E.2.1 hd ?_ (kk H lsA locs hI hS hL)
  rw [oi_natOf h0]
  exact oi_char (by omega)
theorem g_dup (E : En cx y cc nL d uc us p R s m args meth c) {v : Value} (hd : decode cc pc = .ok (.dup, 1)) (hv : v.category = 1) (kk : G cx p l e R s m args below meth c Q (pc + 1) ls (v :: v :: sk) M k n) : G cx p l e R s m args below meth c Q (pc) ls (v :: sk) M k n := by
  intro H lsA locs hI hS hL
  exact lv_dup E.1 E.2.1 hd hv (kk H lsA locs hI hS hL)
theorem g_pop (E : En cx y cc nL d uc us p R s m args meth c) {v : Value} (hd : decode cc pc = .ok (.pop, 1)) (hv : v.category = 1) (kk : G cx p l e R s m args below meth c Q (pc + 1) ls (sk) M k n) : G cx p l e R s m args below meth c Q (pc) ls (v :: sk) M k n := by
  intro H lsA locs hI hS hL
  exact lv_pop E.1 E.2.1 hd hv (kk H lsA locs hI hS hL)
theorem g_dup_x1 (E : En cx y cc nL d uc us p R s m args meth c) {v w : Value} (hd : decode cc pc = .ok (.dup_x1, 1)) (hv : v.category = 1) (hw : w.category = 1) (kk : G cx p l e R s m args below meth c Q (pc + 1) ls (v :: w :: v :: sk) M k n) : G cx p l e R s m args below meth c Q (pc) ls (v :: w :: sk) M k n := by
  intro H lsA locs hI hS hL
  exact lv_dup_x1 E.1 E.2.1 hd hv hw (kk H lsA locs hI hS hL)
theorem g_dup_x2 (E : En cx y cc nL d uc us p R s m args meth c) {v w x : Value} (hd : decode cc pc = .ok (.dup_x2, 1)) (hv : v.category = 1) (hw : w.category = 1) (hx : x.category = 1) (kk : G cx p l e R s m args below meth c Q (pc + 1) ls (v :: w :: x :: v :: sk) M k n) : G cx p l e R s m args below meth c Q (pc) ls (v :: w :: x :: sk) M k n := by
  intro H lsA locs hI hS hL
  exact lv_dup_x2 E.1 E.2.1 hd hv hw hx (kk H lsA locs hI hS hL)
theorem g_dup2 (E : En cx y cc nL d uc us p R s m args meth c) {v w : Value} (hd : decode cc pc = .ok (.dup2, 1)) (hv : v.category = 1) (hw : w.category = 1) (kk : G cx p l e R s m args below meth c Q (pc + 1) ls (v :: w :: v :: w :: sk) M k n) : G cx p l e R s m args below meth c Q (pc) ls (v :: w :: sk) M k n := by
  intro H lsA locs hI hS hL
  exact lv_dup2_11 E.1 E.2.1 hd hv hw (kk H lsA locs hI hS hL)
theorem g_goto (E : En cx y cc nL d uc us p R s m args meth c) {off : Int} {tgt : Nat} (hd : decode cc pc = .ok (.goto off, 3)) (ht : (pc : Int) + off = (tgt : Int)) (kk : G cx p l e R s m args below meth c Q (tgt) ls (sk) M k n) : G cx p l e R s m args below meth c Q (pc) ls (sk) M k n := by
  intro H lsA locs hI hS hL
  exact lv_goto E.1 E.2.1 hd ht (kk H lsA locs hI hS hL)
theorem g_if_eq (E : En cx y cc nL d uc us p R s m args meth c) {a : Int} {off : Int} {tgt : Nat} (hd : decode cc pc = .ok (.ifCond .eq off, 3)) (ht : (pc : Int) + off = (tgt : Int)) (kt : a = 0 → G cx p l e R s m args below meth c Q (tgt) ls (sk) M k n) (kf : ¬ a = 0 → G cx p l e R s m args below meth c Q (pc + 3) ls (sk) M k n) (ha : -2147483648 ≤ a := by omega) (ha2 : a ≤ 2147483647 := by omega) : G cx p l e R s m args below meth c Q (pc) ls (.int (oi a) :: sk) M k n := by
  have qa : inR a := ⟨ha, ha2⟩
  have qb : inR 0 := inR_of (by decide) (by decide)
  intro H lsA locs hI hS hL
  exact lv_if_eq E.1 E.2.1 hd ht (fun h => kt ((oi_eq qa qb).mp h) H lsA locs hI hS hL) (fun h => kf (fun z => h ((oi_eq qa qb).mpr z)) H lsA locs hI hS hL)
theorem g_if_ne (E : En cx y cc nL d uc us p R s m args meth c) {a : Int} {off : Int} {tgt : Nat} (hd : decode cc pc = .ok (.ifCond .ne off, 3)) (ht : (pc : Int) + off = (tgt : Int)) (kt : ¬ a = 0 → G cx p l e R s m args below meth c Q (tgt) ls (sk) M k n) (kf : a = 0 → G cx p l e R s m args below meth c Q (pc + 3) ls (sk) M k n) (ha : -2147483648 ≤ a := by omega) (ha2 : a ≤ 2147483647 := by omega) : G cx p l e R s m args below meth c Q (pc) ls (.int (oi a) :: sk) M k n := by
  have qa : inR a := ⟨ha, ha2⟩
  have qb : inR 0 := inR_of (by decide) (by decide)
  intro H lsA locs hI hS hL
  exact lv_if_ne E.1 E.2.1 hd ht (fun h => kt (fun z => h ((oi_eq qa qb).mpr z)) H lsA locs hI hS hL) (fun h => kf ((oi_eq qa qb).mp h) H lsA locs hI hS hL)
theorem g_if_lt (E : En cx y cc nL d uc us p R s m args meth c) {a : Int} {off : Int} {tgt : Nat} (hd : decode cc pc = .ok (.ifCond .lt off, 3)) (ht : (pc : Int) + off = (tgt : Int)) (kt : a < 0 → G cx p l e R s m args below meth c Q (tgt) ls (sk) M k n) (kf : ¬ a < 0 → G cx p l e R s m args below meth c Q (pc + 3) ls (sk) M k n) (ha : -2147483648 ≤ a := by omega) (ha2 : a ≤ 2147483647 := by omega) : G cx p l e R s m args below meth c Q (pc) ls (.int (oi a) :: sk) M k n := by
  have qa : inR a := ⟨ha, ha2⟩
  have qb : inR 0 := inR_of (by decide) (by decide)
  intro H lsA locs hI hS hL
  exact lv_if_lt E.1 E.2.1 hd ht (fun h => kt ((oi_lt qa qb).mp h) H lsA locs hI hS hL) (fun h => kf (fun z => h ((oi_lt qa qb).mpr z)) H lsA locs hI hS hL)
theorem g_if_ge (E : En cx y cc nL d uc us p R s m args meth c) {a : Int} {off : Int} {tgt : Nat} (hd : decode cc pc = .ok (.ifCond .ge off, 3)) (ht : (pc : Int) + off = (tgt : Int)) (kt : 0 ≤ a → G cx p l e R s m args below meth c Q (tgt) ls (sk) M k n) (kf : ¬ 0 ≤ a → G cx p l e R s m args below meth c Q (pc + 3) ls (sk) M k n) (ha : -2147483648 ≤ a := by omega) (ha2 : a ≤ 2147483647 := by omega) : G cx p l e R s m args below meth c Q (pc) ls (.int (oi a) :: sk) M k n := by
  have qa : inR a := ⟨ha, ha2⟩
  have qb : inR 0 := inR_of (by decide) (by decide)
  intro H lsA locs hI hS hL
  exact lv_if_ge E.1 E.2.1 hd ht (fun h => kt ((oi_le qb qa).mp h) H lsA locs hI hS hL) (fun h => kf (fun z => h ((oi_le qb qa).mpr z)) H lsA locs hI hS hL)
theorem g_if_gt (E : En cx y cc nL d uc us p R s m args meth c) {a : Int} {off : Int} {tgt : Nat} (hd : decode cc pc = .ok (.ifCond .gt off, 3)) (ht : (pc : Int) + off = (tgt : Int)) (kt : 0 < a → G cx p l e R s m args below meth c Q (tgt) ls (sk) M k n) (kf : ¬ 0 < a → G cx p l e R s m args below meth c Q (pc + 3) ls (sk) M k n) (ha : -2147483648 ≤ a := by omega) (ha2 : a ≤ 2147483647 := by omega) : G cx p l e R s m args below meth c Q (pc) ls (.int (oi a) :: sk) M k n := by
  have qa : inR a := ⟨ha, ha2⟩
  have qb : inR 0 := inR_of (by decide) (by decide)
  intro H lsA locs hI hS hL
  exact lv_if_gt E.1 E.2.1 hd ht (fun h => kt ((oi_lt qb qa).mp h) H lsA locs hI hS hL) (fun h => kf (fun z => h ((oi_lt qb qa).mpr z)) H lsA locs hI hS hL)
theorem g_if_le (E : En cx y cc nL d uc us p R s m args meth c) {a : Int} {off : Int} {tgt : Nat} (hd : decode cc pc = .ok (.ifCond .le off, 3)) (ht : (pc : Int) + off = (tgt : Int)) (kt : a ≤ 0 → G cx p l e R s m args below meth c Q (tgt) ls (sk) M k n) (kf : ¬ a ≤ 0 → G cx p l e R s m args below meth c Q (pc + 3) ls (sk) M k n) (ha : -2147483648 ≤ a := by omega) (ha2 : a ≤ 2147483647 := by omega) : G cx p l e R s m args below meth c Q (pc) ls (.int (oi a) :: sk) M k n := by
  have qa : inR a := ⟨ha, ha2⟩
  have qb : inR 0 := inR_of (by decide) (by decide)
  intro H lsA locs hI hS hL
  exact lv_if_le E.1 E.2.1 hd ht (fun h => kt ((oi_le qa qb).mp h) H lsA locs hI hS hL) (fun h => kf (fun z => h ((oi_le qa qb).mpr z)) H lsA locs hI hS hL)
theorem g_icmp_eq (E : En cx y cc nL d uc us p R s m args meth c) {a b : Int} {off : Int} {tgt : Nat} (hd : decode cc pc = .ok (.if_icmp .eq off, 3)) (ht : (pc : Int) + off = (tgt : Int)) (kt : a = b → G cx p l e R s m args below meth c Q (tgt) ls (sk) M k n) (kf : ¬ a = b → G cx p l e R s m args below meth c Q (pc + 3) ls (sk) M k n) (ha : -2147483648 ≤ a := by omega) (ha2 : a ≤ 2147483647 := by omega) (hb : -2147483648 ≤ b := by omega) (hb2 : b ≤ 2147483647 := by omega) : G cx p l e R s m args below meth c Q (pc) ls (.int (oi b) :: .int (oi a) :: sk) M k n := by
  have qa : inR a := ⟨ha, ha2⟩
  have qb : inR b := ⟨hb, hb2⟩
  intro H lsA locs hI hS hL
  exact lv_icmp_eq E.1 E.2.1 hd ht (fun h => kt ((oi_eq qa qb).mp h) H lsA locs hI hS hL) (fun h => kf (fun z => h ((oi_eq qa qb).mpr z)) H lsA locs hI hS hL)
theorem g_icmp_ne (E : En cx y cc nL d uc us p R s m args meth c) {a b : Int} {off : Int} {tgt : Nat} (hd : decode cc pc = .ok (.if_icmp .ne off, 3)) (ht : (pc : Int) + off = (tgt : Int)) (kt : ¬ a = b → G cx p l e R s m args below meth c Q (tgt) ls (sk) M k n) (kf : a = b → G cx p l e R s m args below meth c Q (pc + 3) ls (sk) M k n) (ha : -2147483648 ≤ a := by omega) (ha2 : a ≤ 2147483647 := by omega) (hb : -2147483648 ≤ b := by omega) (hb2 : b ≤ 2147483647 := by omega) : G cx p l e R s m args below meth c Q (pc) ls (.int (oi b) :: .int (oi a) :: sk) M k n := by
  have qa : inR a := ⟨ha, ha2⟩
  have qb : inR b := ⟨hb, hb2⟩
  intro H lsA locs hI hS hL
  exact lv_icmp_ne E.1 E.2.1 hd ht (fun h => kt (fun z => h ((oi_eq qa qb).mpr z)) H lsA locs hI hS hL) (fun h => kf ((oi_eq qa qb).mp h) H lsA locs hI hS hL)
theorem g_icmp_lt (E : En cx y cc nL d uc us p R s m args meth c) {a b : Int} {off : Int} {tgt : Nat} (hd : decode cc pc = .ok (.if_icmp .lt off, 3)) (ht : (pc : Int) + off = (tgt : Int)) (kt : a < b → G cx p l e R s m args below meth c Q (tgt) ls (sk) M k n) (kf : ¬ a < b → G cx p l e R s m args below meth c Q (pc + 3) ls (sk) M k n) (ha : -2147483648 ≤ a := by omega) (ha2 : a ≤ 2147483647 := by omega) (hb : -2147483648 ≤ b := by omega) (hb2 : b ≤ 2147483647 := by omega) : G cx p l e R s m args below meth c Q (pc) ls (.int (oi b) :: .int (oi a) :: sk) M k n := by
  have qa : inR a := ⟨ha, ha2⟩
  have qb : inR b := ⟨hb, hb2⟩
  intro H lsA locs hI hS hL
  exact lv_icmp_lt E.1 E.2.1 hd ht (fun h => kt ((oi_lt qa qb).mp h) H lsA locs hI hS hL) (fun h => kf (fun z => h ((oi_lt qa qb).mpr z)) H lsA locs hI hS hL)
theorem g_icmp_ge (E : En cx y cc nL d uc us p R s m args meth c) {a b : Int} {off : Int} {tgt : Nat} (hd : decode cc pc = .ok (.if_icmp .ge off, 3)) (ht : (pc : Int) + off = (tgt : Int)) (kt : b ≤ a → G cx p l e R s m args below meth c Q (tgt) ls (sk) M k n) (kf : ¬ b ≤ a → G cx p l e R s m args below meth c Q (pc + 3) ls (sk) M k n) (ha : -2147483648 ≤ a := by omega) (ha2 : a ≤ 2147483647 := by omega) (hb : -2147483648 ≤ b := by omega) (hb2 : b ≤ 2147483647 := by omega) : G cx p l e R s m args below meth c Q (pc) ls (.int (oi b) :: .int (oi a) :: sk) M k n := by
  have qa : inR a := ⟨ha, ha2⟩
  have qb : inR b := ⟨hb, hb2⟩
  intro H lsA locs hI hS hL
  exact lv_icmp_ge E.1 E.2.1 hd ht (fun h => kt ((oi_le qb qa).mp h) H lsA locs hI hS hL) (fun h => kf (fun z => h ((oi_le qb qa).mpr z)) H lsA locs hI hS hL)
theorem g_icmp_gt (E : En cx y cc nL d uc us p R s m args meth c) {a b : Int} {off : Int} {tgt : Nat} (hd : decode cc pc = .ok (.if_icmp .gt off, 3)) (ht : (pc : Int) + off = (tgt : Int)) (kt : b < a → G cx p l e R s m args below meth c Q (tgt) ls (sk) M k n) (kf : ¬ b < a → G cx p l e R s m args below meth c Q (pc + 3) ls (sk) M k n) (ha : -2147483648 ≤ a := by omega) (ha2 : a ≤ 2147483647 := by omega) (hb : -2147483648 ≤ b := by omega) (hb2 : b ≤ 2147483647 := by omega) : G cx p l e R s m args below meth c Q (pc) ls (.int (oi b) :: .int (oi a) :: sk) M k n := by
  have qa : inR a := ⟨ha, ha2⟩
  have qb : inR b := ⟨hb, hb2⟩
  intro H lsA locs hI hS hL
  exact lv_icmp_gt E.1 E.2.1 hd ht (fun h => kt ((oi_lt qb qa).mp h) H lsA locs hI hS hL) (fun h => kf (fun z => h ((oi_lt qb qa).mpr z)) H lsA locs hI hS hL)
theorem g_icmp_le (E : En cx y cc nL d uc us p R s m args meth c) {a b : Int} {off : Int} {tgt : Nat} (hd : decode cc pc = .ok (.if_icmp .le off, 3)) (ht : (pc : Int) + off = (tgt : Int)) (kt : a ≤ b → G cx p l e R s m args below meth c Q (tgt) ls (sk) M k n) (kf : ¬ a ≤ b → G cx p l e R s m args below meth c Q (pc + 3) ls (sk) M k n) (ha : -2147483648 ≤ a := by omega) (ha2 : a ≤ 2147483647 := by omega) (hb : -2147483648 ≤ b := by omega) (hb2 : b ≤ 2147483647 := by omega) : G cx p l e R s m args below meth c Q (pc) ls (.int (oi b) :: .int (oi a) :: sk) M k n := by
  have qa : inR a := ⟨ha, ha2⟩
  have qb : inR b := ⟨hb, hb2⟩
  intro H lsA locs hI hS hL
  exact lv_icmp_le E.1 E.2.1 hd ht (fun h => kt ((oi_le qa qb).mp h) H lsA locs hI hS hL) (fun h => kf (fun z => h ((oi_le qa qb).mpr z)) H lsA locs hI hS hL)
end GR
