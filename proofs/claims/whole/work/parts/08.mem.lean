/-! the rows of fields, arrays, statics and switches -/
def ClF (ci : Nat) (C : String) (T : u_T) (N : Nat) (ty : Nat → FieldType) : Prop := vwCl[ci]? = some (C, T, N) ∧ (∀ w ∈ u_ws C T N, w ∈ BIG) ∧ (∀ k, k < N → parseFieldDescriptor (T k).2.2.1 = some (ty k)) ∧ ∀ a, a < N → ∀ b, b < N → a ≠ b → (T a).2.1 ≠ (T b).2.1
/-- class own's pool entry idx is field k of class ci of the worlds *-/
def FLk (own : String) (idx ci k : Nat) (ds : String) (fin : Bool) : Prop := ∃ (C : String) (T : u_T) (N : Nat) (ty : Nat → FieldType), ClF ci C T N ty ∧ k < N ∧ (T k).2.2.1 = ds ∧ (T k).2.2.2 = fin ∧ Cond.fieldLink own idx (T k).1 (T k).2.1 (T k).2.2.1 ∈ BIG
theorem kk_ne {i t q : Nat} (h : kk i = (t + 11, q)) : i ≠ 177 ∧ i ≠ 182 := by
  constructor
  · rintro rfl
    have e : kk 177 = (10, 4) := rfl
    rw [e] at h
    have := congrArg Prod.fst h
    simp only at this
    omega
  · rintro rfl
    have e : kk 182 = (10, 4) := rfl
    rw [e] at h
    have := congrArg Prod.fst h
    simp only at this
    omega
theorem kk_ne2 {i t q : Nat} (h : kk i = (t, q)) (ht : t < 10) : i ≠ 177 ∧ i ≠ 182 := by
  constructor
  · rintro rfl
    have e : kk 177 = (10, 4) := rfl
    rw [e] at h
    have := congrArg Prod.fst h
    simp only at this
    omega
  · rintro rfl
    have e : kk 182 = (10, 4) := rfl
    rw [e] at h
    have := congrArg Prod.fst h
    simp only at this
    omega
theorem flds_set {cx : Cx} {i t n k : Nat} {r : Int → Int} {v : Int} (hk : k < n) (hI : isI t k = true) : ((List.range n).map (fld cx i t r)).set k (.int (oi v)) = (List.range n).map (fld cx i t (fun y => if y = (k : Int) then v else r y)) := by
  apply List.ext_getElem?
  intro j
  by_cases hj : j = k
  · subst hj
    rw [List.getElem?_set_self (by simpa using hk), List.getElem?_map, List.getElem?_range hk]
    simp [fld, hI]
  · rw [List.getElem?_set_ne (Ne.symm hj), List.getElem?_map, List.getElem?_map]
    by_cases h2 : j < n
    · rw [List.getElem?_range h2]
      have : ¬ (j : Int) = (k : Int) := by omega
      simp [fld, this]
    · rw [List.getElem?_eq_none (by simpa using h2)]
      rfl
theorem flds_get {cx : Cx} {i t n k : Nat} {r : Int → Int} (hk : k < n) : ((List.range n).map (fld cx i t r))[k]? = some (fld cx i t r k) := by
  rw [List.getElem?_map, List.getElem?_range hk]
  rfl
theorem row_upd {r : Int → Int} {x v : Int} (h : 0 ≤ x) : upd (fun j : Nat => oi (r j)) x.toNat (oi v) = fun j : Nat => oi (if (j : Int) = x then v else r j) := by
  funext j
  unfold upd
  by_cases hj : j = x.toNat
  · rw [if_pos hj, if_pos (by omega)]
  · rw [if_neg hj, if_neg (by omega)]
theorem nar_z {v : Int} (h : v = 0 ∨ v = 1) : vp_nar .boolean (oi v) = oi v := by
  rcases h with rfl | rfl <;> rfl
theorem nar_c {v : Int} (h0 : 0 ≤ v) (h1 : v < 65536) : vp_nar .char (oi v) = oi v := by
  rw [vp_nar_char, oi_natOf h0]
  have e : (nI v.toNat).toUInt32 = UInt32.ofNat v.toNat := rfl
  rw [e]
  have e2 : (UInt32.ofNat v.toNat).toUInt16.toUInt32 = UInt32.ofNat v.toNat := by
    apply UInt32.toNat_inj.mp
    rw [UInt16.toNat_toUInt32, UInt32.toNat_toUInt16, UInt32.toNat_ofNat_of_lt' (by show v.toNat < 4294967296; omega)]
    show v.toNat % 65536 = v.toNat
    omega
  rw [e2]
  rfl
section GM
variable {cx : Cx} {y : MethodName} {cc : ByteArray} {nL d uc us : Nat} {p : Program} {l : Launch} {e : Env} {R : Room} {s : State} {m : MethodId} {args : Array Value} {below : List Frame} {meth : Method} {c : Code} {Q : State → Prop}
variable {pc : Nat} {ls : List (Option Value)} {sk : List Value} {M : Mem} {k n : Nat}
theorem g_geti {i t q f idx : Nat} {fz v : Int} {ds : String} {fn : Bool} (E : En cx y cc nL d uc us p R s m args meth c) (hd : decode cc pc = .ok (.getfield idx, 3)) (hf : FLk y.cls idx (t + 1) f ds fn) (hk : kk i = (t + 11, q)) (hi : i < 198) (hq : f < q) (hI : isI (t + 11) f = true) (hz : ((f : Nat) : Int) = fz) (hv : M i fz = v)
    (kk' : -2147483648 ≤ v → v ≤ 2147483647 → G cx p l e R s m args below meth c Q (pc + 3) ls (.int (oi v) :: sk) M k n) : G cx p l e R s m args below meth c Q pc ls (rf cx i :: sk) M k n := by
  subst hz; subst hv
  intro H lsA locs hIn hS hL
  have hIn0 := hIn
  obtain ⟨hid, hP, hD, hM⟩ := hIn
  obtain ⟨C, T, N, ty, ⟨hc, hw, hty, hnm⟩, hfN, hds, hfn, hlk⟩ := hf
  have he := wl_get (cx := cx) (M := M) (hid := hid) hi
  rw [ent_o hk] at he
  refine va_get E.1 E.2.1 E.2.2.2.2.1 hw E.2.2.2.1 E.2.2.2.2.2.1 hP i he hc f hfN (E.2.2.2.2.1 _ hlk) (fun _ h => h) (v := .int (oi (M i f))) ?_ hd (kk' (hM.1 i f).1 (hM.1 i f).2 H lsA locs hIn0 hS hL)
  rw [flds_get hq]
  simp [fld, hI]
theorem g_getr {i t q f idx j : Nat} {ds : String} {fn : Bool} (E : En cx y cc nL d uc us p R s m args meth c) (hd : decode cc pc = .ok (.getfield idx, 3)) (hf : FLk y.cls idx (t + 1) f ds fn) (hk : kk i = (t + 11, q)) (hi : i < 198) (hq : f < q) (hI : isI (t + 11) f = false) (hr : rr i f = j)
    (kk' : G cx p l e R s m args below meth c Q (pc + 3) ls (rf cx j :: sk) M k n) : G cx p l e R s m args below meth c Q pc ls (rf cx i :: sk) M k n := by
  subst hr
  intro H lsA locs hIn hS hL
  have hIn0 := hIn
  obtain ⟨hid, hP, hD, hM⟩ := hIn
  obtain ⟨C, T, N, ty, ⟨hc, hw, hty, hnm⟩, hfN, hds, hfn, hlk⟩ := hf
  have he := wl_get (cx := cx) (M := M) (hid := hid) hi
  rw [ent_o hk] at he
  refine va_get E.1 E.2.1 E.2.2.2.2.1 hw E.2.2.2.1 E.2.2.2.2.2.1 hP i he hc f hfN (E.2.2.2.2.1 _ hlk) (fun _ h => h) (v := rf cx (rr i f)) ?_ hd (kk' H lsA locs hIn0 hS hL)
  rw [flds_get hq]
  simp [fld, hI]
theorem g_putx {i t q f idx : Nat} {v : Int} {ds : String} {tt : FieldType} (E : En cx y cc nL d uc us p R s m args meth c) (hd : decode cc pc = .ok (.putfield idx, 3)) (hf : FLk y.cls idx (t + 1) f ds false) (hk : kk i = (t + 11, q)) (hi : i < 198) (hq : f < q) (hI : isI (t + 11) f = true) (hpd : parseFieldDescriptor ds = some tt) (hn : narrow tt (.int (oi v)) = .int (oi v)) (hfit : fits tt (.int (oi v)) = true) (hv : inR v)
    (kk' : G cx p l e R s m args below meth c Q (pc + 3) ls sk (st M i f v) k n) : G cx p l e R s m args below meth c Q pc ls (.int (oi v) :: rf cx i :: sk) M k n := by
  intro H lsA locs hIn hS hL
  obtain ⟨hid, hP, hD, hM⟩ := hIn
  obtain ⟨C, T, N, ty, ⟨hc, hw, hty, hnm⟩, hfN, hds, hfn, hlk⟩ := hf
  have he := wl_get (cx := cx) (M := M) (hid := hid) hi
  rw [ent_o hk] at he
  refine va_put (ty := tt) E.1 E.2.1 E.2.2.2.2.1 hw ty hty hnm E.2.2.2.1 E.2.2.2.2.2.1 hP hD hS i he hc f hfN (E.2.2.2.2.1 _ hlk) (fun _ h => h) hfn (by rw [hds]; exact hpd) hn hfit (by simpa using hq) hd (fun H1 locs1 hP1 hD1 hS1 => ?_)
  have hw2 := wl_set (cx := cx) (M := M) (M' := st M i f v) (hid := hid) hi (fun j hj => st_ne hj) (e := .inr (t + 1, ((List.range q).map (fld cx i (t + 11) (M i))).set f (.int (oi v)))) (by rw [ent_o hk, st_row, flds_set hq hI])
  rw [hw2] at hP1 hD1
  exact kk' H1 lsA locs1 ⟨hid, hP1, hD1, hM.st (kk_ne hk).1 (kk_ne hk).2 hv⟩ hS1 hL
theorem g_puti {i t q f idx : Nat} {v fz : Int} (E : En cx y cc nL d uc us p R s m args meth c) (hd : decode cc pc = .ok (.putfield idx, 3)) (hf : FLk y.cls idx (t + 1) f "I" false) (hk : kk i = (t + 11, q)) (hi : i < 198) (hq : f < q) (hI : isI (t + 11) f = true) (hz : ((f : Nat) : Int) = fz)
    (kk' : G cx p l e R s m args below meth c Q (pc + 3) ls sk (st M i fz v) k n) (hv1 : -2147483648 ≤ v := by omega) (hv2 : v ≤ 2147483647 := by omega) : G cx p l e R s m args below meth c Q pc ls (.int (oi v) :: rf cx i :: sk) M k n := by
  subst hz
  exact g_putx E hd hf hk hi hq hI (tt := .int) (by decide +kernel) rfl rfl ⟨hv1, hv2⟩ kk'
theorem g_putz {i t q f idx : Nat} {v fz : Int} (E : En cx y cc nL d uc us p R s m args meth c) (hd : decode cc pc = .ok (.putfield idx, 3)) (hf : FLk y.cls idx (t + 1) f "Z" false) (hk : kk i = (t + 11, q)) (hi : i < 198) (hq : f < q) (hI : isI (t + 11) f = true) (hz : ((f : Nat) : Int) = fz) (hv : v = 0 ∨ v = 1)
    (kk' : G cx p l e R s m args below meth c Q (pc + 3) ls sk (st M i fz v) k n) : G cx p l e R s m args below meth c Q pc ls (.int (oi v) :: rf cx i :: sk) M k n := by
  subst hz
  exact g_putx E hd hf hk hi hq hI (tt := .boolean) (by decide +kernel) (by rcases hv with rfl | rfl <;> rfl) (by rcases hv with rfl | rfl <;> rfl) (inR_of (by omega) (by omega)) kk'
theorem kk_lt {i t q : Nat} (h : kk i = (t, q)) (ht : t ≠ 99) : i < 198 := by
  rcases Nat.lt_or_ge i 198 with h1 | h1
  · exact h1
  · exfalso
    unfold kk at h
    rw [if_neg (by omega), if_pos h1] at h
    exact ht (congrArg Prod.fst h).symm
theorem kk_all : ∀ i, i < 198 → (kk i).2 < 65536 := by decide +kernel
theorem kk_small {i t q : Nat} (h : kk i = (t, q)) (ht : t < 10) : q < 65536 := by
  have := kk_all i (kk_lt h (by omega))
  rw [h] at this
  exact this
theorem g_iald {i q : Nat} {x v : Int} (E : En cx y cc nL d uc us p R s m args meth c) (hd : decode cc pc = .ok (.iaload, 1)) (hk : kk i = (0, q)) (h0 : 0 ≤ x) (h1 : x < q) (hv : M i x = v)
    (kk' : -2147483648 ≤ v → v ≤ 2147483647 → G cx p l e R s m args below meth c Q (pc + 1) ls (.int (oi v) :: sk) M k n) : G cx p l e R s m args below meth c Q pc ls (.int (oi x) :: rf cx i :: sk) M k n := by
  subst hv
  have hq := kk_small hk (by decide)
  intro H lsA locs hIn hS hL
  have hIn0 := hIn
  obtain ⟨hid, hP, hD, hM⟩ := hIn
  have he := wl_get (cx := cx) (M := M) (hid := hid) (kk_lt hk (by decide))
  rw [ent_i hk] at he
  refine va_iald E.1 E.2.1 E.2.2.2.2.2.1 hP i 0 he rfl (oi_in h0 h1 (by omega)) hd ?_
  have e1 : (oi x).toNatClampNeg = x.toNat := oi_clamp h0 (inR_of (by omega) (by omega))
  have e2 : ((x.toNat : Nat) : Int) = x := Int.toNat_of_nonneg h0
  rw [e1, e2]
  exact kk' (hM.1 i x).1 (hM.1 i x).2 H lsA locs hIn0 hS hL
theorem g_zald {i q : Nat} {x v : Int} (E : En cx y cc nL d uc us p R s m args meth c) (hd : decode cc pc = .ok (.baload, 1)) (hk : kk i = (1, q)) (h0 : 0 ≤ x) (h1 : x < q) (hv : M i x = v)
    (kk' : -2147483648 ≤ v → v ≤ 2147483647 → G cx p l e R s m args below meth c Q (pc + 1) ls (.int (oi v) :: sk) M k n) : G cx p l e R s m args below meth c Q pc ls (.int (oi x) :: rf cx i :: sk) M k n := by
  subst hv
  have hq := kk_small hk (by decide)
  intro H lsA locs hIn hS hL
  have hIn0 := hIn
  obtain ⟨hid, hP, hD, hM⟩ := hIn
  have he := wl_get (cx := cx) (M := M) (hid := hid) (kk_lt hk (by decide))
  rw [ent_z hk] at he
  refine va_zald E.1 E.2.1 E.2.2.2.2.2.1 hP i 1 he rfl (oi_in h0 h1 (by omega)) hd ?_
  have e1 : (oi x).toNatClampNeg = x.toNat := oi_clamp h0 (inR_of (by omega) (by omega))
  have e2 : ((x.toNat : Nat) : Int) = x := Int.toNat_of_nonneg h0
  rw [e1, e2]
  exact kk' (hM.1 i x).1 (hM.1 i x).2 H lsA locs hIn0 hS hL
theorem g_cald {i q : Nat} {x v : Int} (E : En cx y cc nL d uc us p R s m args meth c) (hd : decode cc pc = .ok (.caload, 1)) (hk : kk i = (2, q)) (h0 : 0 ≤ x) (h1 : x < q) (hv : M i x = v)
    (kk' : -2147483648 ≤ v → v ≤ 2147483647 → G cx p l e R s m args below meth c Q (pc + 1) ls (.int (oi v) :: sk) M k n) : G cx p l e R s m args below meth c Q pc ls (.int (oi x) :: rf cx i :: sk) M k n := by
  subst hv
  have hq := kk_small hk (by decide)
  intro H lsA locs hIn hS hL
  have hIn0 := hIn
  obtain ⟨hid, hP, hD, hM⟩ := hIn
  have he := wl_get (cx := cx) (M := M) (hid := hid) (kk_lt hk (by decide))
  rw [ent_c hk] at he
  refine va_cald E.1 E.2.1 E.2.2.2.2.2.1 hP i 2 he rfl (oi_in h0 h1 (by omega)) hd ?_
  have e1 : (oi x).toNatClampNeg = x.toNat := oi_clamp h0 (inR_of (by omega) (by omega))
  have e2 : ((x.toNat : Nat) : Int) = x := Int.toNat_of_nonneg h0
  rw [e1, e2]
  exact kk' (hM.1 i x).1 (hM.1 i x).2 H lsA locs hIn0 hS hL
theorem g_aald {i q j : Nat} {x : Int} (E : En cx y cc nL d uc us p R s m args meth c) (hd : decode cc pc = .ok (.aaload, 1)) (hk : kk i = (4, q)) (h0 : 0 ≤ x) (h1 : x < q) (hr : rr i x.toNat = j)
    (kk' : G cx p l e R s m args below meth c Q (pc + 1) ls (rf cx j :: sk) M k n) : G cx p l e R s m args below meth c Q pc ls (.int (oi x) :: rf cx i :: sk) M k n := by
  subst hr
  have hq := kk_small hk (by decide)
  intro H lsA locs hIn hS hL
  have hIn0 := hIn
  obtain ⟨hid, hP, hD, hM⟩ := hIn
  have he := wl_get (cx := cx) (M := M) (hid := hid) (kk_lt hk (by decide))
  rw [ent_q hk] at he
  refine va_aldq (C := "ExamBoard$Board") E.1 E.2.1 E.2.2.2.2.2.1 hP i 4 he rfl (oi_in h0 h1 (by omega)) hd ?_
  have e1 : (oi x).toNatClampNeg = x.toNat := oi_clamp h0 (inR_of (by omega) (by omega))
  rw [e1]
  exact kk' H lsA locs hIn0 hS hL
theorem g_iast {i q : Nat} {x v : Int} (E : En cx y cc nL d uc us p R s m args meth c) (hd : decode cc pc = .ok (.iastore, 1)) (hk : kk i = (0, q)) (h0 : 0 ≤ x) (h1 : x < q)
    (kk' : G cx p l e R s m args below meth c Q (pc + 1) ls sk (st M i x v) k n) (hv1 : -2147483648 ≤ v := by omega) (hv2 : v ≤ 2147483647 := by omega) : G cx p l e R s m args below meth c Q pc ls (.int (oi v) :: .int (oi x) :: rf cx i :: sk) M k n := by
  have hq := kk_small hk (by decide)
  intro H lsA locs hIn hS hL
  obtain ⟨hid, hP, hD, hM⟩ := hIn
  have hi := kk_lt hk (by decide)
  have he := wl_get (cx := cx) (M := M) (hid := hid) hi
  rw [ent_i hk] at he
  refine va_iast E.1 E.2.1 E.2.2.2.2.2.1 hP hD hS i 0 he rfl (oi_in h0 h1 (by omega)) hd (fun H1 locs1 hP1 hD1 hS1 => ?_)
  have e1 : (oi x).toNatClampNeg = x.toNat := oi_clamp h0 (inR_of (by omega) (by omega))
  rw [e1, row_upd h0] at hP1 hD1
  have hw2 := wl_set (cx := cx) (M := M) (M' := st M i x v) (hid := hid) hi (fun j hj => st_ne hj) (e := .inl (cA cx 0, q, .inl (fun j : Nat => oi (if (j : Int) = x then v else M i j)))) (by rw [ent_i hk, st_row])
  rw [hw2] at hP1 hD1
  exact kk' H1 lsA locs1 ⟨hid, hP1, hD1, hM.st (kk_ne2 hk (by decide)).1 (kk_ne2 hk (by decide)).2 ⟨hv1, hv2⟩⟩ hS1 hL
theorem g_zast {i q : Nat} {x v : Int} (E : En cx y cc nL d uc us p R s m args meth c) (hd : decode cc pc = .ok (.bastore, 1)) (hk : kk i = (1, q)) (h0 : 0 ≤ x) (h1 : x < q) (hv : v = 0 ∨ v = 1)
    (kk' : G cx p l e R s m args below meth c Q (pc + 1) ls sk (st M i x v) k n) : G cx p l e R s m args below meth c Q pc ls (.int (oi v) :: .int (oi x) :: rf cx i :: sk) M k n := by
  have hq := kk_small hk (by decide)
  intro H lsA locs hIn hS hL
  obtain ⟨hid, hP, hD, hM⟩ := hIn
  have hi := kk_lt hk (by decide)
  have he := wl_get (cx := cx) (M := M) (hid := hid) hi
  rw [ent_z hk] at he
  refine va_zast E.1 E.2.1 E.2.2.2.2.2.1 hP hD hS i 1 he rfl (oi_in h0 h1 (by omega)) hd (fun H1 locs1 hP1 hD1 hS1 => ?_)
  have e1 : (oi x).toNatClampNeg = x.toNat := oi_clamp h0 (inR_of (by omega) (by omega))
  rw [e1, nar_z hv, row_upd h0] at hP1 hD1
  have hw2 := wl_set (cx := cx) (M := M) (M' := st M i x v) (hid := hid) hi (fun j hj => st_ne hj) (e := .inl (cA cx 1, q, .inl (fun j : Nat => oi (if (j : Int) = x then v else M i j)))) (by rw [ent_z hk, st_row])
  rw [hw2] at hP1 hD1
  exact kk' H1 lsA locs1 ⟨hid, hP1, hD1, hM.st (kk_ne2 hk (by decide)).1 (kk_ne2 hk (by decide)).2 (inR_of (by omega) (by omega))⟩ hS1 hL
theorem g_cast {i q : Nat} {x v : Int} (E : En cx y cc nL d uc us p R s m args meth c) (hd : decode cc pc = .ok (.castore, 1)) (hk : kk i = (2, q)) (h0 : 0 ≤ x) (h1 : x < q) (hv0 : 0 ≤ v) (hv1 : v < 65536)
    (kk' : G cx p l e R s m args below meth c Q (pc + 1) ls sk (st M i x v) k n) : G cx p l e R s m args below meth c Q pc ls (.int (oi v) :: .int (oi x) :: rf cx i :: sk) M k n := by
  have hq := kk_small hk (by decide)
  intro H lsA locs hIn hS hL
  obtain ⟨hid, hP, hD, hM⟩ := hIn
  have hi := kk_lt hk (by decide)
  have he := wl_get (cx := cx) (M := M) (hid := hid) hi
  rw [ent_c hk] at he
  refine va_cast E.1 E.2.1 E.2.2.2.2.2.1 hP hD hS i 2 he rfl (oi_in h0 h1 (by omega)) hd (fun H1 locs1 hP1 hD1 hS1 => ?_)
  have e1 : (oi x).toNatClampNeg = x.toNat := oi_clamp h0 (inR_of (by omega) (by omega))
  rw [e1, nar_c hv0 hv1, row_upd h0] at hP1 hD1
  have hw2 := wl_set (cx := cx) (M := M) (M' := st M i x v) (hid := hid) hi (fun j hj => st_ne hj) (e := .inl (cA cx 2, q, .inl (fun j : Nat => oi (if (j : Int) = x then v else M i j)))) (by rw [ent_c hk, st_row])
  rw [hw2] at hP1 hD1
  exact kk' H1 lsA locs1 ⟨hid, hP1, hD1, hM.st (kk_ne2 hk (by decide)).1 (kk_ne2 hk (by decide)).2 (inR_of (by omega) (by omega))⟩ hS1 hL
theorem g_alen {i q : Nat} {z : Int} (E : En cx y cc nL d uc us p R s m args meth c) (hd : decode cc pc = .ok (.arraylength, 1)) (hk : kk i = (0, q)) (hz : (q : Int) = z)
    (kk' : G cx p l e R s m args below meth c Q (pc + 1) ls (.int (oi z) :: sk) M k n) : G cx p l e R s m args below meth c Q pc ls (rf cx i :: sk) M k n := by
  subst hz
  intro H lsA locs hIn hS hL
  have hIn0 := hIn
  obtain ⟨hid, hP, hD, hM⟩ := hIn
  have he := wl_get (cx := cx) (M := M) (hid := hid) (kk_lt hk (by decide))
  rw [ent_i hk] at he
  exact va_alen (x := (q, .inl _)) (ty := .int) E.1 E.2.1 E.2.2.2.2.2.1 hP i 0 he rfl (v := oi q) (oi_nat q).symm hd (kk' H lsA locs hIn0 hS hL)
theorem g_alenq {i q : Nat} {z : Int} (E : En cx y cc nL d uc us p R s m args meth c) (hd : decode cc pc = .ok (.arraylength, 1)) (hk : kk i = (4, q)) (hz : (q : Int) = z)
    (kk' : G cx p l e R s m args below meth c Q (pc + 1) ls (.int (oi z) :: sk) M k n) : G cx p l e R s m args below meth c Q pc ls (rf cx i :: sk) M k n := by
  subst hz
  intro H lsA locs hIn hS hL
  have hIn0 := hIn
  obtain ⟨hid, hP, hD, hM⟩ := hIn
  have he := wl_get (cx := cx) (M := M) (hid := hid) (kk_lt hk (by decide))
  rw [ent_q hk] at he
  exact va_alen (x := (q, _)) (ty := .object "ExamBoard$Board") E.1 E.2.1 E.2.2.2.2.2.1 hP i 4 he rfl (v := oi q) (oi_nat q).symm hd (kk' H lsA locs hIn0 hS hL)
/-- a static array of the class -/
theorem g_gets {i idx : Nat} (E : En cx y cc nL d uc us p R s m args meth c) (hd : decode cc pc = .ok (.getstatic idx, 3)) (h0 : 198 ≤ i) (h1 : i < 203) (hlk : Cond.fieldLink y.cls idx "ExamBoard" (sNm i) "[I" ∈ BIG)
    (kk' : G cx p l e R s m args below meth c Q (pc + 3) ls (rf cx i :: sk) M k n) : G cx p l e R s m args below meth c Q pc ls sk M k n := by
  intro H lsA locs hIn hS hL
  exact va_gets E.1 E.2.1 (E.2.2.2.2.2.2.1.1 i h0 h1).1 hS E.2.2.2.1 (E.2.2.2.2.1 _ hlk) (fun _ h => h) hd (kk' H lsA locs hIn hS hL)
theorem g_getsN (E : En cx y cc nL d uc us p R s m args meth c) (hy : y.cls = RX4) (hd : decode cc pc = .ok (.getstatic 110, 3))
    (kk' : G cx p l e R s m args below meth c Q (pc + 3) ls (rf cx 202 :: sk) M k n) : G cx p l e R s m args below meth c Q pc ls sk M k n := by
  intro H lsA locs hIn hS hL
  exact va_getsN E.1 E.2.1 (E.2.2.2.2.2.2.1.1 202 (by decide) (by decide)).1 hS (own := RX4) (by rw [← hy]; exact E.2.2.2.1) (E.2.2.2.2.2.2.1.2.1.2.2.2.2.2.2.use rfl) (fun _ h => h) hd (kk' H lsA locs hIn hS hL)
theorem sLn_small (i : Nat) : sLn i < 6 := by unfold sLn; split <;> decide
theorem sVl_R (i : Nat) (j : Int) : -100 ≤ sVl i j ∧ sVl i j ≤ 150 := by
  unfold sVl
  split <;> (repeat' split) <;> exact ⟨by decide, by decide⟩
theorem g_sald {i : Nat} {x v : Int} (E : En cx y cc nL d uc us p R s m args meth c) (hd : decode cc pc = .ok (.iaload, 1)) (h0 : 198 ≤ i) (h1 : i < 203) (hx : 0 ≤ x) (hx1 : x < sLn i) (hv : sVl i x = v)
    (kk' : G cx p l e R s m args below meth c Q (pc + 1) ls (.int (oi v) :: sk) M k n) : G cx p l e R s m args below meth c Q pc ls (.int (oi x) :: rf cx i :: sk) M k n := by
  subst hv
  have := sLn_small i
  intro H lsA locs hIn hS hL
  have e1 : (oi x).toNatClampNeg = x.toNat := oi_clamp hx (inR_of (by omega) (by omega))
  have e2 : ((x.toNat : Nat) : Int) = x := Int.toNat_of_nonneg hx
  refine va_ti E.1 E.2.1 (E.2.2.2.2.2.2.1.1 i h0 h1).2 hS (oi_in hx hx1 (by omega)) (v := .int (oi (sVl i x))) (by rw [e1]; simp only [e2]) hd (kk' H lsA locs hIn hS hL)
theorem g_lookup {a dflt off : Int} {ps : Array (Int × Int)} {len tgt : Nat} (E : En cx y cc nL d uc us p R s m args meth c) (hd : decode cc pc = .ok (.lookupswitch dflt ps, len)) (hp : (ps.toList.zip (ps.toList.drop 1)).all (fun (a, next) => a.1 < next.1) = true) (ho : Op.lookupswitch.offset ps.toList dflt a = off) (ht : (pc : Int) + off = (tgt : Int))
    (kk' : G cx p l e R s m args below meth c Q tgt ls sk M k n) (ha : -2147483648 ≤ a := by omega) (ha2 : a ≤ 2147483647 := by omega) : G cx p l e R s m args below meth c Q pc ls (.int (oi a) :: sk) M k n := by
  intro H lsA locs hIn hS hL
  exact lv_lookup E.1 E.2.1 hd hp (by rw [oi_toInt ⟨ha, ha2⟩]; exact ho) ht (kk' H lsA locs hIn hS hL)
theorem g_tableOut {a dflt lo hi : Int} {offs : Array Int} {len tgt : Nat} (E : En cx y cc nL d uc us p R s m args meth c) (hd : decode cc pc = .ok (.tableswitch dflt lo hi offs, len)) (h : a < lo ∨ hi < a) (ht : (pc : Int) + dflt = (tgt : Int))
    (kk' : G cx p l e R s m args below meth c Q tgt ls sk M k n) (ha : -2147483648 ≤ a := by omega) (ha2 : a ≤ 2147483647 := by omega) : G cx p l e R s m args below meth c Q pc ls (.int (oi a) :: sk) M k n := by
  intro H lsA locs hIn hS hL
  exact lv_tableOut E.1 E.2.1 hd (by rw [oi_toInt ⟨ha, ha2⟩]; exact h) ht (kk' H lsA locs hIn hS hL)
theorem g_tableIn {a dflt lo hi off : Int} {offs : Array Int} {len tgt : Nat} (E : En cx y cc nL d uc us p R s m args meth c) (hd : decode cc pc = .ok (.tableswitch dflt lo hi offs, len)) (h1 : lo ≤ a) (h2 : a ≤ hi) (ho : offs[(a - lo).toNat]? = some off) (ht : (pc : Int) + off = (tgt : Int))
    (kk' : G cx p l e R s m args below meth c Q tgt ls sk M k n) (ha : -2147483648 ≤ a := by omega) (ha2 : a ≤ 2147483647 := by omega) : G cx p l e R s m args below meth c Q pc ls (.int (oi a) :: sk) M k n := by
  intro H lsA locs hIn hS hL
  exact lv_tableIn E.1 E.2.1 hd (by rw [oi_toInt ⟨ha, ha2⟩]; omega) (by rw [oi_toInt ⟨ha, ha2⟩]; omega) (by rw [oi_toInt ⟨ha, ha2⟩]; exact ho) ht (kk' H lsA locs hIn hS hL)
end GM
