/-! more rows: locals by name, texts of truth, Math, copies of rows -/
/-- 1 for what holds, 0 for what doesn't -/
def bi (P : Prop) [Decidable P] : Int := if P then 1 else 0
theorem bi_0 {P : Prop} [Decidable P] : bi P = 0 ↔ ¬ P := by unfold bi; split <;> simp_all
theorem bi_n {P : Prop} [Decidable P] : ¬ bi P = 0 ↔ P := by unfold bi; split <;> simp_all
theorem bi_1 {P : Prop} [Decidable P] : bi P = 1 ↔ P := by unfold bi; split <;> simp_all
theorem bi_t {P : Prop} [Decidable P] (h : P) : bi P = 1 := if_pos h
theorem bi_f {P : Prop} [Decidable P] (h : ¬ P) : bi P = 0 := if_neg h
theorem bi_in (P : Prop) [Decidable P] : bi P = 0 ∨ bi P = 1 := by unfold bi; split <;> simp
theorem bi_R (P : Prop) [Decidable P] : 0 ≤ bi P ∧ bi P ≤ 1 := by unfold bi; split <;> decide
theorem bi_c {P Q : Prop} [Decidable P] [Decidable Q] (h : P ↔ Q) : bi P = bi Q := by unfold bi; split <;> split <;> simp_all
/-- fewer known locals -/
def lsLe : List (Option Value) → List (Option Value) → Prop
  | [], [] => True
  | none :: a, _ :: b => lsLe a b
  | some v :: a, w :: b => w = some v ∧ lsLe a b
  | _, _ => False
theorem lsLe_ok : ∀ (a b : List (Option Value)), lsLe a b → b.length = a.length ∧ ∀ (i : Nat) (v : Value), a[i]? = some (some v) → b[i]? = some (some v)
  | [], [], _ => ⟨rfl, fun i v h => by simp at h⟩
  | none :: a, _ :: b, h => by
    obtain ⟨h1, h2⟩ := lsLe_ok a b h
    refine ⟨by simp [h1], fun i v hi => ?_⟩
    cases i with
    | zero => simp at hi
    | succ i => simpa using h2 i v (by simpa using hi)
  | some u :: a, w :: b, h => by
    obtain ⟨h1, h2⟩ := lsLe_ok a b h.2
    refine ⟨by simp [h1], fun i v hi => ?_⟩
    cases i with
    | zero => rw [h.1]; simpa using hi
    | succ i => simpa using h2 i v (by simpa using hi)
  | [], _ :: _, h => by simp [lsLe] at h
  | none :: _, [], h => by simp [lsLe] at h
  | some _ :: _, [], h => by simp [lsLe] at h
/-- sums over 0 .. x - 1 -/
def smN (f : Int → Int) : Nat → Int
  | 0 => 0
  | k + 1 => smN f k + f k
def sz (f : Int → Int) (x : Int) : Int := smN f x.toNat
theorem sz_0 (f : Int → Int) : sz f 0 = 0 := rfl
theorem sz_s {f : Int → Int} {x : Int} (h : 0 ≤ x) : sz f (x + 1) = sz f x + f x := by
  unfold sz
  have e : (x + 1).toNat = x.toNat + 1 := by omega
  rw [e]
  show smN f x.toNat + f (x.toNat : Int) = _
  rw [Int.toNat_of_nonneg h]
theorem smN_R {f : Int → Int} {a b : Int} : ∀ k : Nat, (∀ j : Int, 0 ≤ j → j < k → a ≤ f j ∧ f j ≤ b) → k * a ≤ smN f k ∧ smN f k ≤ k * b
  | 0, _ => by simp [smN]
  | k + 1, h => by
    have h1 := smN_R k (fun j h0 h1 => h j h0 (by omega))
    have h2 := h k (by omega) (by omega)
    show _ ≤ smN f k + f k ∧ smN f k + f k ≤ _
    have e1 : ((k + 1 : Nat) : Int) * a = k * a + a := by rw [Int.natCast_add, Int.add_mul]; simp
    have e2 : ((k + 1 : Nat) : Int) * b = k * b + b := by rw [Int.natCast_add, Int.add_mul]; simp
    omega
theorem sz_R {f : Int → Int} {a b x : Int} (hx : 0 ≤ x) (h : ∀ j : Int, 0 ≤ j → j < x → a ≤ f j ∧ f j ≤ b) : x * a ≤ sz f x ∧ sz f x ≤ x * b := by
  have := smN_R (f := f) (a := a) (b := b) x.toNat (fun j h0 h1 => h j h0 (by omega))
  rw [Int.toNat_of_nonneg hx] at this
  exact this
theorem smN_c {f g : Int → Int} : ∀ k : Nat, (∀ j : Int, 0 ≤ j → j < k → f j = g j) → smN f k = smN g k
  | 0, _ => rfl
  | k + 1, h => by
    show smN f k + f k = smN g k + g k
    rw [smN_c k (fun j h0 h1 => h j h0 (by omega)), h k (by omega) (by omega)]
theorem sz_c {f g : Int → Int} {x : Int} (h : ∀ j : Int, 0 ≤ j → j < x → f j = g j) : sz f x = sz g x := smN_c x.toNat (fun j h0 h1 => h j h0 (by omega))
section GU
variable {cx : Cx} {y : MethodName} {cc : ByteArray} {nL d uc us : Nat} {p : Program} {l : Launch} {e : Env} {R : Room} {s : State} {m : MethodId} {args : Array Value} {below : List Frame} {meth : Method} {c : Code} {Q : State → Prop}
variable {pc : Nat} {ls : List (Option Value)} {sk : List Value} {M : Mem} {k n : Nat}
theorem g_ent {ls' : List (Option Value)} (h : ls = ls') (kk : G cx p l e R s m args below meth c Q pc ls' sk M k n) : G cx p l e R s m args below meth c Q pc ls sk M k n := h ▸ kk
theorem g_wk {ls' : List (Option Value)} (h : lsLe ls' ls) (kk : G cx p l e R s m args below meth c Q pc ls' sk M k n) : G cx p l e R s m args below meth c Q pc ls sk M k n := g_weak (lsLe_ok _ _ h).1 (lsLe_ok _ _ h).2 kk
theorem g_wk2 {ls' : List (Option Value)} (kk : G cx p l e R s m args below meth c Q pc ls' sk M k n) (h : lsLe ls' ls) : G cx p l e R s m args below meth c Q pc ls sk M k n := g_wk h kk
theorem g_mem {M' : Mem} (h : M = M') (kk : G cx p l e R s m args below meth c Q pc ls sk M' k n) : G cx p l e R s m args below meth c Q pc ls sk M k n := h ▸ kk
theorem g_top {a b : Int} (h : a = b) (kk : G cx p l e R s m args below meth c Q pc ls (.int (oi b) :: sk) M k n) : G cx p l e R s m args below meth c Q pc ls (.int (oi a) :: sk) M k n := h ▸ kk
theorem tdiv_floor {a b : Int} (hb : 0 < b) (ha : a < 0) : a / b = if a.tdiv b * b = a then a.tdiv b else a.tdiv b - 1 := by
  have h1 := Int.mul_tdiv_add_tmod a b
  have h2 : a.tmod b ≤ 0 := by
    have h := Int.tmod_nonneg b (show 0 ≤ -a by omega)
    rw [Int.neg_tmod] at h
    omega
  have h3 : -b < a.tmod b := by
    have := Int.lt_tmod_of_pos a hb
    omega
  have e : a.tdiv b * b = b * a.tdiv b := Int.mul_comm _ _
  split
  · next h =>
    have : a = a.tdiv b * b := h.symm
    rw [this, Int.mul_ediv_cancel _ (by omega), ← this]
  · next h =>
    have hr : a.tmod b ≠ 0 := fun q => h (by rw [e]; omega)
    have ea : a = (a.tmod b + b) + b * (a.tdiv b - 1) := by
      have : b * (a.tdiv b - 1) = b * a.tdiv b - b := by rw [Int.mul_sub, Int.mul_one]
      omega
    rw [ea, Int.add_mul_ediv_left _ _ (by omega), ← ea, Int.ediv_eq_zero_of_lt (by omega) (by omega)]
    omega
theorem oi_tdiv {a b : Int} (ha : inR a) (hb : inR b) (h0 : 0 < b) : oi a / oi b = oi (a.tdiv b) := by
  apply Int32.toInt_inj.mp
  have hr : inR (a.tdiv b) := by
    have h1 := Int.mul_tdiv_add_tmod a b
    rcases Int.le_total 0 a with h | h
    · have h2 : a.tdiv b = a / b := Int.tdiv_eq_ediv_of_nonneg h
      have h3 := Int.ediv_le_self b h
      have h4 := Int.ediv_nonneg h (Int.le_of_lt h0)
      exact ⟨by omega, by have := ha.2; omega⟩
    · have h2 : (-a).tdiv b = (-a) / b := Int.tdiv_eq_ediv_of_nonneg (by omega)
      have h3 := Int.ediv_le_self b (show 0 ≤ -a by omega)
      have h4 := Int.ediv_nonneg (show 0 ≤ -a by omega) (Int.le_of_lt h0)
      have h5 : (-a).tdiv b = -(a.tdiv b) := Int.neg_tdiv a b
      exact ⟨by have := ha.1; omega, by omega⟩
  rw [oi_toInt hr, Int32.toInt_div, oi_toInt ha, oi_toInt hb]
  exact Int.bmod_eq_of_le (by have := hr.1; omega) (by have := hr.2; omega)
theorem xor_sign {a b : Int} (ha : inR a) (hb : inR b) (h0 : 0 ≤ b) : 0 ≤ (oi a ^^^ oi b).toInt ↔ 0 ≤ a := by
  have k1 : ∀ z : Int32, (0 ≤ z.toInt ↔ z.toBitVec.msb = false) := by
    intro z
    have : z.toBitVec.msb = decide (z.toBitVec.toInt < 0) := BitVec.msb_eq_toInt
    rw [this, decide_eq_false_iff_not]
    show _ ↔ ¬ z.toInt < 0
    omega
  rw [k1, Int32.toBitVec_xor, BitVec.msb_xor]
  have h1 := (k1 (oi b)).mp (by rw [oi_toInt hb]; exact h0)
  have h2 := k1 (oi a)
  rw [oi_toInt ha] at h2
  rw [h1, h2]
  simp
theorem g_ixor {a b : Int} (E : En cx y cc nL d uc us p R s m args meth c) (hd : decode cc pc = .ok (.ixor, 1)) (ha : inR a) (hb : inR b) (h0 : 0 ≤ b) (kk : ∀ z : Int, -2147483648 ≤ z → z ≤ 2147483647 → (0 ≤ z ↔ 0 ≤ a) → G cx p l e R s m args below meth c Q (pc + 1) ls (.int (oi z) :: sk) M k n) : G cx p l e R s m args below meth c Q pc ls (.int (oi b) :: .int (oi a) :: sk) M k n := by
  intro H lsA locs hI hS hL
  refine lv_ixor E.1 E.2.1 hd ?_
  have := kk (oi a ^^^ oi b).toInt (inR_toInt _).1 (inR_toInt _).2 (xor_sign ha hb h0) H lsA locs hI hS hL
  rw [oi_self] at this
  exact this
theorem g_idivT {a b : Int} (E : En cx y cc nL d uc us p R s m args meth c) (hd : decode cc pc = .ok (.idiv, 1)) (ha : inR a) (hb : inR b) (h0 : 0 < b) (kk : G cx p l e R s m args below meth c Q (pc + 1) ls (.int (oi (a.tdiv b)) :: sk) M k n) : G cx p l e R s m args below meth c Q pc ls (.int (oi b) :: .int (oi a) :: sk) M k n := by
  intro H lsA locs hI hS hL
  refine lv_idiv E.1 E.2.1 hd (fun z => by have := (oi_eq hb (inR_of (by decide) (by decide))).mp (z.trans oi_0); omega) ?_
  rw [oi_tdiv ha hb h0]
  exact kk H lsA locs hI hS hL
theorem math_code_max : Cond.code Lib.Math.max.name Lib.Math.max.code 2 (some .int) ∈ BIG := big_at 488 (by decide +kernel) (by decide +kernel)
theorem math_code_min : Cond.code Lib.Math.min.name Lib.Math.min.code 2 (some .int) ∈ BIG := big_at 404 (by decide +kernel) (by decide +kernel)
theorem g_max {idx : Nat} {a b : Int} (E : En cx y cc nL d uc us p R s m args meth c) (hd : decode cc pc = .ok (.invokestatic idx, 3)) (hm : Cond.methodLink y.cls idx Lib.Math.max.name ∈ BIG) (hls : ls.length = nL) (hdp : 1 ≤ d) (hcat : (sk.map fun v => v.category).sum ≤ 8) (hr : k ≤ uc ∧ n ≤ us)
    (kk : G cx p l e R s m args below meth c Q (pc + 3) ls (.int (oi (max a b)) :: sk) M k n) (ha : -2147483648 ≤ a := by omega) (ha2 : a ≤ 2147483647 := by omega) (hb : -2147483648 ≤ b := by omega) (hb2 : b ≤ 2147483647 := by omega) : G cx p l e R s m args below meth c Q pc ls (.int (oi b) :: .int (oi a) :: sk) M k n := by
  intro H lsA locs hI hS hL
  have hts := E.2.2.2.2.1
  have := E.2.2.2.2.2.2.2.2.2.1
  have := E.2.2.2.2.2.2.2.2.2.2.1
  have := E.2.2.2.2.2.2.2.2.2.2.2.1
  have := E.2.2.2.2.2.2.2.2.2.2.2.2
  refine va_mmax E.1 E.2.1 (E.2.2.1.trans (hls.symm.trans hL.1.symm)) E.2.2.2.1 (hts _ hm) (hts _ (big_at 487 (by decide +kernel) (by decide +kernel))) (hts _ (big_at 73 (by decide +kernel) (by decide +kernel))) (hts _ math_code_max) (by omega) (by omega) (by omega) (by omega) hd ?_
  have e : (if oi a < oi b then oi b else oi a) = oi (max a b) := by
    by_cases h : a < b
    · rw [if_pos ((oi_lt ⟨ha, ha2⟩ ⟨hb, hb2⟩).mpr h), show max a b = b by omega]
    · rw [if_neg (fun z => h ((oi_lt ⟨ha, ha2⟩ ⟨hb, hb2⟩).mp z)), show max a b = a by omega]
  rw [e]
  exact kk H lsA locs hI hS hL
theorem g_min {idx : Nat} {a b : Int} (E : En cx y cc nL d uc us p R s m args meth c) (hd : decode cc pc = .ok (.invokestatic idx, 3)) (hm : Cond.methodLink y.cls idx Lib.Math.min.name ∈ BIG) (hls : ls.length = nL) (hdp : 1 ≤ d) (hcat : (sk.map fun v => v.category).sum ≤ 8) (hr : k ≤ uc ∧ n ≤ us)
    (kk : G cx p l e R s m args below meth c Q (pc + 3) ls (.int (oi (min a b)) :: sk) M k n) (ha : -2147483648 ≤ a := by omega) (ha2 : a ≤ 2147483647 := by omega) (hb : -2147483648 ≤ b := by omega) (hb2 : b ≤ 2147483647 := by omega) : G cx p l e R s m args below meth c Q pc ls (.int (oi b) :: .int (oi a) :: sk) M k n := by
  intro H lsA locs hI hS hL
  have hts := E.2.2.2.2.1
  have := E.2.2.2.2.2.2.2.2.2.1
  have := E.2.2.2.2.2.2.2.2.2.2.1
  have := E.2.2.2.2.2.2.2.2.2.2.2.1
  have := E.2.2.2.2.2.2.2.2.2.2.2.2
  refine va_mmin E.1 E.2.1 (E.2.2.1.trans (hls.symm.trans hL.1.symm)) E.2.2.2.1 (hts _ hm) (hts _ (big_at 403 (by decide +kernel) (by decide +kernel))) (hts _ (big_at 73 (by decide +kernel) (by decide +kernel))) (hts _ math_code_min) (by omega) (by omega) (by omega) (by omega) hd ?_
  have e : (if oi b < oi a then oi b else oi a) = oi (min a b) := by
    by_cases h : b < a
    · rw [if_pos ((oi_lt ⟨hb, hb2⟩ ⟨ha, ha2⟩).mpr h), show min a b = b by omega]
    · rw [if_neg (fun z => h ((oi_lt ⟨hb, hb2⟩ ⟨ha, ha2⟩).mp z)), show min a b = a by omega]
  rw [e]
  exact kk H lsA locs hI hS hL
/-- row j with its first w places as row i has them -/
def cpy (M : Mem) (i j w : Nat) : Mem := fun a => if a = j then (fun x => if 0 ≤ x ∧ x < w then M i x else M j x) else M a
theorem memok_cpy {M : Mem} {hid : Hid} {i j w : Nat} (h : MemOK M hid) (h1 : j ≠ 177) (h2 : j ≠ 182) : MemOK (cpy M i j w) hid := by
  have e : ∀ a, a ≠ j → cpy M i j w a = M a := fun a ha => if_neg ha
  refine ⟨fun a x => ?_, h.2.1.congr (e _ (Ne.symm h1)), h.2.2.congr (e _ (Ne.symm h2))⟩
  by_cases ha : a = j
  · subst ha
    simp only [cpy, if_true]
    split
    · exact h.1 i x
    · exact h.1 a x
  · rw [e a ha]; exact h.1 a x
theorem g_acopy {idx i j q w : Nat} {n0 : Int} (E : En cx y cc nL d uc us p R s m args meth c) (hd : decode cc pc = .ok (.invokestatic idx, 3)) (hm : Cond.methodLink y.cls idx arraycopyName ∈ BIG) (hk1 : kk i = (0, q)) (hk2 : kk j = (0, q)) (hw : w ≤ q) (hn : n0 = w) (hls : ls.length = nL) (hdp : 1 ≤ d) (hcat : (sk.map fun v => v.category).sum ≤ 8)
    (kk' : G cx p l e R s m args below meth c Q (pc + 3) ls sk (cpy M i j w) k n) : G cx p l e R s m args below meth c Q pc ls (.int (oi n0) :: .int (oi 0) :: rf cx j :: .int (oi 0) :: rf cx i :: sk) M k n := by
  have hq := kk_small hk1 (by decide)
  subst hn
  intro H lsA locs hI hS hL
  obtain ⟨hid, hP, hD, hM⟩ := hI
  have hi := kk_lt hk1 (by decide)
  have hj := kk_lt hk2 (by decide)
  have he := wl_get (cx := cx) (M := M) (hid := hid) hi
  have he2 := wl_get (cx := cx) (M := M) (hid := hid) hj
  rw [ent_i hk1] at he
  rw [ent_i hk2] at he2
  have hts := E.2.2.2.2.1
  have h0 : (oi 0).toNatClampNeg = 0 := rfl
  have hnw : (oi (w : Int)).toNatClampNeg = w := by rw [oi_nat]; exact nI_clamp (by omega)
  have := E.2.2.2.2.2.2.2.2.2.1
  have := E.2.2.2.2.2.2.2.2.2.2.1
  have hnf : nativeFrameWords "java/lang/System" "arraycopy" 5 ≤ 40 := by decide
  refine va_copyi (ty := .int) E.1 E.2.1 (E.2.2.1.trans (hls.symm.trans hL.1.symm)) E.2.2.2.1 (hts _ hm) (hts _ (big_at 407 (by decide +kernel) (by decide +kernel))) (hts _ (big_at 406 (by decide +kernel) (by decide +kernel))) (hts _ (big_at 74 (by decide +kernel) (by decide +kernel))) E.2.2.2.2.2.1 hP hD hS i j 0 0 he he2 rfl rfl rfl (by decide) (by decide) (by rw [oi_nat]; exact nI_pos (by omega)) (by rw [h0, hnw]; omega) (by rw [h0, hnw]; omega) (fun _ _ => rfl) (by omega) (by omega) hd (fun H1 locs1 hP1 hD1 hS1 => ?_)
  rw [h0, hnw] at hP1 hD1
  have hrow : va_cpy (fun a : Nat => oi (M i a)) (fun a : Nat => oi (M j a)) 0 0 w = fun a : Nat => oi (cpy M i j w j a) := by
    funext a
    simp only [va_cpy, cpy, if_true]
    by_cases h : a < w
    · rw [if_pos (by omega), if_pos (by omega), show 0 + (a - 0) = a by omega]
    · rw [if_neg (by omega), if_neg (by omega)]
  rw [hrow] at hP1 hD1
  have hw2 := wl_set (cx := cx) (M := M) (M' := cpy M i j w) (hid := hid) hj (fun a ha => if_neg ha) (e := .inl (cA cx 0, q, .inl (fun a : Nat => oi (cpy M i j w j a)))) (by rw [ent_i hk2])
  rw [hw2] at hP1 hD1
  exact kk' H1 lsA locs1 ⟨hid, hP1, hD1, memok_cpy hM (kk_ne2 hk2 (by decide)).1 (kk_ne2 hk2 (by decide)).2⟩ hS1 hL
end GU
section GF
variable {cx : Cx}
theorem ct_introF {y : MethodName} {cc : ByteArray} {nL d uc us : Nat} {rt : Option FieldType} {av : List Value} {M : Mem} {Post : Int → Mem → Prop} (hcode : .code y cc nL rt ∈ BIG) (hy : plainFor y = true) (hav : av.length ≤ nL) (hac : av.all (fun v => v.category == 1) = true)
    (body : ∀ (p : Program) (l : Launch) (e : Env) (s : State) (m : MethodId) (args : Array Value) (below : List Frame) (meth : Method) (c : Code), En cx y cc nL d uc us p (rmD d uc us) s m args meth c → meth.sig.returnType = rt →
      G cx p l e (rmD d uc us) s m args below meth c (MQ below (QI cx Post) args s uc us (cA0 cx)) 0 (av.map some ++ List.replicate (nL - av.length) none) [] M 0 0) : Ct cx y cc nL rt d uc us av M Post := by
  refine ⟨hcode, fun l => ?_⟩
  refine va_MetF (cc := cc) (maxL := nL) (ret := rt) hy rfl ?_
  intro p e s m args below meth c s₁ B hml hv
  obtain ⟨rfl, hI, hK, hS, hN⟩ := hv
  have hts := atoms_spec (ws := .code y cc nL rt :: BIG) B.pre
  have hc1 : ∀ v ∈ av, v.category = 1 := fun v hv => by simpa using List.all_eq_true.mp hac v hv
  rw [entry_eq m av hc1 nL]
  exact body p l e s m av.toArray below meth c ⟨B.exec, B.bytes, hml, findClass_of_methodNamed B.named, fun w hw => hts w (List.mem_cons_of_mem _ hw), hK, hS, hN, B.notSynchronized, Nat.le_refl _, Nat.le_refl _, Nat.le_refl _, Nat.le_refl _⟩ B.returns s.heap _ [] hI va_S.rf (lv_entry_ok av hav hc1)
end GF
