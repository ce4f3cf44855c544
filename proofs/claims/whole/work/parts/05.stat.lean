/-! what stands outside the run's own cells, and the state of a run -/
/-- two private methods of the superclass, selected in a StringBuilder -/
def XTR : List Cond := [.selects "java/lang/StringBuilder" yJ5_ensureCapacityInternal_d00df yJ5_ensureCapacityInternal_d00df, .selects "java/lang/StringBuilder" yJ5_newCapacity_0f7a4 yJ5_newCapacity_0f7a4]
def BIG : List Cond := (lw_tbl ++ XTR).filter goodWord
theorem big_ok : ∀ w ∈ BIG, w ∈ lw_tbl ++ XTR ∧ goodWord w = true := fun w h => List.mem_filter.mp h
theorem big_good : ∀ ws : List Cond, (∀ w ∈ ws, w ∈ BIG) → GoodIn BIG ws := fun ws h w hw => ⟨h w hw, good_of_word (big_ok w (h w hw)).2⟩
def sNm (i : Nat) : String := match i with | 198 => "LEAST_SETTING" | 199 => "GREATEST_SETTING" | 200 => "LEAST_V" | 201 => "GREATEST_V" | _ => "LIMITS"
def sLn (i : Nat) : Nat := match i with | 200 => 4 | 201 => 4 | _ => 5
def sVl (i : Nat) (j : Int) : Int := match i with
  | 198 => if j = 0 then 30 else 0
  | 199 => if j = 0 then 60 else if j = 1 then 60 else if j = 2 then 8 else if j = 3 then 5 else 100
  | 200 => if j = 0 then 0 else if j = 1 then -30 else if j = 2 then 50 else 0
  | 201 => if j = 0 then 0 else if j = 1 then 30 else if j = 2 then 150 else 100
  | _ => if j = 0 then 0 else if j = 1 then 70 else if j = 2 then 60 else if j = 3 then 50 else 0
def JStat (cx : Cx) (U : State) : Prop :=
  va_Z "java/lang/String" "COMPACT_STRINGS" "Z" (.int 1) (cA0 cx) U U.heap ∧
  (∃ t : Nat, va_Z "java/lang/Integer" "DigitOnes" "[B" (.ref t) (cA0 cx) U U.heap ∧ va_T .byte t 100 (fun j => .int (nI (48 + j % 10))) (cA0 cx) U U.heap) ∧
  (∃ t : Nat, va_Z "java/lang/Integer" "DigitTens" "[B" (.ref t) (cA0 cx) U U.heap ∧ va_T .byte t 100 (fun j => .int (nI (48 + j / 10))) (cA0 cx) U U.heap) ∧
  va_Zq "jdk/internal/util/Preconditions" "SIOOBE_FORMATTER" "Ljava/util/function/BiFunction;" (cA0 cx) U U.heap ∧
  ∃ adK adV : Nat → Nat, vk_R "ExamBoard$EntryText" 55 "mreax" (adK 0) U ∧ vk_S 1 [5] [[109, 114, 101, 97, 120]] adK adV (cA0 cx) U U.heap
def Stat (cx : Cx) (U : State) : Prop :=
  (∀ i, 198 ≤ i → i < 203 → va_Z "ExamBoard" (sNm i) "[I" (rf cx i) (cA0 cx) U U.heap ∧ va_T .int (cad cx i) (sLn i) (fun j => .int (oi (sVl i j))) (cA0 cx) U U.heap) ∧
  (va_Nw (.methodLinkNest RX5 32 yX4_init "ExamBoard") U ∧ va_Nw (.methodLinkNest RX5 39 yX3_init "ExamBoard") U ∧ va_Nw (.methodLinkNest RX5 46 yX1_init "ExamBoard") U ∧ va_Nw (.methodLinkNest RX0 83 yX5_nearest "ExamBoard") U ∧ va_Nw (.methodLinkNest RX4 86 yX5_nearest "ExamBoard") U ∧ va_Nw (.methodLinkNest RX3 60 yX5_rankOfClass "ExamBoard") U ∧ va_Nw (.fieldLinkNest RX4 110 "ExamBoard" "LIMITS" "[I" "ExamBoard") U) ∧
  JStat cx U
theorem JStat.moved {cx : Cx} {s U : State} (h : JStat cx s) (hW : s.WarmedH U.vm) (hq : ∀ a : Nat, a < s.heap.size → ¬ cA0 cx a → U.heap[a]? = s.heap[a]?) : JStat cx U := by
  obtain ⟨h1, ⟨t1, h2, h3⟩, ⟨t2, h4, h5⟩, h6, adK, adV, h7, h8⟩ := h
  have hv := hW.alike
  exact ⟨(h1.moved hv).kept hq, ⟨t1, (h2.moved hv).kept hq, (h3.moved hv).kept hq⟩, ⟨t2, (h4.moved hv).kept hq, (h5.moved hv).kept hq⟩, (h6.moved hv).kept hq, adK, adV, h7.warm hW, (h8.moved hv).kept hq⟩
theorem Stat.moved {cx : Cx} {s U : State} (h : Stat cx s) (hW : s.WarmedH U.vm) (hq : ∀ a : Nat, a < s.heap.size → ¬ cA0 cx a → U.heap[a]? = s.heap[a]?) : Stat cx U := by
  obtain ⟨h1, ⟨n1, n2, n3, n4, n5, n6, n7⟩, h3⟩ := h
  have hv := hW.alike
  exact ⟨fun i a b => ⟨((h1 i a b).1.moved hv).kept hq, ((h1 i a b).2.moved hv).kept hq⟩, ⟨n1.warmM hW, n2.warmM hW, n3.warmM hW, n4.warmM hW, n5.warmM hW, n6.warmM hW, n7.warmF hW⟩, h3.moved hW hq⟩
theorem Stat.calling {cx : Cx} {U : State} (h : Stat cx U) (g : JFrame) (mk : MethodId) (a : Array Value) : Stat cx (U.calling g mk a) := by
  obtain ⟨h1, ⟨n1, n2, n3, n4, n5, n6, n7⟩, ⟨j1, ⟨t1, j2, j3⟩, ⟨t2, j4, j5⟩, j6, adK, adV, j7, j8⟩⟩ := h
  have hv : U.vm.Alike (U.calling g mk a).vm := Vm.Alike.refl U.vm
  exact ⟨fun i a b => ⟨(h1 i a b).1.moved hv, (h1 i a b).2.moved hv⟩, ⟨n1.same rfl rfl, n2.same rfl rfl, n3.same rfl rfl, n4.same rfl rfl, n5.same rfl rfl, n6.same rfl rfl, n7.same rfl rfl⟩, ⟨j1.moved hv, ⟨t1, j2.moved hv, j3.moved hv⟩, ⟨t2, j4.moved hv, j5.moved hv⟩, j6.moved hv, adK, adV, j7.same rfl, j8.moved hv⟩⟩
/-- the tables' array classes -/
abbrev tysC (cx : Cx) : List (ClassId × FieldType) := [(cA cx 0, .int), (cA cx 1, .boolean), (cA cx 2, .char), (cA cx 3, .byte), (cA cx 4, .object "ExamBoard$Board")]
/-- the world in a heap -/
def InH (cx : Cx) (M : Mem) (H : Heap) : Prop := ∃ hid : Hid, va_P cx.1 vwCl (wl cx M hid) H ∧ va_D (cA0 cx) (wl cx M hid) ∧ MemOK M hid
def Rep (cx : Cx) (M : Mem) (U : State) : Prop := InH cx M U.heap ∧ va_K cx.1 vwCl (tysC cx) U ∧ Stat cx U ∧ cx.2.2.2 ≤ U.heap.size
theorem Rep.blind {cx : Cx} {M : Mem} {U : State} (h : Rep cx M U) (g : JFrame) (mk : MethodId) (a : Array Value) : Rep cx M (U.calling g mk a) :=
  ⟨h.1, va_K.moved (u := U) (U := U.calling g mk a) (Vm.Alike.refl U.vm) h.2.1, h.2.2.1.calling g mk a, h.2.2.2⟩
def rmD (d uc us : Nat) : Room := { frames := d, cells := uc, slots := us, locals := 64 * d }
def lvOK (lsA : Array Slot) (ls : List (Option Value)) : Prop := lsA.size = ls.length ∧ lv_wf lsA ∧ ∀ (i : Nat) (v : Value), ls[i]? = some (some v) → lsA[i]? = some (.val v) ∧ v.category = 1
/-- a contract: from every state that holds the memory M, the method returns a number x and leaves a memory M' with Post -/
def Ct (cx : Cx) (y : MethodName) (cc : ByteArray) (nL : Nat) (rt : Option FieldType) (d uc us : Nat) (av : List Value) (M : Mem) (Post : Int → Mem → Prop) : Prop :=
  .code y cc nL rt ∈ BIG ∧ ∀ l : Launch, Met l y (.code y cc nL rt :: BIG) (rmD d uc us) (va_Pc av (Rep cx M)) (va_Qi (fun (r : Int32) (u : Int × Mem) => r = oi u.1 ∧ Post u.1 u.2) (fun u t => Rep cx u.2 t) (cA0 cx)) uc us (cA0 cx)
/-- the same for a method without an answer -/
def Cv (cx : Cx) (y : MethodName) (cc : ByteArray) (nL : Nat) (d uc us : Nat) (av : List Value) (M : Mem) (Post : Mem → Prop) : Prop :=
  .code y cc nL none ∈ BIG ∧ ∀ l : Launch, Met l y (.code y cc nL none :: BIG) (rmD d uc us) (va_Pc av (Rep cx M)) (va_Qv (fun (u : Mem) => Post u) (fun u t => Rep cx u t) (cA0 cx)) uc us (cA0 cx)
