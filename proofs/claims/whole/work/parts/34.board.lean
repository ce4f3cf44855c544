/-! the class: board b holds the row S; its looking methods -/
def BDr (b : Nat) (M : Mem) (S : Int → Int) : Prop :=
  (M b 0 = S 5 ∧ M b 1 = S 6 ∧ M b 2 = S 7 ∧ M b 3 = S 8) ∧
  (∀ j, 0 ≤ j → j < 5 → M (b + 1) j = S j) ∧
  (∀ m, 0 ≤ m → m < S 5 → M (b + 2) m = S (9 + m)) ∧
  (∀ p, 0 ≤ p → p < S 6 → M (b + 3) p = S (13 + 3 * p) ∧ M (b + 4) p = S (13 + 3 * p + 1) ∧ M (b + 5) p = S (13 + 3 * p + 2)) ∧
  (∀ s, 0 ≤ s → s < S 7 → M (b + 6) s = S (37 + s)) ∧
  (∀ a, 0 ≤ a → a < 160 → M (b + 7) a = S (57 + 3 * a) ∧ M (b + 8) a = S (57 + 3 * a + 1)) ∧
  (∀ a, 0 ≤ a → a < 160 → M (b + 9) a = if a < 8 * S 7 then S (57 + 3 * a + 2) else -1) ∧
  (∀ i, 0 ≤ i → i < S 8 → M (b + 10) i = S (585 + i)) ∧
  (∀ q, 0 ≤ q → q < 24 → M (b + 11) q = S (537 + 2 * q) ∧ M (b + 12) q = S (537 + 2 * q + 1)) ∧
  (∀ p c, 0 ≤ p → p < 8 → 0 ≤ c → c < 3 → M (b + 13) (3 * p + c) = sumS S p c ∧ M (b + 14) (3 * p + c) = cntS S p c)
theorem BDr.congr {b : Nat} {M N : Mem} {S : Int → Int} (h : BDr b M S) (e : ∀ i, b ≤ i → i < b + 15 → N i = M i) : BDr b N S := by
  unfold BDr
  rw [e b (by omega) (by omega), e (b + 1) (by omega) (by omega), e (b + 2) (by omega) (by omega), e (b + 3) (by omega) (by omega), e (b + 4) (by omega) (by omega), e (b + 5) (by omega) (by omega), e (b + 6) (by omega) (by omega), e (b + 7) (by omega) (by omega), e (b + 8) (by omega) (by omega), e (b + 9) (by omega) (by omega), e (b + 10) (by omega) (by omega), e (b + 11) (by omega) (by omega), e (b + 12) (by omega) (by omega), e (b + 13) (by omega) (by omega), e (b + 14) (by omega) (by omega)]
  exact h
def BD (M : Mem) (S : Int → Int) : Prop := BDr 0 M S
section BDs
variable {M : Mem} {S : Int → Int}
theorem BD.c0 (h : BD M S) : M 0 0 = S 5 := h.1.1
theorem BD.c1 (h : BD M S) : M 0 1 = S 6 := h.1.2.1
theorem BD.c2 (h : BD M S) : M 0 2 = S 7 := h.1.2.2.1
theorem BD.c3 (h : BD M S) : M 0 3 = S 8 := h.1.2.2.2
theorem BD.f1 (h : BD M S) (j : Int) (h0 : 0 ≤ j) (h1 : j < 5) : M 1 j = S j := h.2.1 j h0 h1
theorem BD.f2 (h : BD M S) (j : Int) (h0 : 0 ≤ j) (h1 : j < S 5) : M 2 j = S (9 + j) := h.2.2.1 j h0 h1
theorem BD.f3 (h : BD M S) (j : Int) (h0 : 0 ≤ j) (h1 : j < S 6) : M 3 j = S (13 + 3 * j) := (h.2.2.2.1 j h0 h1).1
theorem BD.f4 (h : BD M S) (j : Int) (h0 : 0 ≤ j) (h1 : j < S 6) : M 4 j = S (13 + 3 * j + 1) := (h.2.2.2.1 j h0 h1).2.1
theorem BD.f5 (h : BD M S) (j : Int) (h0 : 0 ≤ j) (h1 : j < S 6) : M 5 j = S (13 + 3 * j + 2) := (h.2.2.2.1 j h0 h1).2.2
theorem BD.f6 (h : BD M S) (j : Int) (h0 : 0 ≤ j) (h1 : j < S 7) : M 6 j = S (37 + j) := h.2.2.2.2.1 j h0 h1
theorem BD.f7a (h : BD M S) (a : Int) (h0 : 0 ≤ a) (h1 : a < 160) : M 7 a = S (57 + 3 * a) := (h.2.2.2.2.2.1 a h0 h1).1
theorem BD.f8a (h : BD M S) (a : Int) (h0 : 0 ≤ a) (h1 : a < 160) : M 8 a = S (57 + 3 * a + 1) := (h.2.2.2.2.2.1 a h0 h1).2
theorem BD.f9a (h : BD M S) (a : Int) (h0 : 0 ≤ a) (h1 : a < 160) : M 9 a = if a < 8 * S 7 then S (57 + 3 * a + 2) else -1 := h.2.2.2.2.2.2.1 a h0 h1
theorem BD.f7 (h : BD M S) {s p : Int} (h0 : 0 ≤ s) (h1 : s < 20) (h2 : 0 ≤ p) (h3 : p < 8) : M 7 (s * 8 + p) = S (57 + 3 * (8 * s + p)) := by
  rw [Int.mul_comm s 8]; exact h.f7a _ (by omega) (by omega)
theorem BD.f8 (h : BD M S) {s p : Int} (h0 : 0 ≤ s) (h1 : s < 20) (h2 : 0 ≤ p) (h3 : p < 8) : M 8 (s * 8 + p) = S (57 + 3 * (8 * s + p) + 1) := by
  rw [Int.mul_comm s 8]; exact h.f8a _ (by omega) (by omega)
theorem BD.f9 (h : BD M S) {s p : Int} (h0 : 0 ≤ s) (h1 : s < S 7 ∧ S 7 ≤ 20) (h2 : 0 ≤ p) (h3 : p < 8) : M 9 (s * 8 + p) = S (57 + 3 * (8 * s + p) + 2) := by
  rw [Int.mul_comm s 8, h.f9a _ (by omega) (by omega), if_pos (by omega)]
theorem BD.f10 (h : BD M S) (j : Int) (h0 : 0 ≤ j) (h1 : j < S 8) : M 10 j = S (585 + j) := h.2.2.2.2.2.2.2.1 j h0 h1
theorem BD.f11 (h : BD M S) {p c : Int} (h0 : 0 ≤ p) (h1 : p < 8) (h2 : 0 ≤ c) (h3 : c < 3) : M 11 (p * 3 + c) = S (537 + 2 * (3 * p + c)) := by
  rw [Int.mul_comm p 3]; exact (h.2.2.2.2.2.2.2.2.1 _ (by omega) (by omega)).1
theorem BD.f12 (h : BD M S) {p c : Int} (h0 : 0 ≤ p) (h1 : p < 8) (h2 : 0 ≤ c) (h3 : c < 3) : M 12 (p * 3 + c) = S (537 + 2 * (3 * p + c) + 1) := by
  rw [Int.mul_comm p 3]; exact (h.2.2.2.2.2.2.2.2.1 _ (by omega) (by omega)).2
theorem BD.f13 (h : BD M S) {p c : Int} (h0 : 0 ≤ p) (h1 : p < 8) (h2 : 0 ≤ c) (h3 : c < 3) : M 13 (p * 3 + c) = sumS S p c := by
  rw [Int.mul_comm p 3]; exact (h.2.2.2.2.2.2.2.2.2 p c h0 h1 h2 h3).1
theorem BD.f14 (h : BD M S) {p c : Int} (h0 : 0 ≤ p) (h1 : p < 8) (h2 : 0 ≤ c) (h3 : c < 3) : M 14 (p * 3 + c) = cntS S p c := by
  rw [Int.mul_comm p 3]; exact (h.2.2.2.2.2.2.2.2.2 p c h0 h1 h2 h3).2
theorem BD.congr {N : Mem} (h : BD M S) (e : ∀ i, i < 15 → N i = M i) : BD N S := BDr.congr h (fun i _ b => e i (by omega))
end BDs

theorem ct_isCohort {cx : Cx} {M : Mem} {v : Int} (hv : -2147483648 ≤ v ∧ v ≤ 2147483647) : Ct cx yX5_isCohort cX5_isCohort 1 (some .boolean) 2 0 0 [.int (oi v)] M (fun rz M' => bi (0 ≤ v ∧ v < 3) = rz ∧ M = M') := by
  refine ct_intro cd_X5_isCohort (by decide +kernel) (Nat.le_of_ble_eq_true rfl) rfl (fun Pg Lc Ev s m args below meth c E hr => ?_)
  refine g_ent (ls' := [some (.int (oi v))]) rfl ?_
  refine g_iload_n (pc := 0) E dX5_isCohort_0 (i := 0) rfl rfl ?_
  refine g_iconst (pc := 1) E dX5_isCohort_1 rfl ?_
  refine g_iconst (pc := 2) E dX5_isCohort_2 rfl ?_
  refine g_callS (pc := 3) (As := [_, _, _]) E dX5_isCohort_3 ml_X5_80 (ct_isWithin (by omega) (by omega) (by omega)) rfl rfl (by decide) (by decide) rfl (Nat.le_of_ble_eq_true rfl) (by decide) (fun x3 M3 hM3 => ?_)
  obtain ⟨rfl, rfl⟩ := hM3
  refine g_zret (pc := 6) E hr dX5_isCohort_6 (by first | exact Or.inl rfl | exact Or.inr rfl | exact bi_in _ | omega) ?_
  exact ⟨bi_c (by omega), rfl⟩

theorem sv198 {w : Int} (h : 0 ≤ w ∧ w ≤ 4) : sVl 198 w = if w = 0 then 30 else 0 := rfl
theorem sv199 {w : Int} (h : 0 ≤ w ∧ w ≤ 4) : sVl 199 w = if w = 0 then 60 else if w = 1 then 60 else if w = 2 then 8 else if w = 3 then 5 else 100 := rfl
def loS (w : Int) : Int := if w = 0 then 30 else 0
def hiS (w : Int) : Int := if w = 0 then 60 else if w = 1 then 60 else if w = 2 then 8 else if w = 3 then 5 else 100
theorem lohi_R (w : Int) : 0 ≤ loS w ∧ loS w ≤ 30 ∧ 0 ≤ hiS w ∧ hiS w ≤ 100 := by unfold loS hiS; refine ⟨?_, ?_, ?_, ?_⟩ <;> (repeat' split) <;> omega
theorem set_lohi {w v : Int} (h : 0 ≤ w ∧ w ≤ 4) : setOK w v ↔ loS w ≤ v ∧ v ≤ hiS w := by
  unfold setOK loS hiS
  (repeat' split) <;> omega

theorem ct_isSetting5 {cx : Cx} {M : Mem} {w v : Int} (hw : -2147483648 ≤ w ∧ w ≤ 2147483647) (hv : -2147483648 ≤ v ∧ v ≤ 2147483647) : Ct cx yX5_isSetting cX5_isSetting 2 (some .boolean) 2 0 0 [.int (oi w), .int (oi v)] M (fun rz M' => bi (setOK w v) = rz ∧ M = M') := by
  refine ct_intro cd_X5_isSetting (by decide +kernel) (Nat.le_of_ble_eq_true rfl) rfl (fun Pg Lc Ev s m args below meth c E hr => ?_)
  refine g_ent (ls' := [some (.int (oi w)), some (.int (oi v))]) rfl ?_
  have hl := lohi_R w
  refine g_iload_n (pc := 0) E dX5_isSetting_0 (i := 0) rfl rfl ?_
  refine g_iconst (pc := 1) E dX5_isSetting_1 rfl ?_
  refine g_iconst (pc := 2) E dX5_isSetting_2 rfl ?_
  refine g_callS (pc := 3) (As := [_, _, _]) E dX5_isSetting_3 ml_X5_80 (ct_isWithin (by omega) (by omega) (by omega)) rfl rfl (by decide) (by decide) rfl (Nat.le_of_ble_eq_true rfl) (by decide) (fun x3 M3 hM3 => ?_)
  obtain ⟨rfl, rfl⟩ := hM3
  refine g_if_eq (pc := 6) (tgt := 30) E dX5_isSetting_6 (by decide) (fun qh6 => ?_) (fun qh6 => ?_) (Int.le_trans (by decide) (bi_R _).1) (Int.le_trans (bi_R _).2 (by decide))
  · replace qh6 := bi_0.mp qh6
    refine g_iconst (pc := 30) E dX5_isSetting_30 rfl ?_
    refine g_zret (pc := 31) E hr dX5_isSetting_31 (by first | exact Or.inl rfl | exact Or.inr rfl | exact bi_in _ | omega) ?_
    exact ⟨bi_f (fun h => qh6 (by unfold setOK at h; omega)), rfl⟩
  · replace qh6 := bi_n.mp qh6
    refine g_iload_n (pc := 9) E dX5_isSetting_9 (i := 1) rfl rfl ?_
    refine g_gets (i := 198) (pc := 10) E dX5_isSetting_10 (by decide) (by decide) (big_at 383 (by decide +kernel) (by decide +kernel)) ?_
    refine g_iload_n (pc := 13) E dX5_isSetting_13 (i := 0) rfl rfl ?_
    refine g_sald (pc := 14) E dX5_isSetting_14 (by decide) (by decide) (by omega) (by show _ < ((5 : Nat) : Int); omega) (v := loS w) (by rfl) ?_
    refine g_gets (i := 199) (pc := 15) E dX5_isSetting_15 (by decide) (by decide) (big_at 385 (by decide +kernel) (by decide +kernel)) ?_
    refine g_iload_n (pc := 18) E dX5_isSetting_18 (i := 0) rfl rfl ?_
    refine g_sald (pc := 19) E dX5_isSetting_19 (by decide) (by decide) (by omega) (by show _ < ((5 : Nat) : Int); omega) (v := hiS w) (by rfl) ?_
    refine g_callS (pc := 20) (As := [_, _, _]) E dX5_isSetting_20 ml_X5_80 (ct_isWithin (by omega) (by omega) (by omega)) rfl rfl (by decide) (by decide) rfl (Nat.le_of_ble_eq_true rfl) (by decide) (fun x20 M20 hM20 => ?_)
    obtain ⟨rfl, rfl⟩ := hM20
    refine g_if_eq (pc := 23) (tgt := 30) E dX5_isSetting_23 (by decide) (fun qh23 => ?_) (fun qh23 => ?_) (Int.le_trans (by decide) (bi_R _).1) (Int.le_trans (bi_R _).2 (by decide))
    · replace qh23 := bi_0.mp qh23
      refine g_iconst (pc := 30) E dX5_isSetting_30 rfl ?_
      refine g_zret (pc := 31) E hr dX5_isSetting_31 (by first | exact Or.inl rfl | exact Or.inr rfl | exact bi_in _ | omega) ?_
      exact ⟨bi_f (fun h => qh23 ((set_lohi qh6).mp h)), rfl⟩
    · replace qh23 := bi_n.mp qh23
      refine g_iconst (pc := 26) E dX5_isSetting_26 rfl ?_
      refine g_goto (pc := 27) (tgt := 31) E dX5_isSetting_27 (by decide) ?_
      refine g_zret (pc := 31) E hr dX5_isSetting_31 (by first | exact Or.inl rfl | exact Or.inr rfl | exact bi_in _ | omega) ?_
      exact ⟨bi_t ((set_lohi qh6).mpr qh23), rfl⟩

theorem ct_nearest5 {cx : Cx} {M : Mem} {a b w : Int} (ha : 0 ≤ a) (ha2 : a ≤ 100000000) (hb : -100000000 ≤ b) (hb2 : b ≤ 100000000) : Ct cx yX5_nearest cX5_nearest 3 (some .int) 1 0 0 [.int (oi a), .int (oi b), .int (oi w)] M (fun rz M' => (if b ≤ 0 then w else nrs a b) = rz ∧ M = M') := by
  refine ct_intro cd_X5_nearest (by decide +kernel) (Nat.le_of_ble_eq_true rfl) rfl (fun Pg Lc Ev s m args below meth c E hr => ?_)
  refine g_ent (ls' := [some (.int (oi a)), some (.int (oi b)), some (.int (oi w))]) rfl ?_
  refine g_iload_n (pc := 0) E dX5_nearest_0 (i := 1) rfl rfl ?_
  refine g_if_gt (pc := 1) (tgt := 6) E dX5_nearest_1 (by decide) (fun qh1 => ?_) (fun qh1 => ?_) 
  · refine g_iconst (pc := 6) E dX5_nearest_6 rfl ?_
    refine g_iload_n (pc := 7) E dX5_nearest_7 (i := 0) rfl rfl ?_
    refine g_imul (pc := 8) E dX5_nearest_8 ?_
    refine g_iload_n (pc := 9) E dX5_nearest_9 (i := 1) rfl rfl ?_
    refine g_iadd (pc := 10) E dX5_nearest_10 ?_
    refine g_iconst (pc := 11) E dX5_nearest_11 rfl ?_
    refine g_iload_n (pc := 12) E dX5_nearest_12 (i := 1) rfl rfl ?_
    refine g_imul (pc := 13) E dX5_nearest_13 ?_
    refine g_idiv (pc := 14) E dX5_nearest_14 (by omega) (by omega) (by omega) (by omega) ?_
    refine g_iret (pc := 15) E hr dX5_nearest_15 ?_
    exact ⟨if_neg (by omega), rfl⟩
  · refine g_iload_n (pc := 4) E dX5_nearest_4 (i := 2) rfl rfl ?_
    refine g_iret (pc := 5) E hr dX5_nearest_5 ?_
    exact ⟨if_pos (by omega), rfl⟩

theorem ct_rankOfClass {cx : Cx} {M : Mem} {v : Int} (hv : -2147483648 ≤ v ∧ v ≤ 2147483647) : Ct cx yX5_rankOfClass cX5_rankOfClass 1 (some .int) 1 0 0 [.int (oi v)] M (fun rz M' => (if v = 0 then 6 else v) = rz ∧ M = M') := by
  refine ct_intro cd_X5_rankOfClass (by decide +kernel) (Nat.le_of_ble_eq_true rfl) rfl (fun Pg Lc Ev s m args below meth c E hr => ?_)
  refine g_ent (ls' := [some (.int (oi v))]) rfl ?_
  refine g_iload_n (pc := 0) E dX5_rankOfClass_0 (i := 0) rfl rfl ?_
  refine g_if_ne (pc := 1) (tgt := 9) E dX5_rankOfClass_1 (by decide) (fun qh1 => ?_) (fun qh1 => ?_) 
  · refine g_iload_n (pc := 9) E dX5_rankOfClass_9 (i := 0) rfl rfl ?_
    refine g_iret (pc := 10) E hr dX5_rankOfClass_10 ?_
    exact ⟨if_neg (by omega), rfl⟩
  · refine g_bipush (pc := 4) E dX5_rankOfClass_4 rfl ?_
    refine g_goto (pc := 6) (tgt := 10) E dX5_rankOfClass_6 (by decide) ?_
    refine g_iret (pc := 10) E hr dX5_rankOfClass_10 ?_
    exact ⟨if_pos (by omega), rfl⟩

theorem ct_hasModule {cx : Cx} {M : Mem} {S : Int → Int} (hB : BD M S) (hV : SOK S) {v : Int} (hv : -2147483648 ≤ v ∧ v ≤ 2147483647) : Ct cx yX0_hasModule cX0_hasModule 2 (some .boolean) 1 0 0 [rf cx 0, .int (oi v)] M (fun rz M' => bi (0 ≤ v ∧ v < S 5) = rz ∧ M = M') := by
  refine ct_intro cd_X0_hasModule (by decide +kernel) (Nat.le_of_ble_eq_true rfl) rfl (fun Pg Lc Ev s m args below meth c E hr => ?_)
  refine g_ent (ls' := [some (rf cx 0), some (.int (oi v))]) rfl ?_
  have hV0 := hV.1
  have hB0 := hB.c0
  have hB1 := hB.c1
  have hB2 := hB.c2
  have hB3 := hB.c3
  refine g_iload_n (pc := 0) E dX0_hasModule_0 (i := 1) rfl rfl ?_
  refine g_if_lt (pc := 1) (tgt := 16) E dX0_hasModule_1 (by decide) (fun qh1 => ?_) (fun qh1 => ?_) 
  · refine g_iconst (pc := 16) E dX0_hasModule_16 rfl ?_
    refine g_zret (pc := 17) E hr dX0_hasModule_17 (by first | exact Or.inl rfl | exact Or.inr rfl | exact bi_in _ | omega) ?_
    exact ⟨bi_f (by omega), rfl⟩
  · refine g_iload_n (pc := 4) E dX0_hasModule_4 (i := 1) rfl rfl ?_
    refine g_aload_n (pc := 5) E dX0_hasModule_5 (i := 0) rfl rfl ?_
    refine g_geti (i := 0) (t := 0) (f := 0) (fz := 0) (pc := 6) E dX0_hasModule_6 fl_X0_9 rfl (by decide) (by decide) rfl rfl hB.c0 (fun _ _ => ?_)
    refine g_icmp_ge (pc := 9) (tgt := 16) E dX0_hasModule_9 (by decide) (fun qh9 => ?_) (fun qh9 => ?_) 
    · refine g_iconst (pc := 16) E dX0_hasModule_16 rfl ?_
      refine g_zret (pc := 17) E hr dX0_hasModule_17 (by first | exact Or.inl rfl | exact Or.inr rfl | exact bi_in _ | omega) ?_
      exact ⟨bi_f (by omega), rfl⟩
    · refine g_iconst (pc := 12) E dX0_hasModule_12 rfl ?_
      refine g_goto (pc := 13) (tgt := 17) E dX0_hasModule_13 (by decide) ?_
      refine g_zret (pc := 17) E hr dX0_hasModule_17 (by first | exact Or.inl rfl | exact Or.inr rfl | exact bi_in _ | omega) ?_
      exact ⟨bi_t (by omega), rfl⟩

theorem ct_hasPaper {cx : Cx} {M : Mem} {S : Int → Int} (hB : BD M S) (hV : SOK S) {v : Int} (hv : -2147483648 ≤ v ∧ v ≤ 2147483647) : Ct cx yX0_hasPaper cX0_hasPaper 2 (some .boolean) 1 0 0 [rf cx 0, .int (oi v)] M (fun rz M' => bi (0 ≤ v ∧ v < S 6) = rz ∧ M = M') := by
  refine ct_intro cd_X0_hasPaper (by decide +kernel) (Nat.le_of_ble_eq_true rfl) rfl (fun Pg Lc Ev s m args below meth c E hr => ?_)
  refine g_ent (ls' := [some (rf cx 0), some (.int (oi v))]) rfl ?_
  have hV0 := hV.1
  have hB0 := hB.c0
  have hB1 := hB.c1
  have hB2 := hB.c2
  have hB3 := hB.c3
  refine g_iload_n (pc := 0) E dX0_hasPaper_0 (i := 1) rfl rfl ?_
  refine g_if_lt (pc := 1) (tgt := 16) E dX0_hasPaper_1 (by decide) (fun qh1 => ?_) (fun qh1 => ?_) 
  · refine g_iconst (pc := 16) E dX0_hasPaper_16 rfl ?_
    refine g_zret (pc := 17) E hr dX0_hasPaper_17 (by first | exact Or.inl rfl | exact Or.inr rfl | exact bi_in _ | omega) ?_
    exact ⟨bi_f (by omega), rfl⟩
  · refine g_iload_n (pc := 4) E dX0_hasPaper_4 (i := 1) rfl rfl ?_
    refine g_aload_n (pc := 5) E dX0_hasPaper_5 (i := 0) rfl rfl ?_
    refine g_geti (i := 0) (t := 0) (f := 1) (fz := 1) (pc := 6) E dX0_hasPaper_6 fl_X0_15 rfl (by decide) (by decide) rfl rfl hB.c1 (fun _ _ => ?_)
    refine g_icmp_ge (pc := 9) (tgt := 16) E dX0_hasPaper_9 (by decide) (fun qh9 => ?_) (fun qh9 => ?_) 
    · refine g_iconst (pc := 16) E dX0_hasPaper_16 rfl ?_
      refine g_zret (pc := 17) E hr dX0_hasPaper_17 (by first | exact Or.inl rfl | exact Or.inr rfl | exact bi_in _ | omega) ?_
      exact ⟨bi_f (by omega), rfl⟩
    · refine g_iconst (pc := 12) E dX0_hasPaper_12 rfl ?_
      refine g_goto (pc := 13) (tgt := 17) E dX0_hasPaper_13 (by decide) ?_
      refine g_zret (pc := 17) E hr dX0_hasPaper_17 (by first | exact Or.inl rfl | exact Or.inr rfl | exact bi_in _ | omega) ?_
      exact ⟨bi_t (by omega), rfl⟩

theorem ct_hasStudent {cx : Cx} {M : Mem} {S : Int → Int} (hB : BD M S) (hV : SOK S) {v : Int} (hv : -2147483648 ≤ v ∧ v ≤ 2147483647) : Ct cx yX0_hasStudent cX0_hasStudent 2 (some .boolean) 1 0 0 [rf cx 0, .int (oi v)] M (fun rz M' => bi (0 ≤ v ∧ v < S 7) = rz ∧ M = M') := by
  refine ct_intro cd_X0_hasStudent (by decide +kernel) (Nat.le_of_ble_eq_true rfl) rfl (fun Pg Lc Ev s m args below meth c E hr => ?_)
  refine g_ent (ls' := [some (rf cx 0), some (.int (oi v))]) rfl ?_
  have hV0 := hV.1
  have hB0 := hB.c0
  have hB1 := hB.c1
  have hB2 := hB.c2
  have hB3 := hB.c3
  refine g_iload_n (pc := 0) E dX0_hasStudent_0 (i := 1) rfl rfl ?_
  refine g_if_lt (pc := 1) (tgt := 16) E dX0_hasStudent_1 (by decide) (fun qh1 => ?_) (fun qh1 => ?_) 
  · refine g_iconst (pc := 16) E dX0_hasStudent_16 rfl ?_
    refine g_zret (pc := 17) E hr dX0_hasStudent_17 (by first | exact Or.inl rfl | exact Or.inr rfl | exact bi_in _ | omega) ?_
    exact ⟨bi_f (by omega), rfl⟩
  · refine g_iload_n (pc := 4) E dX0_hasStudent_4 (i := 1) rfl rfl ?_
    refine g_aload_n (pc := 5) E dX0_hasStudent_5 (i := 0) rfl rfl ?_
    refine g_geti (i := 0) (t := 0) (f := 2) (fz := 2) (pc := 6) E dX0_hasStudent_6 fl_X0_18 rfl (by decide) (by decide) rfl rfl hB.c2 (fun _ _ => ?_)
    refine g_icmp_ge (pc := 9) (tgt := 16) E dX0_hasStudent_9 (by decide) (fun qh9 => ?_) (fun qh9 => ?_) 
    · refine g_iconst (pc := 16) E dX0_hasStudent_16 rfl ?_
      refine g_zret (pc := 17) E hr dX0_hasStudent_17 (by first | exact Or.inl rfl | exact Or.inr rfl | exact bi_in _ | omega) ?_
      exact ⟨bi_f (by omega), rfl⟩
    · refine g_iconst (pc := 12) E dX0_hasStudent_12 rfl ?_
      refine g_goto (pc := 13) (tgt := 17) E dX0_hasStudent_13 (by decide) ?_
      refine g_zret (pc := 17) E hr dX0_hasStudent_17 (by first | exact Or.inl rfl | exact Or.inr rfl | exact bi_in _ | omega) ?_
      exact ⟨bi_t (by omega), rfl⟩

theorem ct_hasFirst {cx : Cx} {M : Mem} {S : Int → Int} (hB : BD M S) (hV : SOK S) {sn p : Int} (hs0 : 0 ≤ sn) (hs1 : sn < S 7) (hp0 : 0 ≤ p) (hp1 : p < S 6) : Ct cx yX0_hasFirst cX0_hasFirst 3 (some .boolean) 1 0 0 [rf cx 0, .int (oi sn), .int (oi p)] M (fun rz M' => bi (¬ S (57 + 3 * (8 * sn + p)) = 0) = rz ∧ M = M') := by
  refine ct_intro cd_X0_hasFirst (by decide +kernel) (Nat.le_of_ble_eq_true rfl) rfl (fun Pg Lc Ev s m args below meth c E hr => ?_)
  refine g_ent (ls' := [some (rf cx 0), some (.int (oi sn)), some (.int (oi p))]) rfl ?_
  have hV0 := hV.1
  have hB0 := hB.c0
  have hB1 := hB.c1
  have hB2 := hB.c2
  have hB3 := hB.c3
  have hVa := hV.2.2.2.2.1 sn p (by omega) (by omega) (by omega) (by omega)
  refine g_aload_n (pc := 0) E dX0_hasFirst_0 (i := 0) rfl rfl ?_
  refine g_getr (i := 0) (j := 7) (t := 0) (f := 10) (pc := 1) E dX0_hasFirst_1 fl_X0_43 rfl (by decide) (by decide) rfl rfl ?_
  refine g_iload_n (pc := 4) E dX0_hasFirst_4 (i := 1) rfl rfl ?_
  refine g_bipush (pc := 5) E dX0_hasFirst_5 rfl ?_
  refine g_imul (pc := 7) E dX0_hasFirst_7 ?_
  refine g_iload_n (pc := 8) E dX0_hasFirst_8 (i := 2) rfl rfl ?_
  refine g_iadd (pc := 9) E dX0_hasFirst_9 ?_
  refine g_iald (q := 160) (pc := 10) E dX0_hasFirst_10 rfl (by omega) (by omega) (hB.f7 (by omega) (by omega) (by omega) (by omega)) (fun _ _ => ?_)
  refine g_if_eq (pc := 11) (tgt := 18) E dX0_hasFirst_11 (by decide) (fun qh11 => ?_) (fun qh11 => ?_) 
  · refine g_iconst (pc := 18) E dX0_hasFirst_18 rfl ?_
    refine g_zret (pc := 19) E hr dX0_hasFirst_19 (by first | exact Or.inl rfl | exact Or.inr rfl | exact bi_in _ | omega) ?_
    exact ⟨bi_f (by omega), rfl⟩
  · refine g_iconst (pc := 14) E dX0_hasFirst_14 rfl ?_
    refine g_goto (pc := 15) (tgt := 19) E dX0_hasFirst_15 (by decide) ?_
    refine g_zret (pc := 19) E hr dX0_hasFirst_19 (by first | exact Or.inl rfl | exact Or.inr rfl | exact bi_in _ | omega) ?_
    exact ⟨bi_t (by omega), rfl⟩

theorem ct_hasResit {cx : Cx} {M : Mem} {S : Int → Int} (hB : BD M S) (hV : SOK S) {sn p : Int} (hs0 : 0 ≤ sn) (hs1 : sn < S 7) (hp0 : 0 ≤ p) (hp1 : p < S 6) : Ct cx yX0_hasResit cX0_hasResit 3 (some .boolean) 1 0 0 [rf cx 0, .int (oi sn), .int (oi p)] M (fun rz M' => bi (0 ≤ S (57 + 3 * (8 * sn + p) + 2)) = rz ∧ M = M') := by
  refine ct_intro cd_X0_hasResit (by decide +kernel) (Nat.le_of_ble_eq_true rfl) rfl (fun Pg Lc Ev s m args below meth c E hr => ?_)
  refine g_ent (ls' := [some (rf cx 0), some (.int (oi sn)), some (.int (oi p))]) rfl ?_
  have hV0 := hV.1
  have hB0 := hB.c0
  have hB1 := hB.c1
  have hB2 := hB.c2
  have hB3 := hB.c3
  have hVa := hV.2.2.2.2.1 sn p (by omega) (by omega) (by omega) (by omega)
  have hVp := hV.2.2.1 p (by omega) (by omega)
  refine g_aload_n (pc := 0) E dX0_hasResit_0 (i := 0) rfl rfl ?_
  refine g_getr (i := 0) (j := 9) (t := 0) (f := 12) (pc := 1) E dX0_hasResit_1 fl_X0_49 rfl (by decide) (by decide) rfl rfl ?_
  refine g_iload_n (pc := 4) E dX0_hasResit_4 (i := 1) rfl rfl ?_
  refine g_bipush (pc := 5) E dX0_hasResit_5 rfl ?_
  refine g_imul (pc := 7) E dX0_hasResit_7 ?_
  refine g_iload_n (pc := 8) E dX0_hasResit_8 (i := 2) rfl rfl ?_
  refine g_iadd (pc := 9) E dX0_hasResit_9 ?_
  refine g_iald (q := 160) (pc := 10) E dX0_hasResit_10 rfl (by omega) (by omega) (hB.f9 (by omega) (by omega) (by omega) (by omega)) (fun _ _ => ?_)
  refine g_iconst (pc := 11) E dX0_hasResit_11 rfl ?_
  refine g_icmp_eq (pc := 12) (tgt := 19) E dX0_hasResit_12 (by decide) (fun qh12 => ?_) (fun qh12 => ?_) 
  · refine g_iconst (pc := 19) E dX0_hasResit_19 rfl ?_
    refine g_zret (pc := 20) E hr dX0_hasResit_20 (by first | exact Or.inl rfl | exact Or.inr rfl | exact bi_in _ | omega) ?_
    exact ⟨bi_f (by omega), rfl⟩
  · refine g_iconst (pc := 15) E dX0_hasResit_15 rfl ?_
    refine g_goto (pc := 16) (tgt := 20) E dX0_hasResit_16 (by decide) ?_
    refine g_zret (pc := 20) E hr dX0_hasResit_20 (by first | exact Or.inl rfl | exact Or.inr rfl | exact bi_in _ | omega) ?_
    exact ⟨bi_t (by omega), rfl⟩

theorem ct_percent0 {cx : Cx} {M : Mem} {S : Int → Int} (hB : BD M S) (hV : SOK S) {p raw : Int} (hp0 : 0 ≤ p) (hp1 : p < S 6) (hr0 : 0 ≤ raw) (hr1 : raw ≤ 200) : Ct cx yX0_percent cX0_percent 3 (some .int) 2 0 0 [rf cx 0, .int (oi p), .int (oi raw)] M (fun rz M' => pcS S p raw = rz ∧ M = M') := by
  refine ct_intro cd_X0_percent (by decide +kernel) (Nat.le_of_ble_eq_true rfl) rfl (fun Pg Lc Ev s m args below meth c E hr => ?_)
  refine g_ent (ls' := [some (rf cx 0), some (.int (oi p)), some (.int (oi raw))]) rfl ?_
  have hV0 := hV.1
  have hB0 := hB.c0
  have hB1 := hB.c1
  have hB2 := hB.c2
  have hB3 := hB.c3
  have hVp := hV.2.2.1 p (by omega) (by omega)
  refine g_bipush (pc := 0) E dX0_percent_0 rfl ?_
  refine g_iload_n (pc := 2) E dX0_percent_2 (i := 2) rfl rfl ?_
  refine g_imul (pc := 3) E dX0_percent_3 ?_
  refine g_aload_n (pc := 4) E dX0_percent_4 (i := 0) rfl rfl ?_
  refine g_getr (i := 0) (j := 5) (t := 0) (f := 8) (pc := 5) E dX0_percent_5 fl_X0_37 rfl (by decide) (by decide) rfl rfl ?_
  refine g_iload_n (pc := 8) E dX0_percent_8 (i := 1) rfl rfl ?_
  refine g_iald (q := 8) (pc := 9) E dX0_percent_9 rfl (by omega) (by omega) (hB.f5 _ (by omega) (by omega)) (fun _ _ => ?_)
  refine g_iconst (pc := 10) E dX0_percent_10 rfl ?_
  refine g_callN (pc := 11) (As := [_, _, _]) E dX0_percent_11 ml_X0_83 (ct_nearest5 (by omega) (by omega) (by omega) (by omega)) rfl rfl (by decide) (by decide) rfl (Nat.le_of_ble_eq_true rfl) (by decide) (fun x11 M11 hM11 => ?_)
  obtain ⟨rfl, rfl⟩ := hM11
  refine g_iret (pc := 14) E hr dX0_percent_14 ?_
  exact ⟨by rw [pcS, if_neg (by omega)], rfl⟩

theorem ct_rescaled {cx : Cx} {M : Mem} {S : Int → Int} (hB : BD M S) (hV : SOK S) {p cn x : Int} (hp0 : 0 ≤ p) (hp1 : p < S 6) (hc0 : 0 ≤ cn) (hc1 : cn < 3) (hx0 : 0 ≤ x) (hx1 : x ≤ 100) : Ct cx yX0_rescaled cX0_rescaled 5 (some .int) 2 0 0 [rf cx 0, .int (oi (p * 3 + cn)), .int (oi x)] M (fun rz M' => byS S p cn x = rz ∧ M = M') := by
  refine ct_intro cd_X0_rescaled (by decide +kernel) (Nat.le_of_ble_eq_true rfl) rfl (fun Pg Lc Ev s m args below meth c E hr => ?_)
  refine g_ent (ls' := [some (rf cx 0), some (.int (oi (p * 3 + cn))), some (.int (oi x)), none, none]) rfl ?_
  have hV0 := hV.1
  have hB0 := hB.c0
  have hB1 := hB.c1
  have hB2 := hB.c2
  have hB3 := hB.c3
  have hVr := hV.2.2.2.2.2 p cn (by omega) (by omega) (by omega) (by omega)
  have hVp := hV.2.2.1 p (by omega) (by omega)
  have hW := byV_R hV hp0 hp1 hc0 hc1 hx0 hx1
  have hm := mulR (a := x - 50) (b := S (537 + 2 * (3 * p + cn) + 1)) (A := 50) (B := 150) (by omega) (by omega) (by omega) (by omega)
  have hc := cntS_R hV p cn
  have hq := sumS_R hV cn hp0 hp1
  have hq2 := sumS_le hV cn hp0 hp1
  have JP96 : ∀ (w : Int), byV S p cn x = w → G cx Pg Lc Ev (rmD 2 0 0) s m args below meth c (MQ below (QI cx (fun rz M' => byS S p cn x = rz ∧ M = M')) args s 0 0 (cA0 cx)) 96 [some (rf cx 0), some (.int (oi (p * 3 + cn))), some (.int (oi x)), none, some (.int (oi w))] [] (M) 0 0 := by
    intro w hw
    refine g_iconst (pc := 96) E dX0_rescaled_96 rfl ?_
    refine g_bipush (pc := 97) E dX0_rescaled_97 rfl ?_
    refine g_iload (pc := 99) E dX0_rescaled_99 rfl ?_
    refine g_min (pc := 101) E dX0_rescaled_101 (big_at 402 (by decide +kernel) (by decide +kernel)) rfl (by decide) (Nat.le_of_ble_eq_true rfl) (by decide) ?_ 
    refine g_max (pc := 104) E dX0_rescaled_104 (big_at 486 (by decide +kernel) (by decide +kernel)) rfl (by decide) (Nat.le_of_ble_eq_true rfl) (by decide) ?_ 
    refine g_iret (pc := 107) E hr dX0_rescaled_107 ?_
    exact ⟨by rw [byS, hw], rfl⟩
  refine g_aload_n (pc := 0) E dX0_rescaled_0 (i := 0) rfl rfl ?_
  refine g_getr (i := 0) (j := 12) (t := 0) (f := 15) (pc := 1) E dX0_rescaled_1 fl_X0_58 rfl (by decide) (by decide) rfl rfl ?_
  refine g_iload_n (pc := 4) E dX0_rescaled_4 (i := 1) rfl rfl ?_
  refine g_iald (q := 24) (pc := 5) E dX0_rescaled_5 rfl (by omega) (by omega) (hB.f12 (by omega) (by omega) (by omega) (by omega)) (fun _ _ => ?_)
  refine g_istore_n (pc := 6) E dX0_rescaled_6 (i := 3) (ls' := [_, _, _, _, _]) rfl (Nat.le_of_ble_eq_true rfl) rfl ?_
  refine g_iload_n (pc := 7) E dX0_rescaled_7 (i := 2) rfl rfl ?_
  refine g_istore (pc := 8) E dX0_rescaled_8 (ls' := [_, _, _, _, _]) (Nat.le_of_ble_eq_true rfl) rfl ?_
  refine g_aload_n (pc := 10) E dX0_rescaled_10 (i := 0) rfl rfl ?_
  refine g_getr (i := 0) (j := 11) (t := 0) (f := 14) (pc := 11) E dX0_rescaled_11 fl_X0_55 rfl (by decide) (by decide) rfl rfl ?_
  refine g_iload_n (pc := 14) E dX0_rescaled_14 (i := 1) rfl rfl ?_
  refine g_iald (q := 24) (pc := 15) E dX0_rescaled_15 rfl (by omega) (by omega) (hB.f11 (by omega) (by omega) (by omega) (by omega)) (fun _ _ => ?_)
  by_cases qs16_0 : S (537 + 2 * (3 * p + cn)) = 1
  · refine g_tableIn (pc := 16) (tgt := 44) (off := 28) E dX0_rescaled_16 (by omega) (by omega) (by rw [qs16_0]; rfl) (by decide) ?_
    refine g_iload_n (pc := 44) E dX0_rescaled_44 (i := 2) rfl rfl ?_
    refine g_iload_n (pc := 45) E dX0_rescaled_45 (i := 3) rfl rfl ?_
    refine g_iadd (pc := 46) E dX0_rescaled_46 ?_
    refine g_istore (pc := 47) E dX0_rescaled_47 (ls' := [_, _, _, _, _]) (Nat.le_of_ble_eq_true rfl) rfl ?_
    refine g_goto (pc := 49) (tgt := 96) E dX0_rescaled_49 (by decide) ?_
    exact g_wk2 (JP96 _ (by rw [byV, if_neg (by omega), byR, if_pos (by omega)])) ⟨rfl, rfl, rfl, rfl, trivial⟩
  by_cases qs16_1 : S (537 + 2 * (3 * p + cn)) = 2
  · refine g_tableIn (pc := 16) (tgt := 52) (off := 36) E dX0_rescaled_16 (by omega) (by omega) (by rw [qs16_1]; rfl) (by decide) ?_
    refine g_bipush (pc := 52) E dX0_rescaled_52 rfl ?_
    refine g_iload_n (pc := 54) E dX0_rescaled_54 (i := 2) rfl rfl ?_
    refine g_bipush (pc := 55) E dX0_rescaled_55 rfl ?_
    refine g_isub (pc := 57) E dX0_rescaled_57 ?_
    refine g_iload_n (pc := 58) E dX0_rescaled_58 (i := 3) rfl rfl ?_
    refine g_imul (pc := 59) E dX0_rescaled_59 ?_
    refine g_bipush (pc := 60) E dX0_rescaled_60 rfl ?_
    refine g_callS (pc := 62) (As := [_, _]) E dX0_rescaled_62 ml_X0_87 (ct_floorDiv (by omega) (by omega) (by omega) (by omega)) rfl rfl (by decide) (by decide) rfl (Nat.le_of_ble_eq_true rfl) (by decide) (fun x62 M62 hM62 => ?_)
    obtain ⟨rfl, rfl⟩ := hM62
    refine g_iadd (pc := 65) E dX0_rescaled_65 ?_
    refine g_istore (pc := 66) E dX0_rescaled_66 (ls' := [_, _, _, _, _]) (Nat.le_of_ble_eq_true rfl) rfl ?_
    refine g_goto (pc := 68) (tgt := 96) E dX0_rescaled_68 (by decide) ?_
    exact g_wk2 (JP96 _ (by rw [byV, if_neg (by omega), byR, if_neg (by omega), if_pos (by omega)])) ⟨rfl, rfl, rfl, rfl, trivial⟩
  by_cases qs16_2 : S (537 + 2 * (3 * p + cn)) = 3
  · refine g_tableIn (pc := 16) (tgt := 71) (off := 55) E dX0_rescaled_16 (by omega) (by omega) (by rw [qs16_2]; rfl) (by decide) ?_
    refine g_iload_n (pc := 71) E dX0_rescaled_71 (i := 2) rfl rfl ?_
    refine g_iload_n (pc := 72) E dX0_rescaled_72 (i := 3) rfl rfl ?_
    refine g_iadd (pc := 73) E dX0_rescaled_73 ?_
    refine g_aload_n (pc := 74) E dX0_rescaled_74 (i := 0) rfl rfl ?_
    refine g_getr (i := 0) (j := 13) (t := 0) (f := 16) (pc := 75) E dX0_rescaled_75 fl_X0_61 rfl (by decide) (by decide) rfl rfl ?_
    refine g_iload_n (pc := 78) E dX0_rescaled_78 (i := 1) rfl rfl ?_
    refine g_iald (q := 24) (pc := 79) E dX0_rescaled_79 rfl (by omega) (by omega) (hB.f13 (by omega) (by omega) (by omega) (by omega)) (fun _ _ => ?_)
    refine g_aload_n (pc := 80) E dX0_rescaled_80 (i := 0) rfl rfl ?_
    refine g_getr (i := 0) (j := 14) (t := 0) (f := 17) (pc := 81) E dX0_rescaled_81 fl_X0_64 rfl (by decide) (by decide) rfl rfl ?_
    refine g_iload_n (pc := 84) E dX0_rescaled_84 (i := 1) rfl rfl ?_
    refine g_iald (q := 24) (pc := 85) E dX0_rescaled_85 rfl (by omega) (by omega) (hB.f14 (by omega) (by omega) (by omega) (by omega)) (fun _ _ => ?_)
    refine g_iload_n (pc := 86) E dX0_rescaled_86 (i := 3) rfl rfl ?_
    refine g_callN (pc := 87) (As := [_, _, _]) E dX0_rescaled_87 ml_X0_83 (ct_nearest5 (by omega) (by omega) (by omega) (by omega)) rfl rfl (by decide) (by decide) rfl (Nat.le_of_ble_eq_true rfl) (by decide) (fun x87 M87 hM87 => ?_)
    obtain ⟨rfl, rfl⟩ := hM87
    refine g_isub (pc := 90) E dX0_rescaled_90 ?_
    refine g_istore (pc := 91) E dX0_rescaled_91 (ls' := [_, _, _, _, _]) (Nat.le_of_ble_eq_true rfl) rfl ?_
    refine g_goto (pc := 93) (tgt := 96) E dX0_rescaled_93 (by decide) ?_
    exact g_wk2 (JP96 _ (by rw [byV]; split; (rw [if_neg (by omega), byR, if_neg (by omega), if_neg (by omega)]; omega); (rw [if_pos (by omega), byR, if_neg (by omega), if_neg (by omega)]; omega))) ⟨rfl, rfl, rfl, rfl, trivial⟩
  refine g_tableOut (pc := 16) (tgt := 96) E dX0_rescaled_16 (by omega) (by decide) ?_
  exact g_wk2 (JP96 _ (by rw [byV, if_neg (by omega), byR, if_neg (by omega), if_neg (by omega)])) ⟨rfl, rfl, rfl, rfl, trivial⟩

theorem ct_firstScaled {cx : Cx} {M : Mem} {S : Int → Int} (hB : BD M S) (hV : SOK S) {sn p : Int} (hs0 : 0 ≤ sn) (hs1 : sn < S 7) (hp0 : 0 ≤ p) (hp1 : p < S 6) : Ct cx yX0_firstScaled cX0_firstScaled 4 (some .int) 3 0 0 [rf cx 0, .int (oi sn), .int (oi p)] M (fun rz M' => scS S sn p = rz ∧ M = M') := by
  refine ct_intro cd_X0_firstScaled (by decide +kernel) (Nat.le_of_ble_eq_true rfl) rfl (fun Pg Lc Ev s m args below meth c E hr => ?_)
  refine g_ent (ls' := [some (rf cx 0), some (.int (oi sn)), some (.int (oi p)), none]) rfl ?_
  have hV0 := hV.1
  have hB0 := hB.c0
  have hB1 := hB.c1
  have hB2 := hB.c2
  have hB3 := hB.c3
  have hVp := hV.2.2.1 p (by omega) (by omega)
  have hVa := hV.2.2.2.2.1 sn p (by omega) (by omega) (by omega) (by omega)
  have hVs := hV.2.2.2.1 sn (by omega) (by omega)
  refine g_iload_n (pc := 0) E dX0_firstScaled_0 (i := 1) rfl rfl ?_
  refine g_bipush (pc := 1) E dX0_firstScaled_1 rfl ?_
  refine g_imul (pc := 3) E dX0_firstScaled_3 ?_
  refine g_iload_n (pc := 4) E dX0_firstScaled_4 (i := 2) rfl rfl ?_
  refine g_iadd (pc := 5) E dX0_firstScaled_5 ?_
  refine g_istore_n (pc := 6) E dX0_firstScaled_6 (i := 3) (ls' := [_, _, _, _]) rfl (Nat.le_of_ble_eq_true rfl) rfl ?_
  refine g_aload_n (pc := 7) E dX0_firstScaled_7 (i := 0) rfl rfl ?_
  refine g_getr (i := 0) (j := 7) (t := 0) (f := 10) (pc := 8) E dX0_firstScaled_8 fl_X0_43 rfl (by decide) (by decide) rfl rfl ?_
  refine g_iload_n (pc := 11) E dX0_firstScaled_11 (i := 3) rfl rfl ?_
  refine g_iald (q := 160) (pc := 12) E dX0_firstScaled_12 rfl (by omega) (by omega) (hB.f7 (by omega) (by omega) (by omega) (by omega)) (fun _ _ => ?_)
  refine g_iconst (pc := 13) E dX0_firstScaled_13 rfl ?_
  refine g_icmp_eq (pc := 14) (tgt := 19) E dX0_firstScaled_14 (by decide) (fun qh14 => ?_) (fun qh14 => ?_) 
  · have hf := fstS_R hV hs0 hs1 hp0 hp1
    have hfe : fstS S sn p = pcS S p (S (57 + 3 * (8 * sn + p) + 1)) := if_pos qh14
    refine g_aload_n (pc := 19) E dX0_firstScaled_19 (i := 0) rfl rfl ?_
    refine g_iload_n (pc := 20) E dX0_firstScaled_20 (i := 2) rfl rfl ?_
    refine g_iconst (pc := 21) E dX0_firstScaled_21 rfl ?_
    refine g_imul (pc := 22) E dX0_firstScaled_22 ?_
    refine g_aload_n (pc := 23) E dX0_firstScaled_23 (i := 0) rfl rfl ?_
    refine g_getr (i := 0) (j := 6) (t := 0) (f := 9) (pc := 24) E dX0_firstScaled_24 fl_X0_40 rfl (by decide) (by decide) rfl rfl ?_
    refine g_iload_n (pc := 27) E dX0_firstScaled_27 (i := 1) rfl rfl ?_
    refine g_iald (q := 20) (pc := 28) E dX0_firstScaled_28 rfl (by omega) (by omega) (hB.f6 _ (by omega) (by omega)) (fun _ _ => ?_)
    refine g_iadd (pc := 29) E dX0_firstScaled_29 ?_
    refine g_aload_n (pc := 30) E dX0_firstScaled_30 (i := 0) rfl rfl ?_
    refine g_iload_n (pc := 31) E dX0_firstScaled_31 (i := 2) rfl rfl ?_
    refine g_aload_n (pc := 32) E dX0_firstScaled_32 (i := 0) rfl rfl ?_
    refine g_getr (i := 0) (j := 8) (t := 0) (f := 11) (pc := 33) E dX0_firstScaled_33 fl_X0_46 rfl (by decide) (by decide) rfl rfl ?_
    refine g_iload_n (pc := 36) E dX0_firstScaled_36 (i := 3) rfl rfl ?_
    refine g_iald (q := 160) (pc := 37) E dX0_firstScaled_37 rfl (by omega) (by omega) (hB.f8 (by omega) (by omega) (by omega) (by omega)) (fun _ _ => ?_)
    refine g_callV (pc := 38) (As := [_, _]) E dX0_firstScaled_38 ml_X0_93 (ct_percent0 hB hV (by omega) (by omega) (by omega) (by omega)) rfl rfl rfl rfl (by decide) (by decide) rfl (Nat.le_of_ble_eq_true rfl) (by decide) (fun x38 M38 hM38 => ?_)
    obtain ⟨rfl, rfl⟩ := hM38
    refine g_callV (pc := 41) (As := [_, _]) E dX0_firstScaled_41 ml_X0_96 (ct_rescaled hB hV (by omega) (by omega) (by omega) (by omega) (by omega) (by omega)) rfl rfl rfl rfl (by decide) (by decide) rfl (Nat.le_of_ble_eq_true rfl) (by decide) (fun x41 M41 hM41 => ?_)
    obtain ⟨rfl, rfl⟩ := hM41
    refine g_iret (pc := 44) E hr dX0_firstScaled_44 ?_
    exact ⟨by rw [scS, if_pos qh14, hfe], rfl⟩
  · refine g_iconst (pc := 17) E dX0_firstScaled_17 rfl ?_
    refine g_iret (pc := 18) E hr dX0_firstScaled_18 ?_
    exact ⟨if_neg qh14, rfl⟩

theorem ct_resitWorth {cx : Cx} {M : Mem} {S : Int → Int} (hB : BD M S) (hV : SOK S) {sn p : Int} (hs0 : 0 ≤ sn) (hs1 : sn < S 7) (hp0 : 0 ≤ p) (hp1 : p < S 6) (hrw : 0 ≤ S (57 + 3 * (8 * sn + p) + 2)) : Ct cx yX0_resitWorth cX0_resitWorth 5 (some .int) 3 0 0 [rf cx 0, .int (oi sn), .int (oi p)] M (fun rz M' => agS S sn p = rz ∧ M = M') := by
  refine ct_intro cd_X0_resitWorth (by decide +kernel) (Nat.le_of_ble_eq_true rfl) rfl (fun Pg Lc Ev s m args below meth c E hr => ?_)
  refine g_ent (ls' := [some (rf cx 0), some (.int (oi sn)), some (.int (oi p)), none, none]) rfl ?_
  have hV0 := hV.1
  have hB0 := hB.c0
  have hB1 := hB.c1
  have hB2 := hB.c2
  have hB3 := hB.c3
  have hVp := hV.2.2.1 p (by omega) (by omega)
  have hVa := hV.2.2.2.2.1 sn p (by omega) (by omega) (by omega) (by omega)
  have hVs := hV.2.2.2.1 sn (by omega) (by omega)
  have hq := pcS_R (S := S) (p := p) (raw := S (57 + 3 * (8 * sn + p) + 2)) (by omega) (by omega) (by omega)
  refine g_iload_n (pc := 0) E dX0_resitWorth_0 (i := 1) rfl rfl ?_
  refine g_bipush (pc := 1) E dX0_resitWorth_1 rfl ?_
  refine g_imul (pc := 3) E dX0_resitWorth_3 ?_
  refine g_iload_n (pc := 4) E dX0_resitWorth_4 (i := 2) rfl rfl ?_
  refine g_iadd (pc := 5) E dX0_resitWorth_5 ?_
  refine g_istore_n (pc := 6) E dX0_resitWorth_6 (i := 3) (ls' := [_, _, _, _, _]) rfl (Nat.le_of_ble_eq_true rfl) rfl ?_
  refine g_aload_n (pc := 7) E dX0_resitWorth_7 (i := 0) rfl rfl ?_
  refine g_iload_n (pc := 8) E dX0_resitWorth_8 (i := 2) rfl rfl ?_
  refine g_aload_n (pc := 9) E dX0_resitWorth_9 (i := 0) rfl rfl ?_
  refine g_getr (i := 0) (j := 9) (t := 0) (f := 12) (pc := 10) E dX0_resitWorth_10 fl_X0_49 rfl (by decide) (by decide) rfl rfl ?_
  refine g_iload_n (pc := 13) E dX0_resitWorth_13 (i := 3) rfl rfl ?_
  refine g_iald (q := 160) (pc := 14) E dX0_resitWorth_14 rfl (by omega) (by omega) (hB.f9 (by omega) (by omega) (by omega) (by omega)) (fun _ _ => ?_)
  refine g_callV (pc := 15) (As := [_, _]) E dX0_resitWorth_15 ml_X0_93 (ct_percent0 hB hV (by omega) (by omega) (by omega) (by omega)) rfl rfl rfl rfl (by decide) (by decide) rfl (Nat.le_of_ble_eq_true rfl) (by decide) (fun x15 M15 hM15 => ?_)
  obtain ⟨rfl, rfl⟩ := hM15
  refine g_istore (pc := 18) E dX0_resitWorth_18 (ls' := [_, _, _, _, _]) (Nat.le_of_ble_eq_true rfl) rfl ?_
  refine g_aload_n (pc := 20) E dX0_resitWorth_20 (i := 0) rfl rfl ?_
  refine g_getr (i := 0) (j := 7) (t := 0) (f := 10) (pc := 21) E dX0_resitWorth_21 fl_X0_43 rfl (by decide) (by decide) rfl rfl ?_
  refine g_iload_n (pc := 24) E dX0_resitWorth_24 (i := 3) rfl rfl ?_
  refine g_iald (q := 160) (pc := 25) E dX0_resitWorth_25 rfl (by omega) (by omega) (hB.f7 (by omega) (by omega) (by omega) (by omega)) (fun _ _ => ?_)
  refine g_iconst (pc := 26) E dX0_resitWorth_26 rfl ?_
  refine g_icmp_ne (pc := 27) (tgt := 35) E dX0_resitWorth_27 (by decide) (fun qh27 => ?_) (fun qh27 => ?_) 
  · refine g_iload (pc := 35) E dX0_resitWorth_35 rfl ?_
    refine g_aload_n (pc := 37) E dX0_resitWorth_37 (i := 0) rfl rfl ?_
    refine g_getr (i := 0) (j := 1) (t := 0) (f := 4) (pc := 38) E dX0_resitWorth_38 fl_X0_24 rfl (by decide) (by decide) rfl rfl ?_
    refine g_iconst (pc := 41) E dX0_resitWorth_41 rfl ?_
    refine g_iald (q := 5) (pc := 42) E dX0_resitWorth_42 rfl (by omega) (by omega) (hB.f1 _ (by omega) (by omega)) (fun _ _ => ?_)
    refine g_min (pc := 43) E dX0_resitWorth_43 (big_at 402 (by decide +kernel) (by decide +kernel)) rfl (by decide) (Nat.le_of_ble_eq_true rfl) (by decide) ?_ 
    refine g_iret (pc := 46) E hr dX0_resitWorth_46 ?_
    exact ⟨by rw [agS, if_neg (by omega), if_neg (by omega)], rfl⟩
  · refine g_iload (pc := 30) E dX0_resitWorth_30 rfl ?_
    refine g_goto (pc := 32) (tgt := 46) E dX0_resitWorth_32 (by decide) ?_
    refine g_iret (pc := 46) E hr dX0_resitWorth_46 ?_
    exact ⟨by rw [agS, if_neg (by omega), if_pos (by omega)], rfl⟩

theorem ct_finalMark {cx : Cx} {M : Mem} {S : Int → Int} (hB : BD M S) (hV : SOK S) {sn p : Int} (hs0 : 0 ≤ sn) (hs1 : sn < S 7) (hp0 : 0 ≤ p) (hp1 : p < S 6) : Ct cx yX0_finalMark cX0_finalMark 4 (some .int) 4 0 0 [rf cx 0, .int (oi sn), .int (oi p)] M (fun rz M' => mkS S sn p = rz ∧ M = M') := by
  refine ct_intro cd_X0_finalMark (by decide +kernel) (Nat.le_of_ble_eq_true rfl) rfl (fun Pg Lc Ev s m args below meth c E hr => ?_)
  refine g_ent (ls' := [some (rf cx 0), some (.int (oi sn)), some (.int (oi p)), none]) rfl ?_
  have hV0 := hV.1
  have hB0 := hB.c0
  have hB1 := hB.c1
  have hB2 := hB.c2
  have hB3 := hB.c3
  have hVp := hV.2.2.1 p (by omega) (by omega)
  have hVa := hV.2.2.2.2.1 sn p (by omega) (by omega) (by omega) (by omega)
  have hVs := hV.2.2.2.1 sn (by omega) (by omega)
  have hc := scS_R S sn p
  have hg := agS_R hV hs0 hs1 hp0 hp1
  refine g_aload_n (pc := 0) E dX0_finalMark_0 (i := 0) rfl rfl ?_
  refine g_iload_n (pc := 1) E dX0_finalMark_1 (i := 1) rfl rfl ?_
  refine g_iload_n (pc := 2) E dX0_finalMark_2 (i := 2) rfl rfl ?_
  refine g_callV (pc := 3) (As := [_, _]) E dX0_finalMark_3 ml_X0_99 (ct_hasFirst hB hV (by omega) (by omega) (by omega) (by omega)) rfl rfl rfl rfl (by decide) (by decide) rfl (Nat.le_of_ble_eq_true rfl) (by decide) (fun x3 M3 hM3 => ?_)
  obtain ⟨rfl, rfl⟩ := hM3
  refine g_if_ne (pc := 6) (tgt := 11) E dX0_finalMark_6 (by decide) (fun qh6 => ?_) (fun qh6 => ?_) (Int.le_trans (by decide) (bi_R _).1) (Int.le_trans (bi_R _).2 (by decide))
  · replace qh6 := bi_n.mp qh6
    refine g_aload_n (pc := 11) E dX0_finalMark_11 (i := 0) rfl rfl ?_
    refine g_iload_n (pc := 12) E dX0_finalMark_12 (i := 1) rfl rfl ?_
    refine g_iload_n (pc := 13) E dX0_finalMark_13 (i := 2) rfl rfl ?_
    refine g_callV (pc := 14) (As := [_, _]) E dX0_finalMark_14 ml_X0_103 (ct_firstScaled hB hV (by omega) (by omega) (by omega) (by omega)) rfl rfl rfl rfl (by decide) (by decide) rfl (Nat.le_of_ble_eq_true rfl) (by decide) (fun x14 M14 hM14 => ?_)
    obtain ⟨rfl, rfl⟩ := hM14
    refine g_istore_n (pc := 17) E dX0_finalMark_17 (i := 3) (ls' := [_, _, _, _]) rfl (Nat.le_of_ble_eq_true rfl) rfl ?_
    refine g_aload_n (pc := 18) E dX0_finalMark_18 (i := 0) rfl rfl ?_
    refine g_iload_n (pc := 19) E dX0_finalMark_19 (i := 1) rfl rfl ?_
    refine g_iload_n (pc := 20) E dX0_finalMark_20 (i := 2) rfl rfl ?_
    refine g_callV (pc := 21) (As := [_, _]) E dX0_finalMark_21 ml_X0_106 (ct_hasResit hB hV (by omega) (by omega) (by omega) (by omega)) rfl rfl rfl rfl (by decide) (by decide) rfl (Nat.le_of_ble_eq_true rfl) (by decide) (fun x21 M21 hM21 => ?_)
    obtain ⟨rfl, rfl⟩ := hM21
    refine g_if_eq (pc := 24) (tgt := 40) E dX0_finalMark_24 (by decide) (fun qh24 => ?_) (fun qh24 => ?_) (Int.le_trans (by decide) (bi_R _).1) (Int.le_trans (bi_R _).2 (by decide))
    · replace qh24 := bi_0.mp qh24
      refine g_iload_n (pc := 40) E dX0_finalMark_40 (i := 3) rfl rfl ?_
      refine g_iret (pc := 41) E hr dX0_finalMark_41 ?_
      exact ⟨by rw [mkS, if_neg (by omega), show agS S sn p = -1 from if_pos (by omega)]; omega, rfl⟩
    · replace qh24 := bi_n.mp qh24
      refine g_iload_n (pc := 27) E dX0_finalMark_27 (i := 3) rfl rfl ?_
      refine g_aload_n (pc := 28) E dX0_finalMark_28 (i := 0) rfl rfl ?_
      refine g_iload_n (pc := 29) E dX0_finalMark_29 (i := 1) rfl rfl ?_
      refine g_iload_n (pc := 30) E dX0_finalMark_30 (i := 2) rfl rfl ?_
      refine g_callV (pc := 31) (As := [_, _]) E dX0_finalMark_31 ml_X0_109 (ct_resitWorth hB hV (by omega) (by omega) (by omega) (by omega) (by omega)) rfl rfl rfl rfl (by decide) (by decide) rfl (Nat.le_of_ble_eq_true rfl) (by decide) (fun x31 M31 hM31 => ?_)
      obtain ⟨rfl, rfl⟩ := hM31
      refine g_max (pc := 34) E dX0_finalMark_34 (big_at 486 (by decide +kernel) (by decide +kernel)) rfl (by decide) (Nat.le_of_ble_eq_true rfl) (by decide) ?_ 
      refine g_goto (pc := 37) (tgt := 41) E dX0_finalMark_37 (by decide) ?_
      refine g_iret (pc := 41) E hr dX0_finalMark_41 ?_
      exact ⟨by rw [mkS, if_neg (by omega)], rfl⟩
  · replace qh6 := bi_0.mp qh6
    refine g_iconst (pc := 9) E dX0_finalMark_9 rfl ?_
    refine g_iret (pc := 10) E hr dX0_finalMark_10 ?_
    exact ⟨if_pos (by omega), rfl⟩

theorem ct_reasonAgainst {cx : Cx} {M : Mem} {S : Int → Int} (hB : BD M S) (hV : SOK S) {k sn p raw : Int} (hk : k = 109 ∨ k = 114 ∨ k = 101 ∨ k = 97 ∨ k = 120) (hsn : -2147483648 ≤ sn ∧ sn ≤ 2147483647) (hp : -2147483648 ≤ p ∧ p ≤ 2147483647) (hraw : -2147483648 ≤ raw ∧ raw ≤ 2147483647) (hkr : k = 120 ∨ k = 101 ∨ k = 97 → raw = 0) : Ct cx yX0_reasonAgainst cX0_reasonAgainst 6 (some .int) 4 0 0 [rf cx 0, .int (oi k), .int (oi sn), .int (oi p), .int (oi raw)] M (fun rz M' => reS S k sn p raw = rz ∧ M = M') := by
  refine ct_intro cd_X0_reasonAgainst (by decide +kernel) (Nat.le_of_ble_eq_true rfl) rfl (fun Pg Lc Ev s m args below meth c E hr => ?_)
  refine g_ent (ls' := [some (rf cx 0), some (.int (oi k)), some (.int (oi sn)), some (.int (oi p)), some (.int (oi raw)), none]) rfl ?_
  have hV0 := hV.1
  have hB0 := hB.c0
  have hB1 := hB.c1
  have hB2 := hB.c2
  have hB3 := hB.c3
  have JP50 : ∀ (w : Int), w = 1 ∧ (k = 114 ∨ k = 120) ∨ w = 0 ∧ ¬ (k = 114 ∨ k = 120) → 0 ≤ sn ∧ sn < S 7 → 0 ≤ p ∧ p < S 6 → ¬ S (13 + 3 * p + 2) < raw → G cx Pg Lc Ev (rmD 4 0 0) s m args below meth c (MQ below (QI cx (fun rz M' => reS S k sn p raw = rz ∧ M = M')) args s 0 0 (cA0 cx)) 50 [some (rf cx 0), some (.int (oi k)), some (.int (oi sn)), some (.int (oi p)), some (.int (oi raw)), none] [.int (oi w)] (M) 0 0 := by
    intro w hw qh5 qh15 qh28
    have hVp := hV.2.2.1 p (by omega) (by omega)
    have hVa := hV.2.2.2.2.1 sn p (by omega) (by omega) (by omega) (by omega)
    have hVs := hV.2.2.2.1 sn (by omega) (by omega)
    have hbR := bi_R (¬ S (57 + 3 * (8 * sn + p)) = 0)
    refine g_istore (pc := 50) E dX0_reasonAgainst_50 (ls' := [_, _, _, _, _, _]) (Nat.le_of_ble_eq_true rfl) rfl ?_
    refine g_aload_n (pc := 52) E dX0_reasonAgainst_52 (i := 0) rfl rfl ?_
    refine g_iload_n (pc := 53) E dX0_reasonAgainst_53 (i := 2) rfl rfl ?_
    refine g_iload_n (pc := 54) E dX0_reasonAgainst_54 (i := 3) rfl rfl ?_
    refine g_callV (pc := 55) (As := [_, _]) E dX0_reasonAgainst_55 ml_X0_99 (ct_hasFirst hB hV (by omega) (by omega) (by omega) (by omega)) rfl rfl rfl rfl (by decide) (by decide) rfl (Nat.le_of_ble_eq_true rfl) (by decide) (fun x55 M55 hM55 => ?_)
    obtain ⟨rfl, rfl⟩ := hM55
    refine g_iload (pc := 58) E dX0_reasonAgainst_58 rfl ?_
    refine g_icmp_eq (pc := 60) (tgt := 74) E dX0_reasonAgainst_60 (by decide) (fun qh60 => ?_) (fun qh60 => ?_) 
    · have hbe : (¬ S (57 + 3 * (8 * sn + p)) = 0) ↔ (k = 114 ∨ k = 120) := by
        by_cases q : S (57 + 3 * (8 * sn + p)) = 0
        · rw [bi_f (fun z => z q)] at qh60; omega
        · rw [bi_t q] at qh60; omega
      refine g_iload_n (pc := 74) E dX0_reasonAgainst_74 (i := 1) rfl rfl ?_
      refine g_bipush (pc := 75) E dX0_reasonAgainst_75 rfl ?_
      refine g_icmp_eq (pc := 77) (tgt := 82) E dX0_reasonAgainst_77 (by decide) (fun qh77 => ?_) (fun qh77 => ?_) 
      · refine g_aload_n (pc := 82) E dX0_reasonAgainst_82 (i := 0) rfl rfl ?_
        refine g_iload_n (pc := 83) E dX0_reasonAgainst_83 (i := 2) rfl rfl ?_
        refine g_iload_n (pc := 84) E dX0_reasonAgainst_84 (i := 3) rfl rfl ?_
        refine g_callV (pc := 85) (As := [_, _]) E dX0_reasonAgainst_85 ml_X0_106 (ct_hasResit hB hV (by omega) (by omega) (by omega) (by omega)) rfl rfl rfl rfl (by decide) (by decide) rfl (Nat.le_of_ble_eq_true rfl) (by decide) (fun x85 M85 hM85 => ?_)
        obtain ⟨rfl, rfl⟩ := hM85
        refine g_if_eq (pc := 88) (tgt := 94) E dX0_reasonAgainst_88 (by decide) (fun qh88 => ?_) (fun qh88 => ?_) (Int.le_trans (by decide) (bi_R _).1) (Int.le_trans (bi_R _).2 (by decide))
        · replace qh88 := bi_0.mp qh88
          have hsc := scS_R S sn p
          refine g_aload_n (pc := 94) E dX0_reasonAgainst_94 (i := 0) rfl rfl ?_
          refine g_iload_n (pc := 95) E dX0_reasonAgainst_95 (i := 2) rfl rfl ?_
          refine g_iload_n (pc := 96) E dX0_reasonAgainst_96 (i := 3) rfl rfl ?_
          refine g_callV (pc := 97) (As := [_, _]) E dX0_reasonAgainst_97 ml_X0_103 (ct_firstScaled hB hV (by omega) (by omega) (by omega) (by omega)) rfl rfl rfl rfl (by decide) (by decide) rfl (Nat.le_of_ble_eq_true rfl) (by decide) (fun x97 M97 hM97 => ?_)
          obtain ⟨rfl, rfl⟩ := hM97
          refine g_aload_n (pc := 100) E dX0_reasonAgainst_100 (i := 0) rfl rfl ?_
          refine g_getr (i := 0) (j := 1) (t := 0) (f := 4) (pc := 101) E dX0_reasonAgainst_101 fl_X0_24 rfl (by decide) (by decide) rfl rfl ?_
          refine g_iconst (pc := 104) E dX0_reasonAgainst_104 rfl ?_
          refine g_iald (q := 5) (pc := 105) E dX0_reasonAgainst_105 rfl (by omega) (by omega) (hB.f1 _ (by omega) (by omega)) (fun _ _ => ?_)
          refine g_icmp_lt (pc := 106) (tgt := 114) E dX0_reasonAgainst_106 (by decide) (fun qh106 => ?_) (fun qh106 => ?_) 
          · refine g_iconst (pc := 114) E dX0_reasonAgainst_114 rfl ?_
            refine g_iret (pc := 115) E hr dX0_reasonAgainst_115 ?_
            exact ⟨by rw [reS, if_neg (by omega), if_neg (by omega), if_neg (by omega), if_pos (by omega), if_neg (by omega), if_neg (by omega), if_neg (by omega), if_neg (by omega)], rfl⟩
          · refine g_bipush (pc := 109) E dX0_reasonAgainst_109 rfl ?_
            refine g_goto (pc := 111) (tgt := 115) E dX0_reasonAgainst_111 (by decide) ?_
            refine g_iret (pc := 115) E hr dX0_reasonAgainst_115 ?_
            exact ⟨by rw [reS, if_neg (by omega), if_neg (by omega), if_neg (by omega), if_pos (by omega), if_neg (by omega), if_neg (by omega), if_neg (by omega), if_pos (by omega)], rfl⟩
        · replace qh88 := bi_n.mp qh88
          refine g_bipush (pc := 91) E dX0_reasonAgainst_91 rfl ?_
          refine g_iret (pc := 93) E hr dX0_reasonAgainst_93 ?_
          exact ⟨by rw [reS, if_neg (by omega), if_neg (by omega), if_neg (by omega), if_pos (by omega), if_neg (by omega), if_neg (by omega), if_pos (by omega)], rfl⟩
      · refine g_iconst (pc := 80) E dX0_reasonAgainst_80 rfl ?_
        refine g_iret (pc := 81) E hr dX0_reasonAgainst_81 ?_
        exact ⟨by rw [reS, if_neg (by omega), if_neg (by omega), if_neg (by omega)]; (repeat' split) <;> omega, rfl⟩
    · have hbe : ¬ ((¬ S (57 + 3 * (8 * sn + p)) = 0) ↔ (k = 114 ∨ k = 120)) := by
        by_cases q : S (57 + 3 * (8 * sn + p)) = 0
        · rw [bi_f (fun z => z q)] at qh60; omega
        · rw [bi_t q] at qh60; omega
      refine g_iload (pc := 63) E dX0_reasonAgainst_63 rfl ?_
      refine g_if_eq (pc := 65) (tgt := 72) E dX0_reasonAgainst_65 (by decide) (fun qh65 => ?_) (fun qh65 => ?_) 
      · refine g_iconst (pc := 72) E dX0_reasonAgainst_72 rfl ?_
        refine g_iret (pc := 73) E hr dX0_reasonAgainst_73 ?_
        exact ⟨by rw [reS, if_neg (by omega), if_neg (by omega), if_neg (by omega), if_neg (by omega), if_neg (by omega)], rfl⟩
      · refine g_iconst (pc := 68) E dX0_reasonAgainst_68 rfl ?_
        refine g_goto (pc := 69) (tgt := 73) E dX0_reasonAgainst_69 (by decide) ?_
        refine g_iret (pc := 73) E hr dX0_reasonAgainst_73 ?_
        exact ⟨by rw [reS, if_neg (by omega), if_neg (by omega), if_neg (by omega), if_pos (by omega), if_pos (by omega)], rfl⟩
  refine g_aload_n (pc := 0) E dX0_reasonAgainst_0 (i := 0) rfl rfl ?_
  refine g_iload_n (pc := 1) E dX0_reasonAgainst_1 (i := 2) rfl rfl ?_
  refine g_callV (pc := 2) (As := [_]) E dX0_reasonAgainst_2 ml_X0_112 (ct_hasStudent hB hV (by omega)) rfl rfl rfl rfl (by decide) (by decide) rfl (Nat.le_of_ble_eq_true rfl) (by decide) (fun x2 M2 hM2 => ?_)
  obtain ⟨rfl, rfl⟩ := hM2
  refine g_if_ne (pc := 5) (tgt := 10) E dX0_reasonAgainst_5 (by decide) (fun qh5 => ?_) (fun qh5 => ?_) (Int.le_trans (by decide) (bi_R _).1) (Int.le_trans (bi_R _).2 (by decide))
  · replace qh5 := bi_n.mp qh5
    refine g_aload_n (pc := 10) E dX0_reasonAgainst_10 (i := 0) rfl rfl ?_
    refine g_iload_n (pc := 11) E dX0_reasonAgainst_11 (i := 3) rfl rfl ?_
    refine g_callV (pc := 12) (As := [_]) E dX0_reasonAgainst_12 ml_X0_116 (ct_hasPaper hB hV (by omega)) rfl rfl rfl rfl (by decide) (by decide) rfl (Nat.le_of_ble_eq_true rfl) (by decide) (fun x12 M12 hM12 => ?_)
    obtain ⟨rfl, rfl⟩ := hM12
    refine g_if_ne (pc := 15) (tgt := 20) E dX0_reasonAgainst_15 (by decide) (fun qh15 => ?_) (fun qh15 => ?_) (Int.le_trans (by decide) (bi_R _).1) (Int.le_trans (bi_R _).2 (by decide))
    · replace qh15 := bi_n.mp qh15
      have hVp := hV.2.2.1 p (by omega) (by omega)
      have hVa := hV.2.2.2.2.1 sn p (by omega) (by omega) (by omega) (by omega)
      have hVs := hV.2.2.2.1 sn (by omega) (by omega)
      refine g_iload (pc := 20) E dX0_reasonAgainst_20 rfl ?_
      refine g_aload_n (pc := 22) E dX0_reasonAgainst_22 (i := 0) rfl rfl ?_
      refine g_getr (i := 0) (j := 5) (t := 0) (f := 8) (pc := 23) E dX0_reasonAgainst_23 fl_X0_37 rfl (by decide) (by decide) rfl rfl ?_
      refine g_iload_n (pc := 26) E dX0_reasonAgainst_26 (i := 3) rfl rfl ?_
      refine g_iald (q := 8) (pc := 27) E dX0_reasonAgainst_27 rfl (by omega) (by omega) (hB.f5 _ (by omega) (by omega)) (fun _ _ => ?_)
      refine g_icmp_le (pc := 28) (tgt := 33) E dX0_reasonAgainst_28 (by decide) (fun qh28 => ?_) (fun qh28 => ?_) 
      · refine g_iload_n (pc := 33) E dX0_reasonAgainst_33 (i := 1) rfl rfl ?_
        refine g_bipush (pc := 34) E dX0_reasonAgainst_34 rfl ?_
        refine g_icmp_eq (pc := 36) (tgt := 45) E dX0_reasonAgainst_36 (by decide) (fun qh36 => ?_) (fun qh36 => ?_) 
        · refine g_iconst (pc := 45) E dX0_reasonAgainst_45 rfl ?_
          refine g_goto (pc := 46) (tgt := 50) E dX0_reasonAgainst_46 (by decide) ?_
          exact g_wk2 (JP50 _ (Or.inl ⟨rfl, Or.inl (by omega)⟩) qh5 qh15 (by omega)) ⟨rfl, rfl, rfl, rfl, rfl, trivial⟩
        · refine g_iload_n (pc := 39) E dX0_reasonAgainst_39 (i := 1) rfl rfl ?_
          refine g_bipush (pc := 40) E dX0_reasonAgainst_40 rfl ?_
          refine g_icmp_ne (pc := 42) (tgt := 49) E dX0_reasonAgainst_42 (by decide) (fun qh42 => ?_) (fun qh42 => ?_) 
          · refine g_iconst (pc := 49) E dX0_reasonAgainst_49 rfl ?_
            exact g_wk2 (JP50 _ (Or.inr ⟨rfl, by omega⟩) qh5 qh15 (by omega)) ⟨rfl, rfl, rfl, rfl, rfl, trivial⟩
          · refine g_iconst (pc := 45) E dX0_reasonAgainst_45 rfl ?_
            refine g_goto (pc := 46) (tgt := 50) E dX0_reasonAgainst_46 (by decide) ?_
            exact g_wk2 (JP50 _ (Or.inl ⟨rfl, Or.inr (by omega)⟩) qh5 qh15 (by omega)) ⟨rfl, rfl, rfl, rfl, rfl, trivial⟩
      · refine g_iconst (pc := 31) E dX0_reasonAgainst_31 rfl ?_
        refine g_iret (pc := 32) E hr dX0_reasonAgainst_32 ?_
        exact ⟨by rw [reS, if_neg (by omega), if_neg (by omega), if_pos (by omega)], rfl⟩
    · replace qh15 := bi_0.mp qh15
      refine g_iconst (pc := 18) E dX0_reasonAgainst_18 rfl ?_
      refine g_iret (pc := 19) E hr dX0_reasonAgainst_19 ?_
      exact ⟨by rw [reS, if_neg (by omega), if_pos (by omega)], rfl⟩
  · replace qh5 := bi_0.mp qh5
    refine g_iconst (pc := 8) E dX0_reasonAgainst_8 rfl ?_
    refine g_iret (pc := 9) E hr dX0_reasonAgainst_9 ?_
    exact ⟨by rw [reS, if_pos (by omega)], rfl⟩

theorem ct_aboutReason {cx : Cx} {M : Mem} {S : Int → Int} (hB : BD M S) (hV : SOK S) {r sn p : Int} (hr : -2147483648 ≤ r ∧ r ≤ 2147483647) (hsn : -2147483648 ≤ sn ∧ sn ≤ 2147483647) (hp : -2147483648 ≤ p ∧ p ≤ 2147483647) (h3 : r = 3 → 0 ≤ p ∧ p < S 6) (h7 : r = 7 → (0 ≤ sn ∧ sn < S 7) ∧ 0 ≤ p ∧ p < S 6) : Ct cx yX0_aboutReason cX0_aboutReason 4 (some .int) 4 0 0 [rf cx 0, .int (oi r), .int (oi sn), .int (oi p)] M (fun rz M' => abS S sn p r = rz ∧ M = M') := by
  refine ct_intro cd_X0_aboutReason (by decide +kernel) (Nat.le_of_ble_eq_true rfl) rfl (fun Pg Lc Ev s m args below meth c E hr => ?_)
  refine g_ent (ls' := [some (rf cx 0), some (.int (oi r)), some (.int (oi sn)), some (.int (oi p))]) rfl ?_
  have hV0 := hV.1
  have hB0 := hB.c0
  have hB1 := hB.c1
  have hB2 := hB.c2
  have hB3 := hB.c3
  refine g_iload_n (pc := 0) E dX0_aboutReason_0 (i := 1) rfl rfl ?_
  by_cases qs1_0 : r = 1
  · refine g_lookup (pc := 1) (tgt := 36) (off := 35) E dX0_aboutReason_1 (by decide +kernel) (by rw [qs1_0]; decide +kernel) (by decide) ?_
    refine g_iload_n (pc := 36) E dX0_aboutReason_36 (i := 2) rfl rfl ?_
    refine g_iret (pc := 37) E hr dX0_aboutReason_37 ?_
    exact ⟨if_pos qs1_0, rfl⟩
  by_cases qs1_1 : r = 3
  · refine g_lookup (pc := 1) (tgt := 38) (off := 37) E dX0_aboutReason_1 (by decide +kernel) (by rw [qs1_1]; decide +kernel) (by decide) ?_
    have h3 := h3 qs1_1
    refine g_aload_n (pc := 38) E dX0_aboutReason_38 (i := 0) rfl rfl ?_
    refine g_getr (i := 0) (j := 5) (t := 0) (f := 8) (pc := 39) E dX0_aboutReason_39 fl_X0_37 rfl (by decide) (by decide) rfl rfl ?_
    refine g_iload_n (pc := 42) E dX0_aboutReason_42 (i := 3) rfl rfl ?_
    refine g_iald (q := 8) (pc := 43) E dX0_aboutReason_43 rfl (by omega) (by omega) (hB.f5 _ (by omega) (by omega)) (fun _ _ => ?_)
    refine g_iret (pc := 44) E hr dX0_aboutReason_44 ?_
    exact ⟨by rw [abS, if_neg (by omega), if_pos qs1_1], rfl⟩
  by_cases qs1_2 : r = 7
  · refine g_lookup (pc := 1) (tgt := 45) (off := 44) E dX0_aboutReason_1 (by decide +kernel) (by rw [qs1_2]; decide +kernel) (by decide) ?_
    have h7 := h7 qs1_2
    refine g_aload_n (pc := 45) E dX0_aboutReason_45 (i := 0) rfl rfl ?_
    refine g_iload_n (pc := 46) E dX0_aboutReason_46 (i := 2) rfl rfl ?_
    refine g_iload_n (pc := 47) E dX0_aboutReason_47 (i := 3) rfl rfl ?_
    refine g_callV (pc := 48) (As := [_, _]) E dX0_aboutReason_48 ml_X0_103 (ct_firstScaled hB hV (by omega) (by omega) (by omega) (by omega)) rfl rfl rfl rfl (by decide) (by decide) rfl (Nat.le_of_ble_eq_true rfl) (by decide) (fun x48 M48 hM48 => ?_)
    obtain ⟨rfl, rfl⟩ := hM48
    refine g_iret (pc := 51) E hr dX0_aboutReason_51 ?_
    exact ⟨by rw [abS, if_neg (by omega), if_neg (by omega), if_pos qs1_2], rfl⟩
  refine g_lookup (pc := 1) (tgt := 52) (off := 51) E dX0_aboutReason_1 (by decide +kernel) (by simp [Op.lookupswitch.offset_cons, Op.lookupswitch.offset_nil, qs1_0, qs1_1, qs1_2, (mt Eq.symm qs1_0), (mt Eq.symm qs1_1), (mt Eq.symm qs1_2)]) (by decide) ?_
  refine g_iload_n (pc := 52) E dX0_aboutReason_52 (i := 3) rfl rfl ?_
  refine g_iret (pc := 53) E hr dX0_aboutReason_53 ?_
  exact ⟨by rw [abS, if_neg (by omega), if_neg (by omega), if_neg (by omega)], rfl⟩

theorem ct_hasRaw {cx : Cx} {M : Mem} {S : Int → Int} (hB : BD M S) (hV : SOK S) {sn p cn : Int} (hs0 : 0 ≤ sn) (hs1 : sn < S 7) (hp0 : 0 ≤ p) (hp1 : p < S 6) (hc0 : 0 ≤ cn) (hc1 : cn < 3) : Ct cx yX0_hasRaw cX0_hasRaw 4 (some .boolean) 1 0 0 [rf cx 0, .int (oi sn), .int (oi p), .int (oi cn)] M (fun rz M' => bi (rawIn S p cn sn) = rz ∧ M = M') := by
  refine ct_intro cd_X0_hasRaw (by decide +kernel) (Nat.le_of_ble_eq_true rfl) rfl (fun Pg Lc Ev s m args below meth c E hr => ?_)
  refine g_ent (ls' := [some (rf cx 0), some (.int (oi sn)), some (.int (oi p)), some (.int (oi cn))]) rfl ?_
  have hV0 := hV.1
  have hB0 := hB.c0
  have hB1 := hB.c1
  have hB2 := hB.c2
  have hB3 := hB.c3
  have hVp := hV.2.2.1 p (by omega) (by omega)
  have hVa := hV.2.2.2.2.1 sn p (by omega) (by omega) (by omega) (by omega)
  have hVs := hV.2.2.2.1 sn (by omega) (by omega)
  refine g_aload_n (pc := 0) E dX0_hasRaw_0 (i := 0) rfl rfl ?_
  refine g_getr (i := 0) (j := 6) (t := 0) (f := 9) (pc := 1) E dX0_hasRaw_1 fl_X0_40 rfl (by decide) (by decide) rfl rfl ?_
  refine g_iload_n (pc := 4) E dX0_hasRaw_4 (i := 1) rfl rfl ?_
  refine g_iald (q := 20) (pc := 5) E dX0_hasRaw_5 rfl (by omega) (by omega) (hB.f6 _ (by omega) (by omega)) (fun _ _ => ?_)
  refine g_iload_n (pc := 6) E dX0_hasRaw_6 (i := 3) rfl rfl ?_
  refine g_icmp_ne (pc := 7) (tgt := 29) E dX0_hasRaw_7 (by decide) (fun qh7 => ?_) (fun qh7 => ?_) 
  · refine g_iconst (pc := 29) E dX0_hasRaw_29 rfl ?_
    refine g_zret (pc := 30) E hr dX0_hasRaw_30 (by first | exact Or.inl rfl | exact Or.inr rfl | exact bi_in _ | omega) ?_
    exact ⟨bi_f (fun h => qh7 h.1), rfl⟩
  · refine g_aload_n (pc := 10) E dX0_hasRaw_10 (i := 0) rfl rfl ?_
    refine g_getr (i := 0) (j := 7) (t := 0) (f := 10) (pc := 11) E dX0_hasRaw_11 fl_X0_43 rfl (by decide) (by decide) rfl rfl ?_
    refine g_iload_n (pc := 14) E dX0_hasRaw_14 (i := 1) rfl rfl ?_
    refine g_bipush (pc := 15) E dX0_hasRaw_15 rfl ?_
    refine g_imul (pc := 17) E dX0_hasRaw_17 ?_
    refine g_iload_n (pc := 18) E dX0_hasRaw_18 (i := 2) rfl rfl ?_
    refine g_iadd (pc := 19) E dX0_hasRaw_19 ?_
    refine g_iald (q := 160) (pc := 20) E dX0_hasRaw_20 rfl (by omega) (by omega) (hB.f7 (by omega) (by omega) (by omega) (by omega)) (fun _ _ => ?_)
    refine g_iconst (pc := 21) E dX0_hasRaw_21 rfl ?_
    refine g_icmp_ne (pc := 22) (tgt := 29) E dX0_hasRaw_22 (by decide) (fun qh22 => ?_) (fun qh22 => ?_) 
    · refine g_iconst (pc := 29) E dX0_hasRaw_29 rfl ?_
      refine g_zret (pc := 30) E hr dX0_hasRaw_30 (by first | exact Or.inl rfl | exact Or.inr rfl | exact bi_in _ | omega) ?_
      exact ⟨bi_f (fun h => qh22 h.2), rfl⟩
    · refine g_iconst (pc := 25) E dX0_hasRaw_25 rfl ?_
      refine g_goto (pc := 26) (tgt := 30) E dX0_hasRaw_26 (by decide) ?_
      refine g_zret (pc := 30) E hr dX0_hasRaw_30 (by first | exact Or.inl rfl | exact Or.inr rfl | exact bi_in _ | omega) ?_
      exact ⟨bi_t ⟨by omega, by omega⟩, rfl⟩

theorem ct_firstsIn {cx : Cx} {M : Mem} {S : Int → Int} (hB : BD M S) (hV : SOK S) {p : Int} (hp0 : 0 ≤ p) (hp1 : p < S 6) : Ct cx yX0_firstsIn cX0_firstsIn 4 (some .int) 2 0 0 [rf cx 0, .int (oi p)] M (fun rz M' => sz (paF S p 3) (S 7) = rz ∧ M = M') := by
  refine ct_intro cd_X0_firstsIn (by decide +kernel) (Nat.le_of_ble_eq_true rfl) rfl (fun Pg Lc Ev s m args below meth c E hr => ?_)
  refine g_ent (ls' := [some (rf cx 0), some (.int (oi p)), none, none]) rfl ?_
  have hV0 := hV.1
  have hB0 := hB.c0
  have hB1 := hB.c1
  have hB2 := hB.c2
  have hB3 := hB.c3
  refine g_iconst (pc := 0) E dX0_firstsIn_0 rfl ?_
  refine g_istore_n (pc := 1) E dX0_firstsIn_1 (i := 2) (ls' := [_, _, _, _]) rfl (Nat.le_of_ble_eq_true rfl) rfl ?_
  refine g_iconst (pc := 2) E dX0_firstsIn_2 rfl ?_
  refine g_istore_n (pc := 3) E dX0_firstsIn_3 (i := 3) (ls' := [_, _, _, _]) rfl (Nat.le_of_ble_eq_true rfl) rfl ?_
  have LP4 : ∀ (n : Nat) (x a : Int), S 7 - x < (n : Int) → 0 ≤ x → x ≤ S 7 → a = sz (paF S p 3) x → G cx Pg Lc Ev (rmD 2 0 0) s m args below meth c (MQ below (QI cx (fun rz M' => sz (paF S p 3) (S 7) = rz ∧ M = M')) args s 0 0 (cA0 cx)) 4 [some (rf cx 0), some (.int (oi p)), some (.int (oi a)), some (.int (oi x))] [] (M) 0 0 := by
    intro n
    induction n with
    | zero => intro x a hn hx0 hx1 ha; exact absurd hn (by omega)
    | succ n ih4 =>
      intro x a hn hx0 hx1 ha
      refine g_iload_n (pc := 4) E dX0_firstsIn_4 (i := 3) rfl rfl ?_
      refine g_aload_n (pc := 5) E dX0_firstsIn_5 (i := 0) rfl rfl ?_
      refine g_geti (i := 0) (t := 0) (f := 2) (fz := 2) (pc := 6) E dX0_firstsIn_6 fl_X0_18 rfl (by decide) (by decide) rfl rfl hB.c2 (fun _ _ => ?_)
      refine g_icmp_ge (pc := 9) (tgt := 30) E dX0_firstsIn_9 (by decide) (fun qh9 => ?_) (fun qh9 => ?_) 
      · refine g_iload_n (pc := 30) E dX0_firstsIn_30 (i := 2) rfl rfl ?_
        refine g_iret (pc := 31) E hr dX0_firstsIn_31 ?_
        exact ⟨by rw [ha, show x = S 7 by omega], rfl⟩
      · refine g_aload_n (pc := 12) E dX0_firstsIn_12 (i := 0) rfl rfl ?_
        refine g_iload_n (pc := 13) E dX0_firstsIn_13 (i := 3) rfl rfl ?_
        refine g_iload_n (pc := 14) E dX0_firstsIn_14 (i := 1) rfl rfl ?_
        refine g_callV (pc := 15) (As := [_, _]) E dX0_firstsIn_15 ml_X0_99 (ct_hasFirst hB hV (by omega) (by omega) (by omega) (by omega)) rfl rfl rfl rfl (by decide) (by decide) rfl (Nat.le_of_ble_eq_true rfl) (by decide) (fun x15 M15 hM15 => ?_)
        obtain ⟨rfl, rfl⟩ := hM15
        have hVa := hV.2.2.2.2.1 x p (by omega) (by omega) (by omega) (by omega)
        refine g_if_eq (pc := 18) (tgt := 24) E dX0_firstsIn_18 (by decide) (fun qh18 => ?_) (fun qh18 => ?_) (Int.le_trans (by decide) (bi_R _).1) (Int.le_trans (bi_R _).2 (by decide))
        · replace qh18 := bi_0.mp qh18
          refine g_iinc (pc := 24) E dX0_firstsIn_24 (ls' := [_, _, _, _]) rfl rfl rfl ?_
          refine g_goto (pc := 27) (tgt := 4) E dX0_firstsIn_27 (by decide) ?_
          exact g_wk2 (ih4 (x + 1) a (by omega) (by omega) (by omega) (by rw [sz_s hx0, ha, show (paF S p 3) x = 0 from by rw [paF, if_pos rfl, if_neg (by omega)]]; omega)) ⟨rfl, rfl, rfl, rfl, trivial⟩
        · replace qh18 := bi_n.mp qh18
          refine g_iinc (pc := 21) E dX0_firstsIn_21 (ls' := [_, _, _, _]) rfl rfl rfl ?_
          refine g_iinc (pc := 24) E dX0_firstsIn_24 (ls' := [_, _, _, _]) rfl rfl rfl ?_
          refine g_goto (pc := 27) (tgt := 4) E dX0_firstsIn_27 (by decide) ?_
          exact g_wk2 (ih4 (x + 1) (a + 1) (by omega) (by omega) (by omega) (by rw [sz_s hx0, ha, show (paF S p 3) x = 1 from by rw [paF, if_pos rfl, if_pos (by omega)]])) ⟨rfl, rfl, rfl, rfl, trivial⟩
  exact g_wk2 (LP4 (S 7 + 1).toNat 0 0 (by omega) (by omega) (by omega) rfl) ⟨rfl, rfl, rfl, rfl, trivial⟩

theorem ct_resitsIn {cx : Cx} {M : Mem} {S : Int → Int} (hB : BD M S) (hV : SOK S) {p : Int} (hp0 : 0 ≤ p) (hp1 : p < S 6) : Ct cx yX0_resitsIn cX0_resitsIn 4 (some .int) 2 0 0 [rf cx 0, .int (oi p)] M (fun rz M' => sz (paF S p 4) (S 7) = rz ∧ M = M') := by
  refine ct_intro cd_X0_resitsIn (by decide +kernel) (Nat.le_of_ble_eq_true rfl) rfl (fun Pg Lc Ev s m args below meth c E hr => ?_)
  refine g_ent (ls' := [some (rf cx 0), some (.int (oi p)), none, none]) rfl ?_
  have hV0 := hV.1
  have hB0 := hB.c0
  have hB1 := hB.c1
  have hB2 := hB.c2
  have hB3 := hB.c3
  refine g_iconst (pc := 0) E dX0_resitsIn_0 rfl ?_
  refine g_istore_n (pc := 1) E dX0_resitsIn_1 (i := 2) (ls' := [_, _, _, _]) rfl (Nat.le_of_ble_eq_true rfl) rfl ?_
  refine g_iconst (pc := 2) E dX0_resitsIn_2 rfl ?_
  refine g_istore_n (pc := 3) E dX0_resitsIn_3 (i := 3) (ls' := [_, _, _, _]) rfl (Nat.le_of_ble_eq_true rfl) rfl ?_
  have LP4 : ∀ (n : Nat) (x a : Int), S 7 - x < (n : Int) → 0 ≤ x → x ≤ S 7 → a = sz (paF S p 4) x → G cx Pg Lc Ev (rmD 2 0 0) s m args below meth c (MQ below (QI cx (fun rz M' => sz (paF S p 4) (S 7) = rz ∧ M = M')) args s 0 0 (cA0 cx)) 4 [some (rf cx 0), some (.int (oi p)), some (.int (oi a)), some (.int (oi x))] [] (M) 0 0 := by
    intro n
    induction n with
    | zero => intro x a hn hx0 hx1 ha; exact absurd hn (by omega)
    | succ n ih4 =>
      intro x a hn hx0 hx1 ha
      refine g_iload_n (pc := 4) E dX0_resitsIn_4 (i := 3) rfl rfl ?_
      refine g_aload_n (pc := 5) E dX0_resitsIn_5 (i := 0) rfl rfl ?_
      refine g_geti (i := 0) (t := 0) (f := 2) (fz := 2) (pc := 6) E dX0_resitsIn_6 fl_X0_18 rfl (by decide) (by decide) rfl rfl hB.c2 (fun _ _ => ?_)
      refine g_icmp_ge (pc := 9) (tgt := 30) E dX0_resitsIn_9 (by decide) (fun qh9 => ?_) (fun qh9 => ?_) 
      · refine g_iload_n (pc := 30) E dX0_resitsIn_30 (i := 2) rfl rfl ?_
        refine g_iret (pc := 31) E hr dX0_resitsIn_31 ?_
        exact ⟨by rw [ha, show x = S 7 by omega], rfl⟩
      · refine g_aload_n (pc := 12) E dX0_resitsIn_12 (i := 0) rfl rfl ?_
        refine g_iload_n (pc := 13) E dX0_resitsIn_13 (i := 3) rfl rfl ?_
        refine g_iload_n (pc := 14) E dX0_resitsIn_14 (i := 1) rfl rfl ?_
        refine g_callV (pc := 15) (As := [_, _]) E dX0_resitsIn_15 ml_X0_106 (ct_hasResit hB hV (by omega) (by omega) (by omega) (by omega)) rfl rfl rfl rfl (by decide) (by decide) rfl (Nat.le_of_ble_eq_true rfl) (by decide) (fun x15 M15 hM15 => ?_)
        obtain ⟨rfl, rfl⟩ := hM15
        refine g_if_eq (pc := 18) (tgt := 24) E dX0_resitsIn_18 (by decide) (fun qh18 => ?_) (fun qh18 => ?_) (Int.le_trans (by decide) (bi_R _).1) (Int.le_trans (bi_R _).2 (by decide))
        · replace qh18 := bi_0.mp qh18
          refine g_iinc (pc := 24) E dX0_resitsIn_24 (ls' := [_, _, _, _]) rfl rfl rfl ?_
          refine g_goto (pc := 27) (tgt := 4) E dX0_resitsIn_27 (by decide) ?_
          exact g_wk2 (ih4 (x + 1) a (by omega) (by omega) (by omega) (by rw [sz_s hx0, ha, show (paF S p 4) x = 0 from by rw [paF, if_neg (by omega), if_pos rfl, if_neg (by omega)]]; omega)) ⟨rfl, rfl, rfl, rfl, trivial⟩
        · replace qh18 := bi_n.mp qh18
          refine g_iinc (pc := 21) E dX0_resitsIn_21 (ls' := [_, _, _, _]) rfl rfl rfl ?_
          refine g_iinc (pc := 24) E dX0_resitsIn_24 (ls' := [_, _, _, _]) rfl rfl rfl ?_
          refine g_goto (pc := 27) (tgt := 4) E dX0_resitsIn_27 (by decide) ?_
          exact g_wk2 (ih4 (x + 1) (a + 1) (by omega) (by omega) (by omega) (by rw [sz_s hx0, ha, show (paF S p 4) x = 1 from by rw [paF, if_neg (by omega), if_pos rfl, if_pos (by omega)]])) ⟨rfl, rfl, rfl, rfl, trivial⟩
  exact g_wk2 (LP4 (S 7 + 1).toNat 0 0 (by omega) (by omega) (by omega) rfl) ⟨rfl, rfl, rfl, rfl, trivial⟩

theorem ct_firstsOf {cx : Cx} {M : Mem} {S : Int → Int} (hB : BD M S) (hV : SOK S) {sn : Int} (hs0 : 0 ≤ sn) (hs1 : sn < S 7) : Ct cx yX0_firstsOf cX0_firstsOf 4 (some .int) 2 0 0 [rf cx 0, .int (oi sn)] M (fun rz M' => sz (abF S sn) (S 6) = rz ∧ M = M') := by
  refine ct_intro cd_X0_firstsOf (by decide +kernel) (Nat.le_of_ble_eq_true rfl) rfl (fun Pg Lc Ev s m args below meth c E hr => ?_)
  refine g_ent (ls' := [some (rf cx 0), some (.int (oi sn)), none, none]) rfl ?_
  have hV0 := hV.1
  have hB0 := hB.c0
  have hB1 := hB.c1
  have hB2 := hB.c2
  have hB3 := hB.c3
  refine g_iconst (pc := 0) E dX0_firstsOf_0 rfl ?_
  refine g_istore_n (pc := 1) E dX0_firstsOf_1 (i := 2) (ls' := [_, _, _, _]) rfl (Nat.le_of_ble_eq_true rfl) rfl ?_
  refine g_iconst (pc := 2) E dX0_firstsOf_2 rfl ?_
  refine g_istore_n (pc := 3) E dX0_firstsOf_3 (i := 3) (ls' := [_, _, _, _]) rfl (Nat.le_of_ble_eq_true rfl) rfl ?_
  have LP4 : ∀ (n : Nat) (x a : Int), S 6 - x < (n : Int) → 0 ≤ x → x ≤ S 6 → a = sz (abF S sn) x → G cx Pg Lc Ev (rmD 2 0 0) s m args below meth c (MQ below (QI cx (fun rz M' => sz (abF S sn) (S 6) = rz ∧ M = M')) args s 0 0 (cA0 cx)) 4 [some (rf cx 0), some (.int (oi sn)), some (.int (oi a)), some (.int (oi x))] [] (M) 0 0 := by
    intro n
    induction n with
    | zero => intro x a hn hx0 hx1 ha; exact absurd hn (by omega)
    | succ n ih4 =>
      intro x a hn hx0 hx1 ha
      refine g_iload_n (pc := 4) E dX0_firstsOf_4 (i := 3) rfl rfl ?_
      refine g_aload_n (pc := 5) E dX0_firstsOf_5 (i := 0) rfl rfl ?_
      refine g_geti (i := 0) (t := 0) (f := 1) (fz := 1) (pc := 6) E dX0_firstsOf_6 fl_X0_15 rfl (by decide) (by decide) rfl rfl hB.c1 (fun _ _ => ?_)
      refine g_icmp_ge (pc := 9) (tgt := 30) E dX0_firstsOf_9 (by decide) (fun qh9 => ?_) (fun qh9 => ?_) 
      · refine g_iload_n (pc := 30) E dX0_firstsOf_30 (i := 2) rfl rfl ?_
        refine g_iret (pc := 31) E hr dX0_firstsOf_31 ?_
        exact ⟨by rw [ha, show x = S 6 by omega], rfl⟩
      · refine g_aload_n (pc := 12) E dX0_firstsOf_12 (i := 0) rfl rfl ?_
        refine g_iload_n (pc := 13) E dX0_firstsOf_13 (i := 1) rfl rfl ?_
        refine g_iload_n (pc := 14) E dX0_firstsOf_14 (i := 3) rfl rfl ?_
        refine g_callV (pc := 15) (As := [_, _]) E dX0_firstsOf_15 ml_X0_99 (ct_hasFirst hB hV (by omega) (by omega) (by omega) (by omega)) rfl rfl rfl rfl (by decide) (by decide) rfl (Nat.le_of_ble_eq_true rfl) (by decide) (fun x15 M15 hM15 => ?_)
        obtain ⟨rfl, rfl⟩ := hM15
        have hVa := hV.2.2.2.2.1 sn x (by omega) (by omega) (by omega) (by omega)
        refine g_if_eq (pc := 18) (tgt := 24) E dX0_firstsOf_18 (by decide) (fun qh18 => ?_) (fun qh18 => ?_) (Int.le_trans (by decide) (bi_R _).1) (Int.le_trans (bi_R _).2 (by decide))
        · replace qh18 := bi_0.mp qh18
          refine g_iinc (pc := 24) E dX0_firstsOf_24 (ls' := [_, _, _, _]) rfl rfl rfl ?_
          refine g_goto (pc := 27) (tgt := 4) E dX0_firstsOf_27 (by decide) ?_
          exact g_wk2 (ih4 (x + 1) a (by omega) (by omega) (by omega) (by rw [sz_s hx0, ha, show (abF S sn) x = 0 from if_neg (by omega)]; omega)) ⟨rfl, rfl, rfl, rfl, trivial⟩
        · replace qh18 := bi_n.mp qh18
          refine g_iinc (pc := 21) E dX0_firstsOf_21 (ls' := [_, _, _, _]) rfl rfl rfl ?_
          refine g_iinc (pc := 24) E dX0_firstsOf_24 (ls' := [_, _, _, _]) rfl rfl rfl ?_
          refine g_goto (pc := 27) (tgt := 4) E dX0_firstsOf_27 (by decide) ?_
          exact g_wk2 (ih4 (x + 1) (a + 1) (by omega) (by omega) (by omega) (by rw [sz_s hx0, ha, show (abF S sn) x = 1 from if_pos (by omega)])) ⟨rfl, rfl, rfl, rfl, trivial⟩
  exact g_wk2 (LP4 (S 6 + 1).toNat 0 0 (by omega) (by omega) (by omega) rfl) ⟨rfl, rfl, rfl, rfl, trivial⟩

theorem ct_resitsOf {cx : Cx} {M : Mem} {S : Int → Int} (hB : BD M S) (hV : SOK S) {sn : Int} (hs0 : 0 ≤ sn) (hs1 : sn < S 7) : Ct cx yX0_resitsOf cX0_resitsOf 4 (some .int) 2 0 0 [rf cx 0, .int (oi sn)] M (fun rz M' => sz (skF S sn 8) (S 6) = rz ∧ M = M') := by
  refine ct_intro cd_X0_resitsOf (by decide +kernel) (Nat.le_of_ble_eq_true rfl) rfl (fun Pg Lc Ev s m args below meth c E hr => ?_)
  refine g_ent (ls' := [some (rf cx 0), some (.int (oi sn)), none, none]) rfl ?_
  have hV0 := hV.1
  have hB0 := hB.c0
  have hB1 := hB.c1
  have hB2 := hB.c2
  have hB3 := hB.c3
  refine g_iconst (pc := 0) E dX0_resitsOf_0 rfl ?_
  refine g_istore_n (pc := 1) E dX0_resitsOf_1 (i := 2) (ls' := [_, _, _, _]) rfl (Nat.le_of_ble_eq_true rfl) rfl ?_
  refine g_iconst (pc := 2) E dX0_resitsOf_2 rfl ?_
  refine g_istore_n (pc := 3) E dX0_resitsOf_3 (i := 3) (ls' := [_, _, _, _]) rfl (Nat.le_of_ble_eq_true rfl) rfl ?_
  have LP4 : ∀ (n : Nat) (x a : Int), S 6 - x < (n : Int) → 0 ≤ x → x ≤ S 6 → a = sz (skF S sn 8) x → G cx Pg Lc Ev (rmD 2 0 0) s m args below meth c (MQ below (QI cx (fun rz M' => sz (skF S sn 8) (S 6) = rz ∧ M = M')) args s 0 0 (cA0 cx)) 4 [some (rf cx 0), some (.int (oi sn)), some (.int (oi a)), some (.int (oi x))] [] (M) 0 0 := by
    intro n
    induction n with
    | zero => intro x a hn hx0 hx1 ha; exact absurd hn (by omega)
    | succ n ih4 =>
      intro x a hn hx0 hx1 ha
      refine g_iload_n (pc := 4) E dX0_resitsOf_4 (i := 3) rfl rfl ?_
      refine g_aload_n (pc := 5) E dX0_resitsOf_5 (i := 0) rfl rfl ?_
      refine g_geti (i := 0) (t := 0) (f := 1) (fz := 1) (pc := 6) E dX0_resitsOf_6 fl_X0_15 rfl (by decide) (by decide) rfl rfl hB.c1 (fun _ _ => ?_)
      refine g_icmp_ge (pc := 9) (tgt := 30) E dX0_resitsOf_9 (by decide) (fun qh9 => ?_) (fun qh9 => ?_) 
      · refine g_iload_n (pc := 30) E dX0_resitsOf_30 (i := 2) rfl rfl ?_
        refine g_iret (pc := 31) E hr dX0_resitsOf_31 ?_
        exact ⟨by rw [ha, show x = S 6 by omega], rfl⟩
      · refine g_aload_n (pc := 12) E dX0_resitsOf_12 (i := 0) rfl rfl ?_
        refine g_iload_n (pc := 13) E dX0_resitsOf_13 (i := 1) rfl rfl ?_
        refine g_iload_n (pc := 14) E dX0_resitsOf_14 (i := 3) rfl rfl ?_
        refine g_callV (pc := 15) (As := [_, _]) E dX0_resitsOf_15 ml_X0_106 (ct_hasResit hB hV (by omega) (by omega) (by omega) (by omega)) rfl rfl rfl rfl (by decide) (by decide) rfl (Nat.le_of_ble_eq_true rfl) (by decide) (fun x15 M15 hM15 => ?_)
        obtain ⟨rfl, rfl⟩ := hM15
        refine g_if_eq (pc := 18) (tgt := 24) E dX0_resitsOf_18 (by decide) (fun qh18 => ?_) (fun qh18 => ?_) (Int.le_trans (by decide) (bi_R _).1) (Int.le_trans (bi_R _).2 (by decide))
        · replace qh18 := bi_0.mp qh18
          refine g_iinc (pc := 24) E dX0_resitsOf_24 (ls' := [_, _, _, _]) rfl rfl rfl ?_
          refine g_goto (pc := 27) (tgt := 4) E dX0_resitsOf_27 (by decide) ?_
          exact g_wk2 (ih4 (x + 1) a (by omega) (by omega) (by omega) (by rw [sz_s hx0, ha, show (skF S sn 8) x = 0 from by rw [skF, if_neg (by omega), if_neg (by omega)]]; omega)) ⟨rfl, rfl, rfl, rfl, trivial⟩
        · replace qh18 := bi_n.mp qh18
          refine g_iinc (pc := 21) E dX0_resitsOf_21 (ls' := [_, _, _, _]) rfl rfl rfl ?_
          refine g_iinc (pc := 24) E dX0_resitsOf_24 (ls' := [_, _, _, _]) rfl rfl rfl ?_
          refine g_goto (pc := 27) (tgt := 4) E dX0_resitsOf_27 (by decide) ?_
          exact g_wk2 (ih4 (x + 1) (a + 1) (by omega) (by omega) (by omega) (by rw [sz_s hx0, ha, show (skF S sn 8) x = 1 from by rw [skF, if_neg (by omega), if_pos (by omega)]])) ⟨rfl, rfl, rfl, rfl, trivial⟩
  exact g_wk2 (LP4 (S 6 + 1).toNat 0 0 (by omega) (by omega) (by omega) rfl) ⟨rfl, rfl, rfl, rfl, trivial⟩

theorem ct_papersOf {cx : Cx} {M : Mem} {S : Int → Int} (hB : BD M S) (hV : SOK S) {mn : Int} (hmn : -2147483648 ≤ mn ∧ mn ≤ 2147483647) : Ct cx yX0_papersOf cX0_papersOf 4 (some .int) 1 0 0 [rf cx 0, .int (oi mn)] M (fun rz M' => pcnt S mn = rz ∧ M = M') := by
  refine ct_intro cd_X0_papersOf (by decide +kernel) (Nat.le_of_ble_eq_true rfl) rfl (fun Pg Lc Ev s m args below meth c E hr => ?_)
  refine g_ent (ls' := [some (rf cx 0), some (.int (oi mn)), none, none]) rfl ?_
  have hV0 := hV.1
  have hB0 := hB.c0
  have hB1 := hB.c1
  have hB2 := hB.c2
  have hB3 := hB.c3
  refine g_iconst (pc := 0) E dX0_papersOf_0 rfl ?_
  refine g_istore_n (pc := 1) E dX0_papersOf_1 (i := 2) (ls' := [_, _, _, _]) rfl (Nat.le_of_ble_eq_true rfl) rfl ?_
  refine g_iconst (pc := 2) E dX0_papersOf_2 rfl ?_
  refine g_istore_n (pc := 3) E dX0_papersOf_3 (i := 3) (ls' := [_, _, _, _]) rfl (Nat.le_of_ble_eq_true rfl) rfl ?_
  have LP4 : ∀ (n : Nat) (x a : Int), S 6 - x < (n : Int) → 0 ≤ x → x ≤ S 6 → a = sz (pcF S mn) x → G cx Pg Lc Ev (rmD 1 0 0) s m args below meth c (MQ below (QI cx (fun rz M' => pcnt S mn = rz ∧ M = M')) args s 0 0 (cA0 cx)) 4 [some (rf cx 0), some (.int (oi mn)), some (.int (oi a)), some (.int (oi x))] [] (M) 0 0 := by
    intro n
    induction n with
    | zero => intro x a hn hx0 hx1 ha; exact absurd hn (by omega)
    | succ n ih4 =>
      intro x a hn hx0 hx1 ha
      refine g_iload_n (pc := 4) E dX0_papersOf_4 (i := 3) rfl rfl ?_
      refine g_aload_n (pc := 5) E dX0_papersOf_5 (i := 0) rfl rfl ?_
      refine g_geti (i := 0) (t := 0) (f := 1) (fz := 1) (pc := 6) E dX0_papersOf_6 fl_X0_15 rfl (by decide) (by decide) rfl rfl hB.c1 (fun _ _ => ?_)
      refine g_icmp_ge (pc := 9) (tgt := 31) E dX0_papersOf_9 (by decide) (fun qh9 => ?_) (fun qh9 => ?_) 
      · refine g_iload_n (pc := 31) E dX0_papersOf_31 (i := 2) rfl rfl ?_
        refine g_iret (pc := 32) E hr dX0_papersOf_32 ?_
        exact ⟨by rw [ha, show x = S 6 by omega]; rfl, rfl⟩
      · have hVp := hV.2.2.1 x (by omega) (by omega)
        refine g_aload_n (pc := 12) E dX0_papersOf_12 (i := 0) rfl rfl ?_
        refine g_getr (i := 0) (j := 3) (t := 0) (f := 6) (pc := 13) E dX0_papersOf_13 fl_X0_31 rfl (by decide) (by decide) rfl rfl ?_
        refine g_iload_n (pc := 16) E dX0_papersOf_16 (i := 3) rfl rfl ?_
        refine g_iald (q := 8) (pc := 17) E dX0_papersOf_17 rfl (by omega) (by omega) (hB.f3 _ (by omega) (by omega)) (fun _ _ => ?_)
        refine g_iload_n (pc := 18) E dX0_papersOf_18 (i := 1) rfl rfl ?_
        refine g_icmp_ne (pc := 19) (tgt := 25) E dX0_papersOf_19 (by decide) (fun qh19 => ?_) (fun qh19 => ?_) 
        · refine g_iinc (pc := 25) E dX0_papersOf_25 (ls' := [_, _, _, _]) rfl rfl rfl ?_
          refine g_goto (pc := 28) (tgt := 4) E dX0_papersOf_28 (by decide) ?_
          exact g_wk2 (ih4 (x + 1) a (by omega) (by omega) (by omega) (by rw [sz_s hx0, ha, show (pcF S mn) x = 0 from if_neg (by omega)]; omega)) ⟨rfl, rfl, rfl, rfl, trivial⟩
        · refine g_iinc (pc := 22) E dX0_papersOf_22 (ls' := [_, _, _, _]) rfl rfl rfl ?_
          refine g_iinc (pc := 25) E dX0_papersOf_25 (ls' := [_, _, _, _]) rfl rfl rfl ?_
          refine g_goto (pc := 28) (tgt := 4) E dX0_papersOf_28 (by decide) ?_
          exact g_wk2 (ih4 (x + 1) (a + 1) (by omega) (by omega) (by omega) (by rw [sz_s hx0, ha, show (pcF S mn) x = 1 from if_pos (by omega)])) ⟨rfl, rfl, rfl, rfl, trivial⟩
  exact g_wk2 (LP4 (S 6 + 1).toNat 0 0 (by omega) (by omega) (by omega) rfl) ⟨rfl, rfl, rfl, rfl, trivial⟩
