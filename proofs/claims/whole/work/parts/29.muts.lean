/-! what the changing calls of the reference do -/
/-- the row S is kept on top -/
def KP (M M' : Mem) (S : Int → Int) : Prop := M' 184 2 = (if M 184 2 = 8 then 8 else M 184 2 + 1) ∧ (∀ j x, 0 ≤ j → j < (if M 184 2 = 8 then 7 else M 184 2) → 0 ≤ x → x < 745 → M' 186 (745 * j + x) = M 186 (745 * (if M 184 2 = 8 then j + 1 else j) + x)) ∧ ∀ x, 0 ≤ x → x < 745 → M' 186 (745 * (if M 184 2 = 8 then 7 else M 184 2) + x) = S x
theorem kep_KP {N : Mem} {S : Int → Int} (h : ∀ x, 0 ≤ x → x < 745 → N 188 x = S x) (hu0 : 0 ≤ N 184 2) (hu1 : N 184 2 ≤ 8) : KP N (kepM N) S ∧ (∀ i, i ≠ 184 → i ≠ 186 → kepM N i = N i) ∧ ∀ f : Int, f ≠ 2 → kepM N 184 f = N 184 f := by
  by_cases hu : N 184 2 = 8
  · have e : kp1 N = st (cpo N 186 745 186 0 5215) 184 2 7 := if_pos hu
    unfold KP
    rw [kepM, e]
    simp only [st_self, if_pos hu]
    refine ⟨⟨rfl, fun j x a b c d => ?_, fun x c d => ?_⟩, fun i a b => ?_, fun f a => ?_⟩
    · rw [st_ne (by decide), cpo_out (by omega), st_ne (by decide), cpo_in (by omega)]
      exact congrArg _ (by omega)
    · rw [st_ne (by decide), cpo_in (by omega), st_ne (by decide), cpo_ne (by decide), ← h x c d]
      exact congrArg _ (by omega)
    · rw [st_ne a, cpo_ne b, st_ne a, cpo_ne b]
    · rw [st_off a, cpo_ne (by decide), st_off a, cpo_ne (by decide)]
  · have e : kp1 N = N := if_neg hu
    unfold KP
    rw [kepM, e]
    simp only [st_self, if_neg hu]
    refine ⟨⟨trivial, fun j x a b c d => ?_, fun x c d => ?_⟩, fun i a b => ?_, fun f a => ?_⟩
    · rw [st_ne (by decide), cpo_out (by omega)]
    · rw [st_ne (by decide), cpo_in (by omega), ← h x c d]
      exact congrArg _ (by omega)
    · rw [st_ne a, cpo_ne b]
    · rw [st_off a, cpo_ne (by decide)]
def MOP (M M' : Mem) (S T : Int → Int) : Prop := M' 185 = T ∧ KP M M' S ∧ (∀ i, i ≠ 184 → i ≠ 185 → i ≠ 186 → i ≠ 188 → i < 191 ∨ 197 < i → M' i = M i) ∧ ∀ f : Int, f ≠ 2 → f < 18 ∨ 23 < f → M' 184 f = M 184 f
def REF (M M' : Mem) (S : Int → Int) (r a : Int) : Prop := M' 185 = S ∧ (∀ i, i ≠ 184 → i ≠ 185 → i ≠ 188 → i < 191 ∨ 197 < i → M' i = M i) ∧ (∀ f : Int, f ≠ 11 → f ≠ 12 → f ≠ 13 → f < 18 ∨ 23 < f → M' 184 f = M 184 f) ∧ M' 184 11 = r ∧ M' 184 12 = -5 ∧ M' 184 13 = a
theorem MOP.e {M N : Mem} {S T : Int → Int} (h : MOP M N S T) : N 185 = T := h.1
theorem MOP.st {M N : Mem} {S T : Int → Int} (h : MOP M N S T) (x v : Int) : MOP M (st N 185 x v) S (ru T x v) := by
  obtain ⟨h1, ⟨k1, k2, k3⟩, h3, h4⟩ := h
  refine ⟨by rw [st_row, h1]; rfl, ⟨?_, fun j x a b c d => ?_, fun x c d => ?_⟩, fun i a b c d e => ?_, fun f a b => ?_⟩
  · rw [st_ne (by decide)]; exact k1
  · rw [st_ne (by decide)]; exact k2 j x a b c d
  · rw [st_ne (by decide)]; exact k3 x c d
  · rw [st_ne b]; exact h3 i a b c d e
  · rw [st_ne (by decide)]; exact h4 f a b
theorem tri_ne {M : Mem} {i : Nat} (h : i ≠ 188) : triM M i = M i := cpo_ne h
theorem tri_188 {M : Mem} {S : Int → Int} (e5 : M 185 = S) : ∀ x, 0 ≤ x → x < 745 → triM M 188 x = S x := fun x a b => by
  rw [triM, cpo_in (by omega), show 0 + (x - 0) = x by omega, e5]
theorem MOP_kep {M N : Mem} {S T : Int → Int} (e5 : M 185 = S) (hu0 : 0 ≤ M 184 2) (hu1 : M 184 2 ≤ 8) (h5 : N 185 = T) (h : ∀ i, i ≠ 185 → N i = triM M i) : MOP M (kepM N) S T := by
  have e4 : N 184 = M 184 := (h 184 (by decide)).trans (tri_ne (by decide))
  have e6 : N 186 = M 186 := (h 186 (by decide)).trans (tri_ne (by decide))
  obtain ⟨h1, h2, h3⟩ := kep_KP (N := N) (S := S) (by rw [h 188 (by decide)]; exact tri_188 e5) (by rw [e4]; exact hu0) (by rw [e4]; exact hu1)
  unfold KP at h1
  rw [e4, e6] at h1
  exact ⟨(h2 185 (by decide) (by decide)).trans h5, h1, fun i a b c d _ => by rw [h2 i a c, h i b, tri_ne d], fun f a _ => by rw [h3 f a, e4]⟩
theorem MOP_chg {M : Mem} {S : Int → Int} (e5 : M 185 = S) (hu0 : 0 ≤ M 184 2) (hu1 : M 184 2 ≤ 8) : MOP M (chgM M) S S := MOP_kep e5 hu0 hu1 ((tri_ne (by decide)).trans e5) (fun _ _ => rfl)
theorem ENT_ok {M N : Mem} {S : Int → Int} {k s p raw r : Int} (e5 : M 185 = S) (hu0 : 0 ≤ M 184 2) (hu1 : M 184 2 ≤ 8) (h : ENT S k s p raw (triM M) N r) (hr : r = 0) : MOP M (kepM N) S (enS S k s p raw) :=
  MOP_kep e5 hu0 hu1 (h.2.2.1 hr).1 (fun i hi => by
    by_cases h4 : i = 184
    · rw [h4]; exact (h.2.2.1 hr).2
    · exact h.2.1 i h4 hi)
theorem ENT_u {M N : Mem} {S : Int → Int} {k s p raw r : Int} (h : ENT S k s p raw (triM M) N r) : N 184 2 = M 184 2 := by
  by_cases hr : r = 0
  · rw [(h.2.2.1 hr).2, tri_ne (by decide)]
  · rw [(h.2.2.2 hr).2, ru_off (by decide), ru_off (by decide), tri_ne (by decide)]
theorem ENT_no {M N : Mem} {S : Int → Int} {k s p raw r : Int} (h : ENT S k s p raw (triM M) N r) (hr : ¬ r = 0) : REF M (st N 184 12 (-5)) S r (abS S s p r) := by
  obtain ⟨h1, h2⟩ := h.2.2.2 hr
  refine ⟨by rw [st_ne (by decide), h1], fun i a h5 b c => ?_, fun f a b c d => ?_, ?_, st_self _ _ _ _, ?_⟩
  · rw [st_ne a, h.2.1 i a h5, tri_ne b]
  · rw [st_off b, h2, ru_off c, ru_off a, tri_ne (by decide)]
  · rw [st_off (by decide), h2, ru_off (by decide), ru_self]
  · rw [st_off (by decide), h2, ru_self]

theorem ct_set {cx : Cx} {M : Mem} {S : Int → Int} (e5 : M 185 = S) {w v : Int} (hu0 : 0 ≤ M 184 2) (hu1 : M 184 2 ≤ 8) (hw : -2147483648 ≤ w ∧ w ≤ 2147483647) (hv : -2147483648 ≤ v ∧ v ≤ 2147483647) : Ct cx yX6_set cX6_set 4 (some .int) 3 0 0 [rf cx 184, .int (oi w), .int (oi v)] M (fun rz M' => (if setOK w v then S w else -2) = rz ∧ (if setOK w v then MOP M M' S (ru S w v) else M = M')) := by
  refine ct_intro cd_X6_set (by decide +kernel) (Nat.le_of_ble_eq_true rfl) rfl (fun Pg Lc Ev s m args below meth c E hr => ?_)
  refine g_ent (ls' := [some (rf cx 184), some (.int (oi w)), some (.int (oi v)), none]) rfl ?_
  refine g_iload_n (pc := 0) E dX6_set_0 (i := 1) rfl rfl ?_
  refine g_iload_n (pc := 1) E dX6_set_1 (i := 2) rfl rfl ?_
  refine g_callS (pc := 2) (As := [_, _]) E dX6_set_2 ml_X6_70 (ct_isSetting (by omega) (by omega)) rfl rfl (by decide) (by decide) rfl (Nat.le_of_ble_eq_true rfl) (by decide) (fun x2 M2 hM2 => ?_)
  obtain ⟨rfl, rfl⟩ := hM2
  refine g_if_ne (pc := 5) (tgt := 11) E dX6_set_5 (by decide) (fun qh5 => ?_) (fun qh5 => ?_) (Int.le_trans (by decide) (bi_R _).1) (Int.le_trans (bi_R _).2 (by decide))
  · replace qh5 := bi_n.mp qh5
    have hwR : 0 ≤ w ∧ w ≤ 4 := by unfold setOK at qh5; omega
    refine g_aload_n (pc := 11) E dX6_set_11 (i := 0) rfl rfl ?_
    refine g_callVv (pc := 12) (As := []) E dX6_set_12 ml_X6_74 (cv_changes hu0 hu1) rfl rfl rfl rfl (by decide) (by decide) rfl (Nat.le_of_ble_eq_true rfl) (by decide) (fun M12 hM12 => ?_)
    obtain rfl := hM12
    have hmo := MOP_chg e5 hu0 hu1
    have e5M := e5
    have e5 : chgM M 185 = S := hmo.1
    refine g_aload_n (pc := 15) E dX6_set_15 (i := 0) rfl rfl ?_
    refine g_getr (i := 184) (j := 185) (t := 6) (f := 0) (pc := 16) E dX6_set_16 fl_X6_9 rfl (by decide) (by decide) rfl rfl ?_
    refine g_iload_n (pc := 19) E dX6_set_19 (i := 1) rfl rfl ?_
    refine g_iald (pc := 20) E dX6_set_20 rfl (by omega) (by omega) (congrFun e5 _) (fun _ _ => ?_)
    refine g_istore_n (pc := 21) E dX6_set_21 (i := 3) (ls' := [_, _, _, _]) rfl (Nat.le_of_ble_eq_true rfl) rfl ?_
    refine g_aload_n (pc := 22) E dX6_set_22 (i := 0) rfl rfl ?_
    refine g_getr (i := 184) (j := 185) (t := 6) (f := 0) (pc := 23) E dX6_set_23 fl_X6_9 rfl (by decide) (by decide) rfl rfl ?_
    refine g_iload_n (pc := 26) E dX6_set_26 (i := 1) rfl rfl ?_
    refine g_iload_n (pc := 27) E dX6_set_27 (i := 2) rfl rfl ?_
    refine g_iast (pc := 28) E dX6_set_28 rfl (by omega) (by omega) ?_ 
    refine g_iload_n (pc := 29) E dX6_set_29 (i := 3) rfl rfl ?_
    refine g_iret (pc := 30) E hr dX6_set_30 ?_
    exact ⟨if_pos qh5, by rw [if_pos qh5]; exact hmo.st _ _⟩
  · replace qh5 := bi_0.mp qh5
    refine g_bipush (pc := 8) E dX6_set_8 rfl ?_
    refine g_iret (pc := 10) E hr dX6_set_10 ?_
    exact ⟨if_neg qh5, by rw [if_neg qh5]⟩

def amR (S : Int → Int) (c : Int) : Int := if ¬ (1 ≤ c ∧ c ≤ 9) then -2 else if S 5 = 4 then -3 else S 5
def amT (S : Int → Int) (c : Int) : Int → Int := ru (ru S (9 + S 5) c) 5 (S 5 + 1)
def apR (S : Int → Int) (m w f : Int) : Int := if ¬ (0 ≤ m ∧ m < S 5) then -1 else if ¬ (1 ≤ w ∧ w ≤ 9 ∧ 10 ≤ f ∧ f ≤ 200) then -2 else if S 6 = 8 then -3 else S 6
def apT (S : Int → Int) (m w f : Int) : Int → Int := ru (ru (ru (ru S (13 + 3 * S 6) m) (13 + 3 * S 6 + 1) w) (13 + 3 * S 6 + 2) f) 6 (S 6 + 1)
def asR (S : Int → Int) (c : Int) : Int := if ¬ (0 ≤ c ∧ c ≤ 2) then -2 else if S 7 = 20 then -3 else S 7
def asN (S : Int → Int) (a : Int) : Nat → Int → Int
  | 0 => S
  | k + 1 => ru (asN S a k) (57 + 3 * (8 * a + k) + 2) (-1)
def asT (S : Int → Int) (c : Int) : Int → Int := ru (asN (ru S (37 + S 7) c) (S 7) 8) 7 (S 7 + 1)
theorem asN_lo {S : Int → Int} {a x : Int} (h0 : 0 ≤ a) (hx : x < 57) : ∀ k : Nat, asN S a k x = S x
  | 0 => rfl
  | k + 1 => by
    show ru (asN S a k) (57 + 3 * (8 * a + k) + 2) (-1) x = S x
    rw [ru_off (by omega)]
    exact asN_lo h0 hx k
def slR (S : Int → Int) (p c r v : Int) : Int := if ¬ (0 ≤ p ∧ p < S 6 ∧ 0 ≤ c ∧ c < 3) then -1 else if ¬ ruleOK r v then -2 else S (537 + 2 * (3 * p + c))
def slT (S : Int → Int) (p c r v : Int) : Int → Int := ru (ru S (537 + 2 * (3 * p + c)) r) (537 + 2 * (3 * p + c) + 1) v

theorem ct_addModule {cx : Cx} {M : Mem} {S : Int → Int} (e5 : M 185 = S) {w : Int} (hV : SOK S) (hu0 : 0 ≤ M 184 2) (hu1 : M 184 2 ≤ 8) (hw : -2147483648 ≤ w ∧ w ≤ 2147483647) : Ct cx yX6_addModule cX6_addModule 2 (some .int) 3 0 0 [rf cx 184, .int (oi w)] M (fun rz M' => amR S w = rz ∧ (if 0 ≤ amR S w then MOP M M' S (amT S w) else M = M')) := by
  refine ct_intro cd_X6_addModule (by decide +kernel) (Nat.le_of_ble_eq_true rfl) rfl (fun Pg Lc Ev s m args below meth c E hr => ?_)
  refine g_ent (ls' := [some (rf cx 184), some (.int (oi w))]) rfl ?_
  have hV0 := hV.1
  refine g_iload_n (pc := 0) E dX6_addModule_0 (i := 1) rfl rfl ?_
  refine g_iconst (pc := 1) E dX6_addModule_1 rfl ?_
  refine g_bipush (pc := 2) E dX6_addModule_2 rfl ?_
  refine g_callS (pc := 4) (As := [_, _, _]) E dX6_addModule_4 ml_X6_66 (ct_in (by omega) (by omega) (by omega)) rfl rfl (by decide) (by decide) rfl (Nat.le_of_ble_eq_true rfl) (by decide) (fun x4 M4 hM4 => ?_)
  obtain ⟨rfl, rfl⟩ := hM4
  refine g_if_ne (pc := 7) (tgt := 13) E dX6_addModule_7 (by decide) (fun qh7 => ?_) (fun qh7 => ?_) (Int.le_trans (by decide) (bi_R _).1) (Int.le_trans (bi_R _).2 (by decide))
  · replace qh7 := bi_n.mp qh7
    refine g_aload_n (pc := 13) E dX6_addModule_13 (i := 0) rfl rfl ?_
    refine g_getr (i := 184) (j := 185) (t := 6) (f := 0) (pc := 14) E dX6_addModule_14 fl_X6_9 rfl (by decide) (by decide) rfl rfl ?_
    refine g_iconst (pc := 17) E dX6_addModule_17 rfl ?_
    refine g_iald (pc := 18) E dX6_addModule_18 rfl (by omega) (by omega) (congrFun e5 _) (fun _ _ => ?_)
    refine g_iconst (pc := 19) E dX6_addModule_19 rfl ?_
    refine g_icmp_ne (pc := 20) (tgt := 26) E dX6_addModule_20 (by decide) (fun qh20 => ?_) (fun qh20 => ?_) 
    · refine g_aload_n (pc := 26) E dX6_addModule_26 (i := 0) rfl rfl ?_
      refine g_callVv (pc := 27) (As := []) E dX6_addModule_27 ml_X6_74 (cv_changes hu0 hu1) rfl rfl rfl rfl (by decide) (by decide) rfl (Nat.le_of_ble_eq_true rfl) (by decide) (fun M27 hM27 => ?_)
      obtain rfl := hM27
      have hmo := MOP_chg e5 hu0 hu1
      have e5M := e5
      have e5 : chgM M 185 = S := hmo.1
      refine g_aload_n (pc := 30) E dX6_addModule_30 (i := 0) rfl rfl ?_
      refine g_getr (i := 184) (j := 185) (t := 6) (f := 0) (pc := 31) E dX6_addModule_31 fl_X6_9 rfl (by decide) (by decide) rfl rfl ?_
      refine g_bipush (pc := 34) E dX6_addModule_34 rfl ?_
      refine g_aload_n (pc := 36) E dX6_addModule_36 (i := 0) rfl rfl ?_
      refine g_getr (i := 184) (j := 185) (t := 6) (f := 0) (pc := 37) E dX6_addModule_37 fl_X6_9 rfl (by decide) (by decide) rfl rfl ?_
      refine g_iconst (pc := 40) E dX6_addModule_40 rfl ?_
      refine g_iald (pc := 41) E dX6_addModule_41 rfl (by omega) (by omega) (congrFun e5 _) (fun _ _ => ?_)
      refine g_iadd (pc := 42) E dX6_addModule_42 ?_
      refine g_iload_n (pc := 43) E dX6_addModule_43 (i := 1) rfl rfl ?_
      refine g_iast (pc := 44) E dX6_addModule_44 rfl (by omega) (by omega) ?_ 
      refine g_aload_n (pc := 45) E dX6_addModule_45 (i := 0) rfl rfl ?_
      refine g_getr (i := 184) (j := 185) (t := 6) (f := 0) (pc := 46) E dX6_addModule_46 fl_X6_9 rfl (by decide) (by decide) rfl rfl ?_
      refine g_iconst (pc := 49) E dX6_addModule_49 rfl ?_
      refine g_dup2 (pc := 50) E dX6_addModule_50 rfl rfl ?_
      refine g_iald (pc := 51) E dX6_addModule_51 rfl (by omega) (by omega) (v := S 5) (by rw [st_off (by omega)]; exact congrFun e5 _) (fun _ _ => ?_)
      refine g_dup_x2 (pc := 52) E dX6_addModule_52 rfl rfl rfl ?_
      refine g_iconst (pc := 53) E dX6_addModule_53 rfl ?_
      refine g_iadd (pc := 54) E dX6_addModule_54 ?_
      refine g_iast (pc := 55) E dX6_addModule_55 rfl (by omega) (by omega) ?_ 
      refine g_iret (pc := 56) E hr dX6_addModule_56 ?_
      have e : amR S w = S 5 := by rw [amR, if_neg (by omega), if_neg (by omega)]
      exact ⟨e, by rw [e, if_pos (by omega)]; exact (hmo.st _ _).st _ _⟩
    · refine g_bipush (pc := 23) E dX6_addModule_23 rfl ?_
      refine g_iret (pc := 25) E hr dX6_addModule_25 ?_
      have e : amR S w = -3 := by rw [amR, if_neg (by omega), if_pos (by omega)]
      exact ⟨e, by rw [e, if_neg (by decide)]⟩
  · replace qh7 := bi_0.mp qh7
    refine g_bipush (pc := 10) E dX6_addModule_10 rfl ?_
    refine g_iret (pc := 12) E hr dX6_addModule_12 ?_
    have e : amR S w = -2 := by rw [amR, if_pos (by omega)]
    exact ⟨e, by rw [e, if_neg (by decide)]⟩

theorem ct_addPaper {cx : Cx} {M : Mem} {S : Int → Int} (e5 : M 185 = S) {mn w f : Int} (hV : SOK S) (hu0 : 0 ≤ M 184 2) (hu1 : M 184 2 ≤ 8) (hmn : -2147483648 ≤ mn ∧ mn ≤ 2147483647) (hw : -2147483648 ≤ w ∧ w ≤ 2147483647) (hf : -2147483648 ≤ f ∧ f ≤ 2147483647) : Ct cx yX6_addPaper cX6_addPaper 5 (some .int) 3 0 0 [rf cx 184, .int (oi mn), .int (oi w), .int (oi f)] M (fun rz M' => apR S mn w f = rz ∧ (if 0 ≤ apR S mn w f then MOP M M' S (apT S mn w f) else M = M')) := by
  refine ct_intro cd_X6_addPaper (by decide +kernel) (Nat.le_of_ble_eq_true rfl) rfl (fun Pg Lc Ev s m args below meth c E hr => ?_)
  refine g_ent (ls' := [some (rf cx 184), some (.int (oi mn)), some (.int (oi w)), some (.int (oi f)), none]) rfl ?_
  have hV0 := hV.1
  refine g_aload_n (pc := 0) E dX6_addPaper_0 (i := 0) rfl rfl ?_
  refine g_iload_n (pc := 1) E dX6_addPaper_1 (i := 1) rfl rfl ?_
  refine g_callV (pc := 2) (As := [_]) E dX6_addPaper_2 ml_X6_77 (ct_isModule e5 hV (by omega)) rfl rfl rfl rfl (by decide) (by decide) rfl (Nat.le_of_ble_eq_true rfl) (by decide) (fun x2 M2 hM2 => ?_)
  obtain ⟨rfl, rfl⟩ := hM2
  refine g_if_ne (pc := 5) (tgt := 10) E dX6_addPaper_5 (by decide) (fun qh5 => ?_) (fun qh5 => ?_) (Int.le_trans (by decide) (bi_R _).1) (Int.le_trans (bi_R _).2 (by decide))
  · replace qh5 := bi_n.mp qh5
    refine g_iload_n (pc := 10) E dX6_addPaper_10 (i := 2) rfl rfl ?_
    refine g_iconst (pc := 11) E dX6_addPaper_11 rfl ?_
    refine g_bipush (pc := 12) E dX6_addPaper_12 rfl ?_
    refine g_callS (pc := 14) (As := [_, _, _]) E dX6_addPaper_14 ml_X6_66 (ct_in (by omega) (by omega) (by omega)) rfl rfl (by decide) (by decide) rfl (Nat.le_of_ble_eq_true rfl) (by decide) (fun x14 M14 hM14 => ?_)
    obtain ⟨rfl, rfl⟩ := hM14
    refine g_if_eq (pc := 17) (tgt := 32) E dX6_addPaper_17 (by decide) (fun qh17 => ?_) (fun qh17 => ?_) (Int.le_trans (by decide) (bi_R _).1) (Int.le_trans (bi_R _).2 (by decide))
    · replace qh17 := bi_0.mp qh17
      refine g_bipush (pc := 32) E dX6_addPaper_32 rfl ?_
      refine g_iret (pc := 34) E hr dX6_addPaper_34 ?_
      have e : apR S mn w f = -2 := by rw [apR, if_neg (by omega), if_pos (by omega)]
      exact ⟨e, by rw [e, if_neg (by decide)]⟩
    · replace qh17 := bi_n.mp qh17
      refine g_iload_n (pc := 20) E dX6_addPaper_20 (i := 3) rfl rfl ?_
      refine g_bipush (pc := 21) E dX6_addPaper_21 rfl ?_
      refine g_sipush (pc := 23) E dX6_addPaper_23 rfl ?_
      refine g_callS (pc := 26) (As := [_, _, _]) E dX6_addPaper_26 ml_X6_66 (ct_in (by omega) (by omega) (by omega)) rfl rfl (by decide) (by decide) rfl (Nat.le_of_ble_eq_true rfl) (by decide) (fun x26 M26 hM26 => ?_)
      obtain ⟨rfl, rfl⟩ := hM26
      refine g_if_ne (pc := 29) (tgt := 35) E dX6_addPaper_29 (by decide) (fun qh29 => ?_) (fun qh29 => ?_) (Int.le_trans (by decide) (bi_R _).1) (Int.le_trans (bi_R _).2 (by decide))
      · replace qh29 := bi_n.mp qh29
        refine g_aload_n (pc := 35) E dX6_addPaper_35 (i := 0) rfl rfl ?_
        refine g_getr (i := 184) (j := 185) (t := 6) (f := 0) (pc := 36) E dX6_addPaper_36 fl_X6_9 rfl (by decide) (by decide) rfl rfl ?_
        refine g_bipush (pc := 39) E dX6_addPaper_39 rfl ?_
        refine g_iald (pc := 41) E dX6_addPaper_41 rfl (by omega) (by omega) (congrFun e5 _) (fun _ _ => ?_)
        refine g_bipush (pc := 42) E dX6_addPaper_42 rfl ?_
        refine g_icmp_ne (pc := 44) (tgt := 50) E dX6_addPaper_44 (by decide) (fun qh44 => ?_) (fun qh44 => ?_) 
        · refine g_aload_n (pc := 50) E dX6_addPaper_50 (i := 0) rfl rfl ?_
          refine g_callVv (pc := 51) (As := []) E dX6_addPaper_51 ml_X6_74 (cv_changes hu0 hu1) rfl rfl rfl rfl (by decide) (by decide) rfl (Nat.le_of_ble_eq_true rfl) (by decide) (fun M51 hM51 => ?_)
          obtain rfl := hM51
          have hmo := MOP_chg e5 hu0 hu1
          have e5M := e5
          have e5 : chgM M 185 = S := hmo.1
          refine g_bipush (pc := 54) E dX6_addPaper_54 rfl ?_
          refine g_iconst (pc := 56) E dX6_addPaper_56 rfl ?_
          refine g_aload_n (pc := 57) E dX6_addPaper_57 (i := 0) rfl rfl ?_
          refine g_getr (i := 184) (j := 185) (t := 6) (f := 0) (pc := 58) E dX6_addPaper_58 fl_X6_9 rfl (by decide) (by decide) rfl rfl ?_
          refine g_bipush (pc := 61) E dX6_addPaper_61 rfl ?_
          refine g_iald (pc := 63) E dX6_addPaper_63 rfl (by omega) (by omega) (congrFun e5 _) (fun _ _ => ?_)
          refine g_imul (pc := 64) E dX6_addPaper_64 ?_
          refine g_iadd (pc := 65) E dX6_addPaper_65 ?_
          refine g_istore (pc := 66) E dX6_addPaper_66 (ls' := [_, _, _, _, _]) (Nat.le_of_ble_eq_true rfl) rfl ?_
          refine g_aload_n (pc := 68) E dX6_addPaper_68 (i := 0) rfl rfl ?_
          refine g_getr (i := 184) (j := 185) (t := 6) (f := 0) (pc := 69) E dX6_addPaper_69 fl_X6_9 rfl (by decide) (by decide) rfl rfl ?_
          refine g_iload (pc := 72) E dX6_addPaper_72 rfl ?_
          refine g_iload_n (pc := 74) E dX6_addPaper_74 (i := 1) rfl rfl ?_
          refine g_iast (pc := 75) E dX6_addPaper_75 rfl (by omega) (by omega) ?_ 
          refine g_aload_n (pc := 76) E dX6_addPaper_76 (i := 0) rfl rfl ?_
          refine g_getr (i := 184) (j := 185) (t := 6) (f := 0) (pc := 77) E dX6_addPaper_77 fl_X6_9 rfl (by decide) (by decide) rfl rfl ?_
          refine g_iload (pc := 80) E dX6_addPaper_80 rfl ?_
          refine g_iconst (pc := 82) E dX6_addPaper_82 rfl ?_
          refine g_iadd (pc := 83) E dX6_addPaper_83 ?_
          refine g_iload_n (pc := 84) E dX6_addPaper_84 (i := 2) rfl rfl ?_
          refine g_iast (pc := 85) E dX6_addPaper_85 rfl (by omega) (by omega) ?_ 
          refine g_aload_n (pc := 86) E dX6_addPaper_86 (i := 0) rfl rfl ?_
          refine g_getr (i := 184) (j := 185) (t := 6) (f := 0) (pc := 87) E dX6_addPaper_87 fl_X6_9 rfl (by decide) (by decide) rfl rfl ?_
          refine g_iload (pc := 90) E dX6_addPaper_90 rfl ?_
          refine g_iconst (pc := 92) E dX6_addPaper_92 rfl ?_
          refine g_iadd (pc := 93) E dX6_addPaper_93 ?_
          refine g_iload_n (pc := 94) E dX6_addPaper_94 (i := 3) rfl rfl ?_
          refine g_iast (pc := 95) E dX6_addPaper_95 rfl (by omega) (by omega) ?_ 
          refine g_aload_n (pc := 96) E dX6_addPaper_96 (i := 0) rfl rfl ?_
          refine g_getr (i := 184) (j := 185) (t := 6) (f := 0) (pc := 97) E dX6_addPaper_97 fl_X6_9 rfl (by decide) (by decide) rfl rfl ?_
          refine g_bipush (pc := 100) E dX6_addPaper_100 rfl ?_
          refine g_dup2 (pc := 102) E dX6_addPaper_102 rfl rfl ?_
          refine g_iald (pc := 103) E dX6_addPaper_103 rfl (by omega) (by omega) (v := S 6) (by rw [st_off (by omega), st_off (by omega), st_off (by omega)]; exact congrFun e5 _) (fun _ _ => ?_)
          refine g_dup_x2 (pc := 104) E dX6_addPaper_104 rfl rfl rfl ?_
          refine g_iconst (pc := 105) E dX6_addPaper_105 rfl ?_
          refine g_iadd (pc := 106) E dX6_addPaper_106 ?_
          refine g_iast (pc := 107) E dX6_addPaper_107 rfl (by omega) (by omega) ?_ 
          refine g_iret (pc := 108) E hr dX6_addPaper_108 ?_
          have e : apR S mn w f = S 6 := by rw [apR, if_neg (by omega), if_neg (by omega), if_neg (by omega)]
          exact ⟨e, by rw [e, if_pos (by omega)]; exact (((hmo.st _ _).st _ _).st _ _).st _ _⟩
        · refine g_bipush (pc := 47) E dX6_addPaper_47 rfl ?_
          refine g_iret (pc := 49) E hr dX6_addPaper_49 ?_
          have e : apR S mn w f = -3 := by rw [apR, if_neg (by omega), if_neg (by omega), if_pos (by omega)]
          exact ⟨e, by rw [e, if_neg (by decide)]⟩
      · replace qh29 := bi_0.mp qh29
        refine g_bipush (pc := 32) E dX6_addPaper_32 rfl ?_
        refine g_iret (pc := 34) E hr dX6_addPaper_34 ?_
        have e : apR S mn w f = -2 := by rw [apR, if_neg (by omega), if_pos (by omega)]
        exact ⟨e, by rw [e, if_neg (by decide)]⟩
  · replace qh5 := bi_0.mp qh5
    refine g_iconst (pc := 8) E dX6_addPaper_8 rfl ?_
    refine g_iret (pc := 9) E hr dX6_addPaper_9 ?_
    have e : apR S mn w f = -1 := by rw [apR, if_pos (by omega)]
    exact ⟨e, by rw [e, if_neg (by decide)]⟩

theorem ct_scale {cx : Cx} {M : Mem} {S : Int → Int} (e5 : M 185 = S) {p cn r v : Int} (hV : SOK S) (hu0 : 0 ≤ M 184 2) (hu1 : M 184 2 ≤ 8) (hp : -2147483648 ≤ p ∧ p ≤ 2147483647) (hcn : -2147483648 ≤ cn ∧ cn ≤ 2147483647) (hr : -2147483648 ≤ r ∧ r ≤ 2147483647) (hv : -2147483648 ≤ v ∧ v ≤ 2147483647) : Ct cx yX6_scale cX6_scale 7 (some .int) 4 0 0 [rf cx 184, .int (oi p), .int (oi cn), .int (oi r), .int (oi v)] M (fun rz M' => slR S p cn r v = rz ∧ (if 0 ≤ slR S p cn r v then MOP M M' S (slT S p cn r v) else M = M')) := by
  refine ct_intro cd_X6_scale (by decide +kernel) (Nat.le_of_ble_eq_true rfl) rfl (fun Pg Lc Ev s m args below meth c E hr => ?_)
  refine g_ent (ls' := [some (rf cx 184), some (.int (oi p)), some (.int (oi cn)), some (.int (oi r)), some (.int (oi v)), none, none]) rfl ?_
  have hV0 := hV.1
  refine g_aload_n (pc := 0) E dX6_scale_0 (i := 0) rfl rfl ?_
  refine g_iload_n (pc := 1) E dX6_scale_1 (i := 1) rfl rfl ?_
  refine g_iload_n (pc := 2) E dX6_scale_2 (i := 2) rfl rfl ?_
  refine g_callV (pc := 3) (As := [_, _]) E dX6_scale_3 ml_X6_190 (ct_hasRule e5 hV (by omega) (by omega)) rfl rfl rfl rfl (by decide) (by decide) rfl (Nat.le_of_ble_eq_true rfl) (by decide) (fun x3 M3 hM3 => ?_)
  obtain ⟨rfl, rfl⟩ := hM3
  refine g_if_ne (pc := 6) (tgt := 11) E dX6_scale_6 (by decide) (fun qh6 => ?_) (fun qh6 => ?_) (Int.le_trans (by decide) (bi_R _).1) (Int.le_trans (bi_R _).2 (by decide))
  · replace qh6 := bi_n.mp qh6
    refine g_iload_n (pc := 11) E dX6_scale_11 (i := 3) rfl rfl ?_
    refine g_iload (pc := 12) E dX6_scale_12 rfl ?_
    refine g_callS (pc := 14) (As := [_, _]) E dX6_scale_14 ml_X6_193 (ct_isRule (by omega) (by omega)) rfl rfl (by decide) (by decide) rfl (Nat.le_of_ble_eq_true rfl) (by decide) (fun x14 M14 hM14 => ?_)
    obtain ⟨rfl, rfl⟩ := hM14
    refine g_if_ne (pc := 17) (tgt := 23) E dX6_scale_17 (by decide) (fun qh17 => ?_) (fun qh17 => ?_) (Int.le_trans (by decide) (bi_R _).1) (Int.le_trans (bi_R _).2 (by decide))
    · replace qh17 := bi_n.mp qh17
      refine g_aload_n (pc := 23) E dX6_scale_23 (i := 0) rfl rfl ?_
      refine g_callVv (pc := 24) (As := []) E dX6_scale_24 ml_X6_74 (cv_changes hu0 hu1) rfl rfl rfl rfl (by decide) (by decide) rfl (Nat.le_of_ble_eq_true rfl) (by decide) (fun M24 hM24 => ?_)
      obtain rfl := hM24
      have hmo := MOP_chg e5 hu0 hu1
      have e5M := e5
      have e5 : chgM M 185 = S := hmo.1
      have hVr := hV.2.2.2.2.2 p cn (by omega) (by omega) (by omega) (by omega)
      refine g_sipush (pc := 27) E dX6_scale_27 rfl ?_
      refine g_iconst (pc := 30) E dX6_scale_30 rfl ?_
      refine g_iconst (pc := 31) E dX6_scale_31 rfl ?_
      refine g_iload_n (pc := 32) E dX6_scale_32 (i := 1) rfl rfl ?_
      refine g_imul (pc := 33) E dX6_scale_33 ?_
      refine g_iload_n (pc := 34) E dX6_scale_34 (i := 2) rfl rfl ?_
      refine g_iadd (pc := 35) E dX6_scale_35 ?_
      refine g_imul (pc := 36) E dX6_scale_36 ?_
      refine g_iadd (pc := 37) E dX6_scale_37 ?_
      refine g_istore (pc := 38) E dX6_scale_38 (ls' := [_, _, _, _, _, _, _]) (Nat.le_of_ble_eq_true rfl) rfl ?_
      refine g_aload_n (pc := 40) E dX6_scale_40 (i := 0) rfl rfl ?_
      refine g_getr (i := 184) (j := 185) (t := 6) (f := 0) (pc := 41) E dX6_scale_41 fl_X6_9 rfl (by decide) (by decide) rfl rfl ?_
      refine g_iload (pc := 44) E dX6_scale_44 rfl ?_
      refine g_iald (pc := 46) E dX6_scale_46 rfl (by omega) (by omega) (congrFun e5 _) (fun _ _ => ?_)
      refine g_istore (pc := 47) E dX6_scale_47 (ls' := [_, _, _, _, _, _, _]) (Nat.le_of_ble_eq_true rfl) rfl ?_
      refine g_aload_n (pc := 49) E dX6_scale_49 (i := 0) rfl rfl ?_
      refine g_getr (i := 184) (j := 185) (t := 6) (f := 0) (pc := 50) E dX6_scale_50 fl_X6_9 rfl (by decide) (by decide) rfl rfl ?_
      refine g_iload (pc := 53) E dX6_scale_53 rfl ?_
      refine g_iload_n (pc := 55) E dX6_scale_55 (i := 3) rfl rfl ?_
      refine g_iast (pc := 56) E dX6_scale_56 rfl (by omega) (by omega) ?_ 
      refine g_aload_n (pc := 57) E dX6_scale_57 (i := 0) rfl rfl ?_
      refine g_getr (i := 184) (j := 185) (t := 6) (f := 0) (pc := 58) E dX6_scale_58 fl_X6_9 rfl (by decide) (by decide) rfl rfl ?_
      refine g_iload (pc := 61) E dX6_scale_61 rfl ?_
      refine g_iconst (pc := 63) E dX6_scale_63 rfl ?_
      refine g_iadd (pc := 64) E dX6_scale_64 ?_
      refine g_iload (pc := 65) E dX6_scale_65 rfl ?_
      refine g_iast (pc := 67) E dX6_scale_67 rfl (by omega) (by omega) ?_ 
      refine g_iload (pc := 68) E dX6_scale_68 rfl ?_
      refine g_iret (pc := 70) E hr dX6_scale_70 ?_
      have e : slR S p cn r v = S (537 + 2 * (3 * p + cn)) := by rw [slR, if_neg (by omega), if_neg (fun h => h qh17)]
      exact ⟨e, by rw [e, if_pos (by omega)]; exact (hmo.st _ _).st _ _⟩
    · replace qh17 := bi_0.mp qh17
      refine g_bipush (pc := 20) E dX6_scale_20 rfl ?_
      refine g_iret (pc := 22) E hr dX6_scale_22 ?_
      have e : slR S p cn r v = -2 := by rw [slR, if_neg (by omega), if_pos qh17]
      exact ⟨e, by rw [e, if_neg (by decide)]⟩
  · replace qh6 := bi_0.mp qh6
    refine g_iconst (pc := 9) E dX6_scale_9 rfl ?_
    refine g_iret (pc := 10) E hr dX6_scale_10 ?_
    have e : slR S p cn r v = -1 := by rw [slR, if_pos (by omega)]
    exact ⟨e, by rw [e, if_neg (by decide)]⟩

theorem ct_addStudent {cx : Cx} {M : Mem} {S : Int → Int} (e5 : M 185 = S) {w : Int} (hV : SOK S) (hu0 : 0 ≤ M 184 2) (hu1 : M 184 2 ≤ 8) (hw : -2147483648 ≤ w ∧ w ≤ 2147483647) : Ct cx yX6_addStudent cX6_addStudent 3 (some .int) 3 0 0 [rf cx 184, .int (oi w)] M (fun rz M' => asR S w = rz ∧ (if 0 ≤ asR S w then MOP M M' S (asT S w) else M = M')) := by
  refine ct_intro cd_X6_addStudent (by decide +kernel) (Nat.le_of_ble_eq_true rfl) rfl (fun Pg Lc Ev s m args below meth c E hr => ?_)
  refine g_ent (ls' := [some (rf cx 184), some (.int (oi w)), none]) rfl ?_
  have hV0 := hV.1
  refine g_iload_n (pc := 0) E dX6_addStudent_0 (i := 1) rfl rfl ?_
  refine g_iconst (pc := 1) E dX6_addStudent_1 rfl ?_
  refine g_iconst (pc := 2) E dX6_addStudent_2 rfl ?_
  refine g_callS (pc := 3) (As := [_, _, _]) E dX6_addStudent_3 ml_X6_66 (ct_in (by omega) (by omega) (by omega)) rfl rfl (by decide) (by decide) rfl (Nat.le_of_ble_eq_true rfl) (by decide) (fun x3 M3 hM3 => ?_)
  obtain ⟨rfl, rfl⟩ := hM3
  refine g_if_ne (pc := 6) (tgt := 12) E dX6_addStudent_6 (by decide) (fun qh6 => ?_) (fun qh6 => ?_) (Int.le_trans (by decide) (bi_R _).1) (Int.le_trans (bi_R _).2 (by decide))
  · replace qh6 := bi_n.mp qh6
    refine g_aload_n (pc := 12) E dX6_addStudent_12 (i := 0) rfl rfl ?_
    refine g_getr (i := 184) (j := 185) (t := 6) (f := 0) (pc := 13) E dX6_addStudent_13 fl_X6_9 rfl (by decide) (by decide) rfl rfl ?_
    refine g_bipush (pc := 16) E dX6_addStudent_16 rfl ?_
    refine g_iald (pc := 18) E dX6_addStudent_18 rfl (by omega) (by omega) (congrFun e5 _) (fun _ _ => ?_)
    refine g_bipush (pc := 19) E dX6_addStudent_19 rfl ?_
    refine g_icmp_ne (pc := 21) (tgt := 27) E dX6_addStudent_21 (by decide) (fun qh21 => ?_) (fun qh21 => ?_) 
    · refine g_aload_n (pc := 27) E dX6_addStudent_27 (i := 0) rfl rfl ?_
      refine g_callVv (pc := 28) (As := []) E dX6_addStudent_28 ml_X6_74 (cv_changes hu0 hu1) rfl rfl rfl rfl (by decide) (by decide) rfl (Nat.le_of_ble_eq_true rfl) (by decide) (fun M28 hM28 => ?_)
      obtain rfl := hM28
      have hmo := MOP_chg e5 hu0 hu1
      have e5M := e5
      have e5 : chgM M 185 = S := hmo.1
      refine g_aload_n (pc := 31) E dX6_addStudent_31 (i := 0) rfl rfl ?_
      refine g_getr (i := 184) (j := 185) (t := 6) (f := 0) (pc := 32) E dX6_addStudent_32 fl_X6_9 rfl (by decide) (by decide) rfl rfl ?_
      refine g_bipush (pc := 35) E dX6_addStudent_35 rfl ?_
      refine g_aload_n (pc := 37) E dX6_addStudent_37 (i := 0) rfl rfl ?_
      refine g_getr (i := 184) (j := 185) (t := 6) (f := 0) (pc := 38) E dX6_addStudent_38 fl_X6_9 rfl (by decide) (by decide) rfl rfl ?_
      refine g_bipush (pc := 41) E dX6_addStudent_41 rfl ?_
      refine g_iald (pc := 43) E dX6_addStudent_43 rfl (by omega) (by omega) (congrFun e5 _) (fun _ _ => ?_)
      refine g_iadd (pc := 44) E dX6_addStudent_44 ?_
      refine g_iload_n (pc := 45) E dX6_addStudent_45 (i := 1) rfl rfl ?_
      refine g_iast (pc := 46) E dX6_addStudent_46 rfl (by omega) (by omega) ?_ 
      refine g_iconst (pc := 47) E dX6_addStudent_47 rfl ?_
      refine g_istore_n (pc := 48) E dX6_addStudent_48 (i := 2) (ls' := [_, _, _]) rfl (Nat.le_of_ble_eq_true rfl) rfl ?_
      have LP49 : ∀ (n : Nat) (N : Mem) (x : Int), 8 - x < (n : Int) → 0 ≤ x → x ≤ 8 → MOP M N S (asN (ru S (37 + S 7) w) (S 7) x.toNat) → G cx Pg Lc Ev (rmD 3 0 0) s m args below meth c (MQ below (QI cx (fun rz M' => asR S w = rz ∧ (if 0 ≤ asR S w then MOP M M' S (asT S w) else M = M'))) args s 0 0 (cA0 cx)) 49 [some (rf cx 184), some (.int (oi w)), some (.int (oi x))] [] (N) 0 0 := by
        intro n
        induction n with
        | zero => intro N x hn hx0 hx1 hN; exact absurd hn (by omega)
        | succ n ih49 =>
          intro N x hn hx0 hx1 hN
          have e7 : N 185 7 = S 7 := by rw [hN.1, asN_lo (by omega) (by decide), ru_off (by omega)]
          refine g_iload_n (pc := 49) E dX6_addStudent_49 (i := 2) rfl rfl ?_
          refine g_bipush (pc := 50) E dX6_addStudent_50 rfl ?_
          refine g_icmp_ge (pc := 52) (tgt := 80) E dX6_addStudent_52 (by decide) (fun qh52 => ?_) (fun qh52 => ?_) 
          · refine g_aload_n (pc := 80) E dX6_addStudent_80 (i := 0) rfl rfl ?_
            refine g_getr (i := 184) (j := 185) (t := 6) (f := 0) (pc := 81) E dX6_addStudent_81 fl_X6_9 rfl (by decide) (by decide) rfl rfl ?_
            refine g_bipush (pc := 84) E dX6_addStudent_84 rfl ?_
            refine g_dup2 (pc := 86) E dX6_addStudent_86 rfl rfl ?_
            refine g_iald (pc := 87) E dX6_addStudent_87 rfl (by omega) (by omega) e7 (fun _ _ => ?_)
            refine g_dup_x2 (pc := 88) E dX6_addStudent_88 rfl rfl rfl ?_
            refine g_iconst (pc := 89) E dX6_addStudent_89 rfl ?_
            refine g_iadd (pc := 90) E dX6_addStudent_90 ?_
            refine g_iast (pc := 91) E dX6_addStudent_91 rfl (by omega) (by omega) ?_ 
            refine g_iret (pc := 92) E hr dX6_addStudent_92 ?_
            have e : asR S w = S 7 := by rw [asR, if_neg (by omega), if_neg (by omega)]
            rw [show x.toNat = 8 by omega] at hN
            exact ⟨e, by rw [e, if_pos (by omega)]; exact hN.st _ _⟩
          · refine g_aload_n (pc := 55) E dX6_addStudent_55 (i := 0) rfl rfl ?_
            refine g_getr (i := 184) (j := 185) (t := 6) (f := 0) (pc := 56) E dX6_addStudent_56 fl_X6_9 rfl (by decide) (by decide) rfl rfl ?_
            refine g_aload_n (pc := 59) E dX6_addStudent_59 (i := 0) rfl rfl ?_
            refine g_getr (i := 184) (j := 185) (t := 6) (f := 0) (pc := 60) E dX6_addStudent_60 fl_X6_9 rfl (by decide) (by decide) rfl rfl ?_
            refine g_bipush (pc := 63) E dX6_addStudent_63 rfl ?_
            refine g_iald (pc := 65) E dX6_addStudent_65 rfl (by omega) (by omega) e7 (fun _ _ => ?_)
            refine g_iload_n (pc := 66) E dX6_addStudent_66 (i := 2) rfl rfl ?_
            refine g_callS (pc := 67) (As := [_, _]) E dX6_addStudent_67 ml_X6_81 ct_attemptAt rfl rfl (by decide) (by decide) rfl (Nat.le_of_ble_eq_true rfl) (by decide) (fun x67 M67 hM67 => ?_)
            obtain ⟨rfl, rfl⟩ := hM67
            refine g_iconst (pc := 70) E dX6_addStudent_70 rfl ?_
            refine g_iadd (pc := 71) E dX6_addStudent_71 ?_
            refine g_iconst (pc := 72) E dX6_addStudent_72 rfl ?_
            refine g_iast (pc := 73) E dX6_addStudent_73 rfl (by omega) (by omega) ?_ 
            refine g_iinc (pc := 74) E dX6_addStudent_74 (ls' := [_, _, _]) rfl rfl rfl ?_
            refine g_goto (pc := 77) (tgt := 49) E dX6_addStudent_77 (by decide) ?_
            exact g_wk2 (ih49 _ (x + 1) (by omega) (by omega) (by omega) (by have h2 := hN.st (57 + 3 * (8 * S 7 + x) + 2) (-1); rw [show (x + 1).toNat = x.toNat + 1 by omega]; show MOP M _ S (ru (asN (ru S (37 + S 7) w) (S 7) x.toNat) (57 + 3 * (8 * S 7 + (x.toNat : Int)) + 2) (-1)); rw [Int.toNat_of_nonneg hx0]; exact h2)) ⟨rfl, rfl, rfl, trivial⟩
      exact g_wk2 (LP49 9 _ 0 (by omega) (by omega) (by omega) (hmo.st _ _)) ⟨rfl, rfl, rfl, trivial⟩
    · refine g_bipush (pc := 24) E dX6_addStudent_24 rfl ?_
      refine g_iret (pc := 26) E hr dX6_addStudent_26 ?_
      have e : asR S w = -3 := by rw [asR, if_neg (by omega), if_pos (by omega)]
      exact ⟨e, by rw [e, if_neg (by decide)]⟩
  · replace qh6 := bi_0.mp qh6
    refine g_bipush (pc := 9) E dX6_addStudent_9 rfl ?_
    refine g_iret (pc := 11) E hr dX6_addStudent_11 ?_
    have e : asR S w = -2 := by rw [asR, if_pos (by omega)]
    exact ⟨e, by rw [e, if_neg (by decide)]⟩
