/-! copies of rows in the reference -/
/-- row j holds at b .. b + w - 1 what row i holds from a on -/
def cpo (M : Mem) (i : Nat) (a : Int) (j : Nat) (b w : Int) : Mem := fun r => if r = j then (fun x => if b ≤ x ∧ x < b + w then M i (a + (x - b)) else M j x) else M r
theorem cpo_0 (M : Mem) (i : Nat) (a : Int) (j : Nat) (b : Int) : M = cpo M i a j b 0 := by
  funext r x
  unfold cpo
  by_cases hr : r = j
  · subst hr
    simp only [if_true]
    rw [if_neg (by omega)]
  · rw [if_neg hr]
theorem cpo_s {M : Mem} {i : Nat} {a : Int} {j : Nat} {b w v y : Int} (hw : 0 ≤ w) (hv : v = M i (a + w)) (hy : y = b + w) : st (cpo M i a j b w) j y v = cpo M i a j b (w + 1) := by
  subst hv; subst hy
  funext r x
  by_cases hr : r = j
  · subst hr
    rw [st_row]
    simp only [cpo, if_true]
    by_cases hx : x = b + w
    · subst hx
      rw [if_pos rfl, if_pos (by omega), show b + w - b = w by omega]
    · rw [if_neg hx]
      by_cases h2 : b ≤ x ∧ x < b + w
      · rw [if_pos h2, if_pos (by omega)]
      · rw [if_neg h2, if_neg (by omega)]
  · rw [st_ne hr]
    unfold cpo
    rw [if_neg hr, if_neg hr]
theorem cpo_ne {M : Mem} {i : Nat} {a : Int} {j r : Nat} {b w : Int} (h : r ≠ j) : cpo M i a j b w r = M r := if_neg h
theorem cpo_in {M : Mem} {i : Nat} {a : Int} {j : Nat} {b w x : Int} (h : b ≤ x ∧ x < b + w) : cpo M i a j b w j x = M i (a + (x - b)) := by
  unfold cpo
  simp only [if_true]
  rw [if_pos h]
theorem cpo_out {M : Mem} {i : Nat} {a : Int} {j : Nat} {b w x : Int} (h : ¬ (b ≤ x ∧ x < b + w)) : cpo M i a j b w j x = M j x := by
  unfold cpo
  simp only [if_true]
  rw [if_neg h]
/-- what tries, keeps do -/
def triM (M : Mem) : Mem := cpo M 185 0 188 0 745
def kp1 (M : Mem) : Mem := if M 184 2 = 8 then st (cpo M 186 745 186 0 5215) 184 2 7 else M
def kepM (M : Mem) : Mem := st (cpo (kp1 M) 188 0 186 (745 * (kp1 M) 184 2) 745) 184 2 ((kp1 M) 184 2 + 1)

theorem cv_tries {cx : Cx} {M : Mem}  : Cv cx yX6_tries cX6_tries 2 1 0 0 [rf cx 184] M (fun M' => triM M = M') := by
  refine cv_intro cd_X6_tries (by decide +kernel) (Nat.le_of_ble_eq_true rfl) rfl (fun Pg Lc Ev s m args below meth c E hr => ?_)
  refine g_ent (ls' := [some (rf cx 184), none]) rfl ?_
  refine g_iconst (pc := 0) E dX6_tries_0 rfl ?_
  refine g_istore_n (pc := 1) E dX6_tries_1 (i := 1) (ls' := [_, _]) rfl (Nat.le_of_ble_eq_true rfl) rfl ?_
  have LP2 : ∀ (n : Nat) (x : Int), 745 - x < (n : Int) → 0 ≤ x → x ≤ 745 → G cx Pg Lc Ev (rmD 1 0 0) s m args below meth c (MQ below (QV cx (fun M' => triM M = M')) args s 0 0 (cA0 cx)) 2 [some (rf cx 184), some (.int (oi x))] [] (cpo M 185 0 188 0 x) 0 0 := by
    intro n
    induction n with
    | zero => intro x hn hx0 hx1; exact absurd hn (by omega)
    | succ n ih2 =>
      intro x hn hx0 hx1
      refine g_iload_n (pc := 2) E dX6_tries_2 (i := 1) rfl rfl ?_
      refine g_sipush (pc := 3) E dX6_tries_3 rfl ?_
      refine g_icmp_ge (pc := 6) (tgt := 27) E dX6_tries_6 (by decide) (fun qh6 => ?_) (fun qh6 => ?_) 
      · refine g_vret (pc := 27) E hr dX6_tries_27 ?_
        rw [triM, show (745 : Int) = x by omega]
      · refine g_aload_n (pc := 9) E dX6_tries_9 (i := 0) rfl rfl ?_
        refine g_getr (i := 184) (j := 188) (t := 6) (f := 5) (pc := 10) E dX6_tries_10 fl_X6_19 rfl (by decide) (by decide) rfl rfl ?_
        refine g_iload_n (pc := 13) E dX6_tries_13 (i := 1) rfl rfl ?_
        refine g_aload_n (pc := 14) E dX6_tries_14 (i := 0) rfl rfl ?_
        refine g_getr (i := 184) (j := 185) (t := 6) (f := 0) (pc := 15) E dX6_tries_15 fl_X6_9 rfl (by decide) (by decide) rfl rfl ?_
        refine g_iload_n (pc := 18) E dX6_tries_18 (i := 1) rfl rfl ?_
        refine g_iald (pc := 19) E dX6_tries_19 rfl (by omega) (by omega) (v := M 185 (0 + x)) (by rw [Int.zero_add]; rfl) (fun _ _ => ?_)
        refine g_iast (pc := 20) E dX6_tries_20 rfl (by omega) (by omega) ?_ 
        refine g_mem (cpo_s hx0 rfl (by omega)) ?_
        refine g_iinc (pc := 21) E dX6_tries_21 (ls' := [_, _]) rfl rfl rfl ?_
        refine g_goto (pc := 24) (tgt := 2) E dX6_tries_24 (by decide) ?_
        exact g_wk2 (ih2 (x + 1) (by omega) (by omega) (by omega)) ⟨rfl, rfl, trivial⟩
  refine g_mem (cpo_0 M 185 0 188 0) ?_
  exact g_wk2 (LP2 746 0 (by omega) (by omega) (by omega)) ⟨rfl, rfl, trivial⟩

theorem cv_keeps {cx : Cx} {M : Mem} (hu0 : 0 ≤ M 184 2) (hu1 : M 184 2 ≤ 8) : Cv cx yX6_keeps cX6_keeps 2 1 0 0 [rf cx 184] M (fun M' => kepM M = M') := by
  refine cv_intro cd_X6_keeps (by decide +kernel) (Nat.le_of_ble_eq_true rfl) rfl (fun Pg Lc Ev s m args below meth c E hr => ?_)
  refine g_ent (ls' := [some (rf cx 184), none]) rfl ?_
  have JP50 : ∀ (N : Mem), kp1 M = N → 0 ≤ N 184 2 → N 184 2 ≤ 7 → G cx Pg Lc Ev (rmD 1 0 0) s m args below meth c (MQ below (QV cx (fun M' => kepM M = M')) args s 0 0 (cA0 cx)) 50 [some (rf cx 184), none] [] (N) 0 0 := by
    intro N hN hn0 hn1
    refine g_iconst (pc := 50) E dX6_keeps_50 rfl ?_
    refine g_istore_n (pc := 51) E dX6_keeps_51 (i := 1) (ls' := [_, _]) rfl (Nat.le_of_ble_eq_true rfl) rfl ?_
    have LP52 : ∀ (n : Nat) (x : Int), 745 - x < (n : Int) → 0 ≤ x → x ≤ 745 → G cx Pg Lc Ev (rmD 1 0 0) s m args below meth c (MQ below (QV cx (fun M' => kepM M = M')) args s 0 0 (cA0 cx)) 52 [some (rf cx 184), some (.int (oi x))] [] (cpo N 188 0 186 (745 * N 184 2) x) 0 0 := by
      intro n
      induction n with
      | zero => intro x hn hx0 hx1; exact absurd hn (by omega)
      | succ n ih52 =>
        intro x hn hx0 hx1
        refine g_iload_n (pc := 52) E dX6_keeps_52 (i := 1) rfl rfl ?_
        refine g_sipush (pc := 53) E dX6_keeps_53 rfl ?_
        refine g_icmp_ge (pc := 56) (tgt := 86) E dX6_keeps_56 (by decide) (fun qh56 => ?_) (fun qh56 => ?_) 
        · refine g_aload_n (pc := 86) E dX6_keeps_86 (i := 0) rfl rfl ?_
          refine g_dup (pc := 87) E dX6_keeps_87 rfl ?_
          refine g_geti (i := 184) (t := 6) (f := 2) (fz := 2) (pc := 88) E dX6_keeps_88 fl_X6_50 rfl (by decide) (by decide) rfl rfl (v := N 184 2) (by rfl) (fun _ _ => ?_)
          refine g_iconst (pc := 91) E dX6_keeps_91 rfl ?_
          refine g_iadd (pc := 92) E dX6_keeps_92 ?_
          refine g_puti (i := 184) (t := 6) (f := 2) (fz := 2) (pc := 93) E dX6_keeps_93 fl_X6_50 rfl (by decide) (by decide) rfl rfl ?_ 
          refine g_vret (pc := 96) E hr dX6_keeps_96 ?_
          rw [kepM, hN, show (745 : Int) = x by omega]
        · refine g_aload_n (pc := 59) E dX6_keeps_59 (i := 0) rfl rfl ?_
          refine g_getr (i := 184) (j := 186) (t := 6) (f := 1) (pc := 60) E dX6_keeps_60 fl_X6_13 rfl (by decide) (by decide) rfl rfl ?_
          refine g_sipush (pc := 63) E dX6_keeps_63 rfl ?_
          refine g_aload_n (pc := 66) E dX6_keeps_66 (i := 0) rfl rfl ?_
          refine g_geti (i := 184) (t := 6) (f := 2) (fz := 2) (pc := 67) E dX6_keeps_67 fl_X6_50 rfl (by decide) (by decide) rfl rfl (v := N 184 2) (by rfl) (fun _ _ => ?_)
          refine g_imul (pc := 70) E dX6_keeps_70 ?_
          refine g_iload_n (pc := 71) E dX6_keeps_71 (i := 1) rfl rfl ?_
          refine g_iadd (pc := 72) E dX6_keeps_72 ?_
          refine g_aload_n (pc := 73) E dX6_keeps_73 (i := 0) rfl rfl ?_
          refine g_getr (i := 184) (j := 188) (t := 6) (f := 5) (pc := 74) E dX6_keeps_74 fl_X6_19 rfl (by decide) (by decide) rfl rfl ?_
          refine g_iload_n (pc := 77) E dX6_keeps_77 (i := 1) rfl rfl ?_
          refine g_iald (pc := 78) E dX6_keeps_78 rfl (by omega) (by omega) (v := N 188 (0 + x)) (by rw [Int.zero_add]; rfl) (fun _ _ => ?_)
          refine g_iast (pc := 79) E dX6_keeps_79 rfl (by omega) (by omega) ?_ 
          refine g_mem (cpo_s hx0 rfl rfl) ?_
          refine g_iinc (pc := 80) E dX6_keeps_80 (ls' := [_, _]) rfl rfl rfl ?_
          refine g_goto (pc := 83) (tgt := 52) E dX6_keeps_83 (by decide) ?_
          exact g_wk2 (ih52 (x + 1) (by omega) (by omega) (by omega)) ⟨rfl, rfl, trivial⟩
    refine g_mem (cpo_0 N 188 0 186 (745 * N 184 2)) ?_
    exact g_wk2 (LP52 746 0 (by omega) (by omega) (by omega)) ⟨rfl, rfl, trivial⟩
  refine g_aload_n (pc := 0) E dX6_keeps_0 (i := 0) rfl rfl ?_
  refine g_geti (i := 184) (t := 6) (f := 2) (fz := 2) (pc := 1) E dX6_keeps_1 fl_X6_50 rfl (by decide) (by decide) rfl rfl rfl (fun _ _ => ?_)
  refine g_bipush (pc := 4) E dX6_keeps_4 rfl ?_
  refine g_icmp_ne (pc := 6) (tgt := 50) E dX6_keeps_6 (by decide) (fun qh6 => ?_) (fun qh6 => ?_) 
  · exact g_wk2 (JP50 M (by rw [kp1, if_neg (by omega)]) (by omega) (by omega)) ⟨rfl, trivial⟩
  · refine g_iconst (pc := 9) E dX6_keeps_9 rfl ?_
    refine g_istore_n (pc := 10) E dX6_keeps_10 (i := 1) (ls' := [_, _]) rfl (Nat.le_of_ble_eq_true rfl) rfl ?_
    have LP11 : ∀ (n : Nat) (x : Int), 5215 - x < (n : Int) → 0 ≤ x → x ≤ 5215 → G cx Pg Lc Ev (rmD 1 0 0) s m args below meth c (MQ below (QV cx (fun M' => kepM M = M')) args s 0 0 (cA0 cx)) 11 [some (rf cx 184), some (.int (oi x))] [] (cpo M 186 745 186 0 x) 0 0 := by
      intro n
      induction n with
      | zero => intro x hn hx0 hx1; exact absurd hn (by omega)
      | succ n ih11 =>
        intro x hn hx0 hx1
        refine g_iload_n (pc := 11) E dX6_keeps_11 (i := 1) rfl rfl ?_
        refine g_sipush (pc := 12) E dX6_keeps_12 rfl ?_
        refine g_icmp_ge (pc := 15) (tgt := 40) E dX6_keeps_15 (by decide) (fun qh15 => ?_) (fun qh15 => ?_) 
        · refine g_aload_n (pc := 40) E dX6_keeps_40 (i := 0) rfl rfl ?_
          refine g_dup (pc := 41) E dX6_keeps_41 rfl ?_
          refine g_geti (i := 184) (t := 6) (f := 2) (fz := 2) (pc := 42) E dX6_keeps_42 fl_X6_50 rfl (by decide) (by decide) rfl rfl (v := 8) (by exact (show M 184 2 = 8 by omega)) (fun _ _ => ?_)
          refine g_iconst (pc := 45) E dX6_keeps_45 rfl ?_
          refine g_isub (pc := 46) E dX6_keeps_46 ?_
          refine g_top (b := 7) (by decide) ?_
          refine g_puti (i := 184) (t := 6) (f := 2) (fz := 2) (pc := 47) E dX6_keeps_47 fl_X6_50 rfl (by decide) (by decide) rfl rfl ?_ 
          exact g_wk2 (JP50 _ (by rw [kp1, if_pos (by omega), show (5215 : Int) = x by omega]) (by rw [st_self]; decide) (by rw [st_self]; decide)) ⟨rfl, trivial⟩
        · refine g_aload_n (pc := 18) E dX6_keeps_18 (i := 0) rfl rfl ?_
          refine g_getr (i := 184) (j := 186) (t := 6) (f := 1) (pc := 19) E dX6_keeps_19 fl_X6_13 rfl (by decide) (by decide) rfl rfl ?_
          refine g_iload_n (pc := 22) E dX6_keeps_22 (i := 1) rfl rfl ?_
          refine g_aload_n (pc := 23) E dX6_keeps_23 (i := 0) rfl rfl ?_
          refine g_getr (i := 184) (j := 186) (t := 6) (f := 1) (pc := 24) E dX6_keeps_24 fl_X6_13 rfl (by decide) (by decide) rfl rfl ?_
          refine g_sipush (pc := 27) E dX6_keeps_27 rfl ?_
          refine g_iload_n (pc := 30) E dX6_keeps_30 (i := 1) rfl rfl ?_
          refine g_iadd (pc := 31) E dX6_keeps_31 ?_
          refine g_iald (pc := 32) E dX6_keeps_32 rfl (by omega) (by omega) (v := M 186 (745 + x)) (by rw [cpo_out (by omega)]) (fun _ _ => ?_)
          refine g_iast (pc := 33) E dX6_keeps_33 rfl (by omega) (by omega) ?_ 
          refine g_mem (cpo_s hx0 rfl (by omega)) ?_
          refine g_iinc (pc := 34) E dX6_keeps_34 (ls' := [_, _]) rfl rfl rfl ?_
          refine g_goto (pc := 37) (tgt := 11) E dX6_keeps_37 (by decide) ?_
          exact g_wk2 (ih11 (x + 1) (by omega) (by omega) (by omega)) ⟨rfl, rfl, trivial⟩
    refine g_mem (cpo_0 M 186 745 186 0) ?_
    exact g_wk2 (LP11 5216 0 (by omega) (by omega) (by omega)) ⟨rfl, rfl, trivial⟩

def chgM (M : Mem) : Mem := kepM (triM M)

theorem cv_changes {cx : Cx} {M : Mem} (hu0 : 0 ≤ M 184 2) (hu1 : M 184 2 ≤ 8) : Cv cx yX6_changes cX6_changes 1 2 0 0 [rf cx 184] M (fun M' => chgM M = M') := by
  refine cv_intro cd_X6_changes (by decide +kernel) (Nat.le_of_ble_eq_true rfl) rfl (fun Pg Lc Ev s m args below meth c E hr => ?_)
  refine g_ent (ls' := [some (rf cx 184)]) rfl ?_
  refine g_aload_n (pc := 0) E dX6_changes_0 (i := 0) rfl rfl ?_
  refine g_callVv (pc := 1) (As := []) E dX6_changes_1 ml_X6_54 cv_tries rfl rfl rfl rfl (by decide) (by decide) rfl (Nat.le_of_ble_eq_true rfl) (by decide) (fun M1 hM1 => ?_)
  obtain rfl := hM1
  refine g_aload_n (pc := 4) E dX6_changes_4 (i := 0) rfl rfl ?_
  refine g_callVv (pc := 5) (As := []) E dX6_changes_5 ml_X6_57 (cv_keeps (M := triM M) hu0 hu1) rfl rfl rfl rfl (by decide) (by decide) rfl (Nat.le_of_ble_eq_true rfl) (by decide) (fun M5 hM5 => ?_)
  obtain rfl := hM5
  refine g_vret (pc := 8) E hr dX6_changes_8 ?_
  rfl

def undM (M : Mem) : Mem := cpo (st M 184 2 (M 184 2 - 1)) 186 (745 * (M 184 2 - 1)) 185 0 745
def savM (M : Mem) : Mem := cpo (st M 184 4 1) 185 0 187 0 745
def resM (M : Mem) : Mem := st (cpo M 187 0 185 0 745) 184 2 0
def cbkM (M : Mem) : Mem := st (cpo M 188 0 185 0 745) 184 7 0

theorem cv_comesBack {cx : Cx} {M : Mem}  : Cv cx yX6_comesBack cX6_comesBack 2 1 0 0 [rf cx 184] M (fun M' => cbkM M = M') := by
  refine cv_intro cd_X6_comesBack (by decide +kernel) (Nat.le_of_ble_eq_true rfl) rfl (fun Pg Lc Ev s m args below meth c E hr => ?_)
  refine g_ent (ls' := [some (rf cx 184), none]) rfl ?_
  refine g_iconst (pc := 0) E dX6_comesBack_0 rfl ?_
  refine g_istore_n (pc := 1) E dX6_comesBack_1 (i := 1) (ls' := [_, _]) rfl (Nat.le_of_ble_eq_true rfl) rfl ?_
  have LP2 : ∀ (n : Nat) (x : Int), 745 - x < (n : Int) → 0 ≤ x → x ≤ 745 → G cx Pg Lc Ev (rmD 1 0 0) s m args below meth c (MQ below (QV cx (fun M' => cbkM M = M')) args s 0 0 (cA0 cx)) 2 [some (rf cx 184), some (.int (oi x))] [] (cpo M 188 0 185 0 x) 0 0 := by
    intro n
    induction n with
    | zero => intro x hn hx0 hx1; exact absurd hn (by omega)
    | succ n ih2 =>
      intro x hn hx0 hx1
      refine g_iload_n (pc := 2) E dX6_comesBack_2 (i := 1) rfl rfl ?_
      refine g_sipush (pc := 3) E dX6_comesBack_3 rfl ?_
      refine g_icmp_ge (pc := 6) (tgt := 27) E dX6_comesBack_6 (by decide) (fun qh6 => ?_) (fun qh6 => ?_) 
      · refine g_aload_n (pc := 27) E dX6_comesBack_27 (i := 0) rfl rfl ?_
        refine g_iconst (pc := 28) E dX6_comesBack_28 rfl ?_
        refine g_puti (i := 184) (t := 6) (f := 7) (fz := 7) (pc := 29) E dX6_comesBack_29 fl_X6_206 rfl (by decide) (by decide) rfl rfl ?_ 
        refine g_vret (pc := 32) E hr dX6_comesBack_32 ?_
        rw [cbkM, show (745 : Int) = x by omega]
      · refine g_aload_n (pc := 9) E dX6_comesBack_9 (i := 0) rfl rfl ?_
        refine g_getr (i := 184) (j := 185) (t := 6) (f := 0) (pc := 10) E dX6_comesBack_10 fl_X6_9 rfl (by decide) (by decide) rfl rfl ?_
        refine g_iload_n (pc := 13) E dX6_comesBack_13 (i := 1) rfl rfl ?_
        refine g_aload_n (pc := 14) E dX6_comesBack_14 (i := 0) rfl rfl ?_
        refine g_getr (i := 184) (j := 188) (t := 6) (f := 5) (pc := 15) E dX6_comesBack_15 fl_X6_19 rfl (by decide) (by decide) rfl rfl ?_
        refine g_iload_n (pc := 18) E dX6_comesBack_18 (i := 1) rfl rfl ?_
        refine g_iald (pc := 19) E dX6_comesBack_19 rfl (by omega) (by omega) (v := M 188 (0 + x)) (by rw [Int.zero_add]; rfl) (fun _ _ => ?_)
        refine g_iast (pc := 20) E dX6_comesBack_20 rfl (by omega) (by omega) ?_ 
        refine g_mem (cpo_s hx0 rfl (by omega)) ?_
        refine g_iinc (pc := 21) E dX6_comesBack_21 (ls' := [_, _]) rfl rfl rfl ?_
        refine g_goto (pc := 24) (tgt := 2) E dX6_comesBack_24 (by decide) ?_
        exact g_wk2 (ih2 (x + 1) (by omega) (by omega) (by omega)) ⟨rfl, rfl, trivial⟩
  refine g_mem (cpo_0 M 188 0 185 0) ?_
  exact g_wk2 (LP2 746 0 (by omega) (by omega) (by omega)) ⟨rfl, rfl, trivial⟩

theorem ct_undo {cx : Cx} {M : Mem} (hu0 : 0 ≤ M 184 2) (hu1 : M 184 2 ≤ 8) : Ct cx yX6_undo cX6_undo 2 (some .int) 1 0 0 [rf cx 184] M (fun rz M' => if M 184 2 = 0 then rz = -5 ∧ M = M' else rz = M 184 2 - 1 ∧ undM M = M') := by
  refine ct_intro cd_X6_undo (by decide +kernel) (Nat.le_of_ble_eq_true rfl) rfl (fun Pg Lc Ev s m args below meth c E hr => ?_)
  refine g_ent (ls' := [some (rf cx 184), none]) rfl ?_
  refine g_aload_n (pc := 0) E dX6_undo_0 (i := 0) rfl rfl ?_
  refine g_geti (i := 184) (t := 6) (f := 2) (fz := 2) (pc := 1) E dX6_undo_1 fl_X6_50 rfl (by decide) (by decide) rfl rfl rfl (fun _ _ => ?_)
  refine g_if_ne (pc := 4) (tgt := 10) E dX6_undo_4 (by decide) (fun qh4 => ?_) (fun qh4 => ?_) 
  · refine g_aload_n (pc := 10) E dX6_undo_10 (i := 0) rfl rfl ?_
    refine g_dup (pc := 11) E dX6_undo_11 rfl ?_
    refine g_geti (i := 184) (t := 6) (f := 2) (fz := 2) (pc := 12) E dX6_undo_12 fl_X6_50 rfl (by decide) (by decide) rfl rfl rfl (fun _ _ => ?_)
    refine g_iconst (pc := 15) E dX6_undo_15 rfl ?_
    refine g_isub (pc := 16) E dX6_undo_16 ?_
    refine g_puti (i := 184) (t := 6) (f := 2) (fz := 2) (pc := 17) E dX6_undo_17 fl_X6_50 rfl (by decide) (by decide) rfl rfl ?_ 
    refine g_iconst (pc := 20) E dX6_undo_20 rfl ?_
    refine g_istore_n (pc := 21) E dX6_undo_21 (i := 1) (ls' := [_, _]) rfl (Nat.le_of_ble_eq_true rfl) rfl ?_
    have LP22 : ∀ (n : Nat) (x : Int), 745 - x < (n : Int) → 0 ≤ x → x ≤ 745 → G cx Pg Lc Ev (rmD 1 0 0) s m args below meth c (MQ below (QI cx (fun rz M' => if M 184 2 = 0 then rz = -5 ∧ M = M' else rz = M 184 2 - 1 ∧ undM M = M')) args s 0 0 (cA0 cx)) 22 [some (rf cx 184), some (.int (oi x))] [] (cpo (st M 184 2 (M 184 2 - 1)) 186 (745 * (M 184 2 - 1)) 185 0 x) 0 0 := by
      intro n
      induction n with
      | zero => intro x hn hx0 hx1; exact absurd hn (by omega)
      | succ n ih22 =>
        intro x hn hx0 hx1
        refine g_iload_n (pc := 22) E dX6_undo_22 (i := 1) rfl rfl ?_
        refine g_sipush (pc := 23) E dX6_undo_23 rfl ?_
        refine g_icmp_ge (pc := 26) (tgt := 56) E dX6_undo_26 (by decide) (fun qh26 => ?_) (fun qh26 => ?_) 
        · refine g_aload_n (pc := 56) E dX6_undo_56 (i := 0) rfl rfl ?_
          refine g_geti (i := 184) (t := 6) (f := 2) (fz := 2) (pc := 57) E dX6_undo_57 fl_X6_50 rfl (by decide) (by decide) rfl rfl (v := M 184 2 - 1) (by rw [cpo_ne (by decide), st_self]) (fun _ _ => ?_)
          refine g_iret (pc := 60) E hr dX6_undo_60 ?_
          rw [if_neg (by omega)]; exact ⟨rfl, by rw [undM, show (745 : Int) = x by omega]⟩
        · refine g_aload_n (pc := 29) E dX6_undo_29 (i := 0) rfl rfl ?_
          refine g_getr (i := 184) (j := 185) (t := 6) (f := 0) (pc := 30) E dX6_undo_30 fl_X6_9 rfl (by decide) (by decide) rfl rfl ?_
          refine g_iload_n (pc := 33) E dX6_undo_33 (i := 1) rfl rfl ?_
          refine g_aload_n (pc := 34) E dX6_undo_34 (i := 0) rfl rfl ?_
          refine g_getr (i := 184) (j := 186) (t := 6) (f := 1) (pc := 35) E dX6_undo_35 fl_X6_13 rfl (by decide) (by decide) rfl rfl ?_
          refine g_sipush (pc := 38) E dX6_undo_38 rfl ?_
          refine g_aload_n (pc := 41) E dX6_undo_41 (i := 0) rfl rfl ?_
          refine g_geti (i := 184) (t := 6) (f := 2) (fz := 2) (pc := 42) E dX6_undo_42 fl_X6_50 rfl (by decide) (by decide) rfl rfl (v := M 184 2 - 1) (by rw [cpo_ne (by decide), st_self]) (fun _ _ => ?_)
          refine g_imul (pc := 45) E dX6_undo_45 ?_
          refine g_iload_n (pc := 46) E dX6_undo_46 (i := 1) rfl rfl ?_
          refine g_iadd (pc := 47) E dX6_undo_47 ?_
          refine g_iald (pc := 48) E dX6_undo_48 rfl (by omega) (by omega) (v := M 186 (745 * (M 184 2 - 1) + x)) (by rfl) (fun _ _ => ?_)
          refine g_iast (pc := 49) E dX6_undo_49 rfl (by omega) (by omega) ?_ 
          refine g_mem (cpo_s hx0 (by show _ = M 186 _; rfl) (by omega)) ?_
          refine g_iinc (pc := 50) E dX6_undo_50 (ls' := [_, _]) rfl rfl rfl ?_
          refine g_goto (pc := 53) (tgt := 22) E dX6_undo_53 (by decide) ?_
          exact g_wk2 (ih22 (x + 1) (by omega) (by omega) (by omega)) ⟨rfl, rfl, trivial⟩
    refine g_mem (cpo_0 (st M 184 2 (M 184 2 - 1)) 186 (745 * (M 184 2 - 1)) 185 0) ?_
    exact g_wk2 (LP22 746 0 (by omega) (by omega) (by omega)) ⟨rfl, rfl, trivial⟩
  · refine g_bipush (pc := 7) E dX6_undo_7 rfl ?_
    refine g_iret (pc := 9) E hr dX6_undo_9 ?_
    rw [if_pos (by omega)]; exact ⟨rfl, rfl⟩

theorem ct_save {cx : Cx} {M : Mem}  : Ct cx yX6_save cX6_save 2 (some .int) 1 0 0 [rf cx 184] M (fun rz M' => M 185 7 = rz ∧ savM M = M') := by
  refine ct_intro cd_X6_save (by decide +kernel) (Nat.le_of_ble_eq_true rfl) rfl (fun Pg Lc Ev s m args below meth c E hr => ?_)
  refine g_ent (ls' := [some (rf cx 184), none]) rfl ?_
  refine g_aload_n (pc := 0) E dX6_save_0 (i := 0) rfl rfl ?_
  refine g_iconst (pc := 1) E dX6_save_1 rfl ?_
  refine g_putz (i := 184) (t := 6) (f := 4) (fz := 4) (pc := 2) E dX6_save_2 fl_X6_234 rfl (by decide) (by decide) rfl rfl (by omega) ?_
  refine g_iconst (pc := 5) E dX6_save_5 rfl ?_
  refine g_istore_n (pc := 6) E dX6_save_6 (i := 1) (ls' := [_, _]) rfl (Nat.le_of_ble_eq_true rfl) rfl ?_
  have LP7 : ∀ (n : Nat) (x : Int), 745 - x < (n : Int) → 0 ≤ x → x ≤ 745 → G cx Pg Lc Ev (rmD 1 0 0) s m args below meth c (MQ below (QI cx (fun rz M' => M 185 7 = rz ∧ savM M = M')) args s 0 0 (cA0 cx)) 7 [some (rf cx 184), some (.int (oi x))] [] (cpo (st M 184 4 1) 185 0 187 0 x) 0 0 := by
    intro n
    induction n with
    | zero => intro x hn hx0 hx1; exact absurd hn (by omega)
    | succ n ih7 =>
      intro x hn hx0 hx1
      refine g_iload_n (pc := 7) E dX6_save_7 (i := 1) rfl rfl ?_
      refine g_sipush (pc := 8) E dX6_save_8 rfl ?_
      refine g_icmp_ge (pc := 11) (tgt := 32) E dX6_save_11 (by decide) (fun qh11 => ?_) (fun qh11 => ?_) 
      · refine g_aload_n (pc := 32) E dX6_save_32 (i := 0) rfl rfl ?_
        refine g_getr (i := 184) (j := 185) (t := 6) (f := 0) (pc := 33) E dX6_save_33 fl_X6_9 rfl (by decide) (by decide) rfl rfl ?_
        refine g_bipush (pc := 36) E dX6_save_36 rfl ?_
        refine g_iald (pc := 38) E dX6_save_38 rfl (by omega) (by omega) (v := M 185 7) (by rfl) (fun _ _ => ?_)
        refine g_iret (pc := 39) E hr dX6_save_39 ?_
        exact ⟨rfl, by rw [savM, show (745 : Int) = x by omega]⟩
      · refine g_aload_n (pc := 14) E dX6_save_14 (i := 0) rfl rfl ?_
        refine g_getr (i := 184) (j := 187) (t := 6) (f := 3) (pc := 15) E dX6_save_15 fl_X6_16 rfl (by decide) (by decide) rfl rfl ?_
        refine g_iload_n (pc := 18) E dX6_save_18 (i := 1) rfl rfl ?_
        refine g_aload_n (pc := 19) E dX6_save_19 (i := 0) rfl rfl ?_
        refine g_getr (i := 184) (j := 185) (t := 6) (f := 0) (pc := 20) E dX6_save_20 fl_X6_9 rfl (by decide) (by decide) rfl rfl ?_
        refine g_iload_n (pc := 23) E dX6_save_23 (i := 1) rfl rfl ?_
        refine g_iald (pc := 24) E dX6_save_24 rfl (by omega) (by omega) (v := M 185 (0 + x)) (by rw [Int.zero_add]; rfl) (fun _ _ => ?_)
        refine g_iast (pc := 25) E dX6_save_25 rfl (by omega) (by omega) ?_ 
        refine g_mem (cpo_s hx0 rfl (by omega)) ?_
        refine g_iinc (pc := 26) E dX6_save_26 (ls' := [_, _]) rfl rfl rfl ?_
        refine g_goto (pc := 29) (tgt := 7) E dX6_save_29 (by decide) ?_
        exact g_wk2 (ih7 (x + 1) (by omega) (by omega) (by omega)) ⟨rfl, rfl, trivial⟩
  refine g_mem (cpo_0 (st M 184 4 1) 185 0 187 0) ?_
  exact g_wk2 (LP7 746 0 (by omega) (by omega) (by omega)) ⟨rfl, rfl, trivial⟩

theorem ct_restore {cx : Cx} {M : Mem}  : Ct cx yX6_restore cX6_restore 2 (some .int) 1 0 0 [rf cx 184] M (fun rz M' => if M 184 4 = 0 then rz = -5 ∧ M = M' else rz = M 187 7 ∧ resM M = M') := by
  refine ct_intro cd_X6_restore (by decide +kernel) (Nat.le_of_ble_eq_true rfl) rfl (fun Pg Lc Ev s m args below meth c E hr => ?_)
  refine g_ent (ls' := [some (rf cx 184), none]) rfl ?_
  refine g_aload_n (pc := 0) E dX6_restore_0 (i := 0) rfl rfl ?_
  refine g_geti (i := 184) (t := 6) (f := 4) (fz := 4) (pc := 1) E dX6_restore_1 fl_X6_234 rfl (by decide) (by decide) rfl rfl rfl (fun _ _ => ?_)
  refine g_if_ne (pc := 4) (tgt := 10) E dX6_restore_4 (by decide) (fun qh4 => ?_) (fun qh4 => ?_) 
  · refine g_iconst (pc := 10) E dX6_restore_10 rfl ?_
    refine g_istore_n (pc := 11) E dX6_restore_11 (i := 1) (ls' := [_, _]) rfl (Nat.le_of_ble_eq_true rfl) rfl ?_
    have LP12 : ∀ (n : Nat) (x : Int), 745 - x < (n : Int) → 0 ≤ x → x ≤ 745 → G cx Pg Lc Ev (rmD 1 0 0) s m args below meth c (MQ below (QI cx (fun rz M' => if M 184 4 = 0 then rz = -5 ∧ M = M' else rz = M 187 7 ∧ resM M = M')) args s 0 0 (cA0 cx)) 12 [some (rf cx 184), some (.int (oi x))] [] (cpo M 187 0 185 0 x) 0 0 := by
      intro n
      induction n with
      | zero => intro x hn hx0 hx1; exact absurd hn (by omega)
      | succ n ih12 =>
        intro x hn hx0 hx1
        refine g_iload_n (pc := 12) E dX6_restore_12 (i := 1) rfl rfl ?_
        refine g_sipush (pc := 13) E dX6_restore_13 rfl ?_
        refine g_icmp_ge (pc := 16) (tgt := 37) E dX6_restore_16 (by decide) (fun qh16 => ?_) (fun qh16 => ?_) 
        · refine g_aload_n (pc := 37) E dX6_restore_37 (i := 0) rfl rfl ?_
          refine g_iconst (pc := 38) E dX6_restore_38 rfl ?_
          refine g_puti (i := 184) (t := 6) (f := 2) (fz := 2) (pc := 39) E dX6_restore_39 fl_X6_50 rfl (by decide) (by decide) rfl rfl ?_ 
          refine g_aload_n (pc := 42) E dX6_restore_42 (i := 0) rfl rfl ?_
          refine g_getr (i := 184) (j := 185) (t := 6) (f := 0) (pc := 43) E dX6_restore_43 fl_X6_9 rfl (by decide) (by decide) rfl rfl ?_
          refine g_bipush (pc := 46) E dX6_restore_46 rfl ?_
          refine g_iald (pc := 48) E dX6_restore_48 rfl (by omega) (by omega) (v := M 187 7) (by show cpo M 187 0 185 0 x 185 7 = _; rw [cpo_in (by omega)]; rfl) (fun _ _ => ?_)
          refine g_iret (pc := 49) E hr dX6_restore_49 ?_
          rw [if_neg (by omega)]; exact ⟨rfl, by rw [resM, show (745 : Int) = x by omega]⟩
        · refine g_aload_n (pc := 19) E dX6_restore_19 (i := 0) rfl rfl ?_
          refine g_getr (i := 184) (j := 185) (t := 6) (f := 0) (pc := 20) E dX6_restore_20 fl_X6_9 rfl (by decide) (by decide) rfl rfl ?_
          refine g_iload_n (pc := 23) E dX6_restore_23 (i := 1) rfl rfl ?_
          refine g_aload_n (pc := 24) E dX6_restore_24 (i := 0) rfl rfl ?_
          refine g_getr (i := 184) (j := 187) (t := 6) (f := 3) (pc := 25) E dX6_restore_25 fl_X6_16 rfl (by decide) (by decide) rfl rfl ?_
          refine g_iload_n (pc := 28) E dX6_restore_28 (i := 1) rfl rfl ?_
          refine g_iald (pc := 29) E dX6_restore_29 rfl (by omega) (by omega) (v := M 187 (0 + x)) (by rw [Int.zero_add]; rfl) (fun _ _ => ?_)
          refine g_iast (pc := 30) E dX6_restore_30 rfl (by omega) (by omega) ?_ 
          refine g_mem (cpo_s hx0 rfl (by omega)) ?_
          refine g_iinc (pc := 31) E dX6_restore_31 (ls' := [_, _]) rfl rfl rfl ?_
          refine g_goto (pc := 34) (tgt := 12) E dX6_restore_34 (by decide) ?_
          exact g_wk2 (ih12 (x + 1) (by omega) (by omega) (by omega)) ⟨rfl, rfl, trivial⟩
    refine g_mem (cpo_0 M 187 0 185 0) ?_
    exact g_wk2 (LP12 746 0 (by omega) (by omega) (by omega)) ⟨rfl, rfl, trivial⟩
  · refine g_bipush (pc := 7) E dX6_restore_7 rfl ?_
    refine g_iret (pc := 9) E hr dX6_restore_9 ?_
    rw [if_pos (by omega)]; exact ⟨rfl, rfl⟩
