/-! scaling, account and changedIf of the reference -/
def slF (S : Int → Int) (p c s : Int) : Int := if rawIn S p c s then scS S s p else 0
def tpF (S : Int → Int) (p c s t : Int) : Int := if rawIn S p c s ∧ rawIn S p c t ∧ fstS S t p < fstS S s p ∧ scS S s p < scS S t p then 1 else 0
def tp1 (S : Int → Int) (p c s : Int) : Int := sz (tpF S p c s) (S 7)
def dfE (S : Int → Int) (p c s t : Int) : Int := if rawIn S p c t ∧ scS S t p = scS S s p then 1 else 0
def dfF (S : Int → Int) (p c s : Int) : Int := if rawIn S p c s ∧ sz (dfE S p c s) s = 0 then 1 else 0
def sclS (S : Int → Int) (p c w : Int) : Int := if ¬ (0 ≤ p ∧ p < S 6 ∧ 0 ≤ c ∧ c < 3) then -1 else if ¬ (0 ≤ w ∧ w ≤ 6) then -2 else if w < 2 then S (537 + 2 * (3 * p + c) + w) else if w = 2 then cntS S p c else if w < 5 ∧ cntS S p c = 0 then -5 else if w = 3 then nrs (sumS S p c) (cntS S p c) else if w = 4 then nrs (sz (slF S p c) (S 7)) (cntS S p c) else if w = 5 then sz (tp1 S p c) (S 7) else sz (dfF S p c) (S 7)
theorem sz_z {f : Int → Int} {x : Int} (h : ∀ j : Int, 0 ≤ j → j < x → f j = 0) : sz f x = 0 := by
  have : sz f x = sz (fun _ => 0) x := sz_c h
  rw [this]
  have h2 : ∀ k : Nat, smN (fun _ => (0 : Int)) k = 0 := fun k => by
    induction k with
    | zero => rfl
    | succ k ih => show smN (fun _ => (0 : Int)) k + 0 = 0; omega
  exact h2 _
theorem tp1_R {S : Int → Int} (hV : SOK S) (p c s : Int) {y : Int} (h0 : 0 ≤ y) (h1 : y ≤ S 7) : 0 ≤ sz (tpF S p c s) y ∧ sz (tpF S p c s) y ≤ 20 := by
  have a := hV.1
  have b := sz_R (f := tpF S p c s) (a := 0) (b := 1) h0 (fun j _ _ => by unfold tpF; split <;> omega)
  omega
theorem slS_le {S : Int → Int} (p c : Int) : 0 ≤ sz (slF S p c) (S 7) ∧ sz (slF S p c) (S 7) ≤ 100 * cntS S p c := by
  constructor
  · exact sz_pos (fun j _ _ => by have := scS_R S j p; unfold slF; split <;> omega)
  · refine smN_le' 100 _ (fun j _ _ => ?_)
    have := scS_R S j p
    unfold slF cntF rawIn
    split <;> omega
def acF (S : Int → Int) (w i : Int) : Int := if w = 4 then (if 0 ≤ S (57 + 3 * (8 * (S (585 + i) / 8) + S (585 + i) % 8) + 2) then 1 else 0) else if w = 5 then (if 1 < S (57 + 3 * (8 * (S (585 + i) / 8) + S (585 + i) % 8)) then 1 else 0) else mkS S (S (585 + i) / 8) (S (585 + i) % 8)
def pcrF (S mk : Int → Int) (m : Int) : Int := if psM S mk m then S (9 + m) else 0
def pcrS (S mk : Int → Int) : Int := sz (pcrF S mk) (S 5)
def acS (S : Int → Int) (n u w : Int) : Int := if 0 ≤ w ∧ w ≤ 2 then S (5 + w) else if w = 3 then S 8 else if 4 ≤ w ∧ w ≤ 6 then sz (acF S w) (S 8) else if w = 7 then allS S else if w = 8 then sz (fun s => pcrS S (lkM S s (-1) 0)) (S 7) else if w = 9 then n else if w = 10 then u else if 11 ≤ w ∧ w ≤ 15 then S (w - 11) else -2
theorem pcr_R {S mk : Int → Int} (hV : SOK S) {x : Int} (h0 : 0 ≤ x) (h1 : x ≤ S 5) : 0 ≤ sz (pcrF S mk) x ∧ sz (pcrF S mk) x ≤ 36 := by
  have a := hV.1
  have := sz_R (f := pcrF S mk) (a := 0) (b := 9) h0 (fun j q0 q1 => by
    have := hV.2.1 j q0 (by omega)
    unfold pcrF
    split <;> omega)
  omega

theorem ct_passedCredits {cx : Cx} {M : Mem} {S : Int → Int} (e5 : M 185 = S) {mk : Int → Int} (hV : SOK S) (h194 : ∀ m, 0 ≤ m → m < S 5 → M 194 m = bi (psM S mk m)) : Ct cx yX6_passedCredits cX6_passedCredits 3 (some .int) 2 0 0 [rf cx 184] M (fun rz M' => pcrS S mk = rz ∧ M = M') := by
  refine ct_intro cd_X6_passedCredits (by decide +kernel) (Nat.le_of_ble_eq_true rfl) rfl (fun Pg Lc Ev s m args below meth c E hr => ?_)
  refine g_ent (ls' := [some (rf cx 184), none, none]) rfl ?_
  have hV0 := hV.1
  refine g_iconst (pc := 0) E dX6_passedCredits_0 rfl ?_
  refine g_istore_n (pc := 1) E dX6_passedCredits_1 (i := 1) (ls' := [_, _, _]) rfl (Nat.le_of_ble_eq_true rfl) rfl ?_
  refine g_iconst (pc := 2) E dX6_passedCredits_2 rfl ?_
  refine g_istore_n (pc := 3) E dX6_passedCredits_3 (i := 2) (ls' := [_, _, _]) rfl (Nat.le_of_ble_eq_true rfl) rfl ?_
  have LP4 : ∀ (n : Nat) (x a : Int), S 5 - x < (n : Int) → 0 ≤ x → x ≤ S 5 → a = sz (pcrF S mk) x → G cx Pg Lc Ev (rmD 2 0 0) s m args below meth c (MQ below (QI cx (fun rz M' => pcrS S mk = rz ∧ M = M')) args s 0 0 (cA0 cx)) 4 [some (rf cx 184), some (.int (oi a)), some (.int (oi x))] [] (M) 0 0 := by
    intro n
    induction n with
    | zero => intro x a hn hx0 hx1 ha; exact absurd hn (by omega)
    | succ n ih4 =>
      intro x a hn hx0 hx1 ha
      have haR := pcr_R (mk := mk) hV hx0 hx1
      refine g_iload_n (pc := 4) E dX6_passedCredits_4 (i := 2) rfl rfl ?_
      refine g_aload_n (pc := 5) E dX6_passedCredits_5 (i := 0) rfl rfl ?_
      refine g_getr (i := 184) (j := 185) (t := 6) (f := 0) (pc := 6) E dX6_passedCredits_6 fl_X6_9 rfl (by decide) (by decide) rfl rfl ?_
      refine g_iconst (pc := 9) E dX6_passedCredits_9 rfl ?_
      refine g_iald (pc := 10) E dX6_passedCredits_10 rfl (by omega) (by omega) (congrFun e5 _) (fun _ _ => ?_)
      refine g_icmp_ge (pc := 11) (tgt := 37) E dX6_passedCredits_11 (by decide) (fun qh11 => ?_) (fun qh11 => ?_) 
      · refine g_iload_n (pc := 37) E dX6_passedCredits_37 (i := 1) rfl rfl ?_
        refine g_iret (pc := 38) E hr dX6_passedCredits_38 ?_
        exact ⟨by rw [pcrS, ha, show x = S 5 by omega], rfl⟩
      · have hVm := hV.2.1 x (by omega) (by omega)
        have hbR := bi_R (psM S mk x)
        refine g_aload_n (pc := 14) E dX6_passedCredits_14 (i := 0) rfl rfl ?_
        refine g_getr (i := 184) (j := 194) (t := 6) (f := 17) (pc := 15) E dX6_passedCredits_15 fl_X6_37 rfl (by decide) (by decide) rfl rfl ?_
        refine g_iload_n (pc := 18) E dX6_passedCredits_18 (i := 2) rfl rfl ?_
        refine g_zald (pc := 19) E dX6_passedCredits_19 rfl (by omega) (by omega) (h194 x (by omega) (by omega)) (fun _ _ => ?_)
        refine g_if_eq (pc := 20) (tgt := 31) E dX6_passedCredits_20 (by decide) (fun qh20 => ?_) (fun qh20 => ?_) 
        · replace qh20 := bi_0.mp qh20
          refine g_iinc (pc := 31) E dX6_passedCredits_31 (ls' := [_, _, _]) rfl rfl rfl ?_
          refine g_goto (pc := 34) (tgt := 4) E dX6_passedCredits_34 (by decide) ?_
          exact g_wk2 (ih4 (x + 1) a (by omega) (by omega) (by omega) (by rw [sz_s hx0, ha, show pcrF S mk x = 0 from if_neg qh20]; omega)) ⟨rfl, rfl, rfl, trivial⟩
        · replace qh20 := bi_n.mp qh20
          refine g_iload_n (pc := 23) E dX6_passedCredits_23 (i := 1) rfl rfl ?_
          refine g_aload_n (pc := 24) E dX6_passedCredits_24 (i := 0) rfl rfl ?_
          refine g_iload_n (pc := 25) E dX6_passedCredits_25 (i := 2) rfl rfl ?_
          refine g_callV (pc := 26) (As := [_]) E dX6_passedCredits_26 ml_X6_146 (ct_credits e5 (by omega) (by omega)) rfl rfl rfl rfl (by decide) (by decide) rfl (Nat.le_of_ble_eq_true rfl) (by decide) (fun x26 M26 hM26 => ?_)
          obtain ⟨rfl, rfl⟩ := hM26
          refine g_iadd (pc := 29) E dX6_passedCredits_29 ?_
          refine g_istore_n (pc := 30) E dX6_passedCredits_30 (i := 1) (ls' := [_, _, _]) rfl (Nat.le_of_ble_eq_true rfl) rfl ?_
          refine g_iinc (pc := 31) E dX6_passedCredits_31 (ls' := [_, _, _]) rfl rfl rfl ?_
          refine g_goto (pc := 34) (tgt := 4) E dX6_passedCredits_34 (by decide) ?_
          exact g_wk2 (ih4 (x + 1) (a + S (9 + x)) (by omega) (by omega) (by omega) (by rw [sz_s hx0, ha, show pcrF S mk x = S (9 + x) from if_pos qh20])) ⟨rfl, rfl, rfl, trivial⟩
  exact g_wk2 (LP4 (S 5 + 1).toNat 0 0 (by omega) (by omega) (by omega) rfl) ⟨rfl, rfl, rfl, trivial⟩
