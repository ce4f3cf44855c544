/-! the class judges -/
theorem sv202 {x : Int} (h : 0 < x) : sVl 202 x = limS x := by
  unfold limS
  show (if x = 0 then 0 else if x = 1 then 70 else if x = 2 then 60 else if x = 3 then 50 else 0) = _
  rw [if_neg (by omega)]
theorem gr_inc {S mk : Int → Int} (h : incS S mk) : grS S mk = 0 ∧ whS S mk = 1 := ⟨if_pos h, if_pos h⟩
theorem gr_lost {S mk : Int → Int} (h : ¬ incS S mk) (h2 : 0 ≤ lostS S mk) : grS S mk = 5 ∧ whS S mk = 2 := ⟨by rw [grS, if_neg h, if_pos h2], by rw [whS, if_neg h, if_pos h2]⟩
theorem gr_lf {S mk : Int → Int} (h : ¬ incS S mk) (h2 : ¬ 0 ≤ lostS S mk) (h3 : lfS S mk) : grS S mk = clA (avS S mk) - 1 ∧ whS S mk = 3 := ⟨by rw [grS, if_neg h, if_neg h2, if_pos h3], by rw [whS, if_neg h, if_neg h2, if_pos h3]⟩
theorem gr_no {S mk : Int → Int} (h : ¬ incS S mk) (h2 : ¬ 0 ≤ lostS S mk) (h3 : ¬ lfS S mk) : grS S mk = clA (avS S mk) ∧ whS S mk = 4 := ⟨by rw [grS, if_neg h, if_neg h2, if_neg h3], by rw [whS, if_neg h, if_neg h2, if_neg h3]⟩

theorem ct_gradeOfAverage {cx : Cx} {M : Mem} {av : Int} (h9 : M 167 9 = av) (ha0 : 0 ≤ av) (ha1 : av ≤ 10000)  : Ct cx yX4_gradeOfAverage cX4_gradeOfAverage 2 (some .int) 1 0 0 [rf cx 167] M (fun rz M' => clA av = rz ∧ M = M') := by
  refine ct_intro cd_X4_gradeOfAverage (by decide +kernel) (Nat.le_of_ble_eq_true rfl) rfl (fun Pg Lc Ev s m args below meth c E hr => ?_)
  refine g_ent (ls' := [some (rf cx 167), none]) rfl ?_
  refine g_iconst (pc := 0) E dX4_gradeOfAverage_0 rfl ?_
  refine g_istore_n (pc := 1) E dX4_gradeOfAverage_1 (i := 1) (ls' := [_, _]) rfl (Nat.le_of_ble_eq_true rfl) rfl ?_
  have LP2 : ∀ (n : Nat) (x : Int), 4 - x < (n : Int) → 1 ≤ x → x ≤ 4 → (1 < x → av < 7000) → (2 < x → av < 6000) → (3 < x → av < 5000) → G cx Pg Lc Ev (rmD 1 0 0) s m args below meth c (MQ below (QI cx (fun rz M' => clA av = rz ∧ M = M')) args s 0 0 (cA0 cx)) 2 [some (rf cx 167), some (.int (oi x))] [] (M) 0 0 := by
    intro n
    induction n with
    | zero => intro x hn hx0 hx1 h1 h2 h3; exact absurd hn (by omega)
    | succ n ih2 =>
      intro x hn hx0 hx1 h1 h2 h3
      have hlR := limS_R x
      refine g_iload_n (pc := 2) E dX4_gradeOfAverage_2 (i := 1) rfl rfl ?_
      refine g_iconst (pc := 3) E dX4_gradeOfAverage_3 rfl ?_
      refine g_icmp_ge (pc := 4) (tgt := 30) E dX4_gradeOfAverage_4 (by decide) (fun qh4 => ?_) (fun qh4 => ?_) 
      · refine g_iconst (pc := 30) E dX4_gradeOfAverage_30 rfl ?_
        refine g_iret (pc := 31) E hr dX4_gradeOfAverage_31 ?_
        exact ⟨by unfold clA; (repeat' split) <;> omega, rfl⟩
      · refine g_aload_n (pc := 7) E dX4_gradeOfAverage_7 (i := 0) rfl rfl ?_
        refine g_geti (i := 167) (t := 4) (f := 9) (fz := 9) (pc := 8) E dX4_gradeOfAverage_8 fl_X4_42 rfl (by decide) (by decide) rfl rfl h9 (fun _ _ => ?_)
        refine g_bipush (pc := 11) E dX4_gradeOfAverage_11 rfl ?_
        refine g_getsN (pc := 13) E rfl dX4_gradeOfAverage_13 ?_
        refine g_iload_n (pc := 16) E dX4_gradeOfAverage_16 (i := 1) rfl rfl ?_
        refine g_sald (pc := 17) E dX4_gradeOfAverage_17 (by decide) (by decide) (by omega) (by show _ < ((5 : Nat) : Int); omega) (v := limS x) (by exact sv202 (by omega)) ?_
        refine g_imul (pc := 18) E dX4_gradeOfAverage_18 ?_
        refine g_icmp_lt (pc := 19) (tgt := 24) E dX4_gradeOfAverage_19 (by decide) (fun qh19 => ?_) (fun qh19 => ?_) 
        · refine g_iinc (pc := 24) E dX4_gradeOfAverage_24 (ls' := [_, _]) rfl rfl rfl ?_
          refine g_goto (pc := 27) (tgt := 2) E dX4_gradeOfAverage_27 (by decide) ?_
          exact g_wk2 (ih2 (x + 1) (by omega) (by omega) (by omega) (fun h => by unfold limS at qh19; (repeat' split at qh19) <;> omega) (fun h => by unfold limS at qh19; (repeat' split at qh19) <;> omega) (fun h => by unfold limS at qh19; (repeat' split at qh19) <;> omega)) ⟨rfl, rfl, trivial⟩
        · refine g_iload_n (pc := 22) E dX4_gradeOfAverage_22 (i := 1) rfl rfl ?_
          refine g_iret (pc := 23) E hr dX4_gradeOfAverage_23 ?_
          exact ⟨by unfold limS at qh19; unfold clA; (repeat' split at qh19) <;> (repeat' split) <;> omega, rfl⟩
  exact g_wk2 (LP2 4 1 (by omega) (by omega) (by omega) (fun h => absurd h (by omega)) (fun h => absurd h (by omega)) (fun h => absurd h (by omega))) ⟨rfl, rfl, trivial⟩

theorem ct_hasHalfFrom {cx : Cx} {M : Mem} {S : Int → Int} (hB : BD M S) (hV : SOK S) {mk : Int → Int} (hm : mkOK S mk) (hin : ∀ m, 0 ≤ m → m < S 5 → M 170 m = inS S mk m) (hct : ∀ m, 0 ≤ m → m < S 5 → M 171 m = bi (0 < pcnt S m)) (h4 : M 167 4 = allS S) {lm : Int} (hl0 : 0 ≤ lm) (hl1 : lm ≤ 100) : Ct cx yX4_hasHalfFrom cX4_hasHalfFrom 5 (some .boolean) 1 0 0 [rf cx 167, rf cx 0, .int (oi lm)] M (fun rz M' => bi (allS S ≤ 2 * goS S mk lm) = rz ∧ M = M') := by
  refine ct_intro cd_X4_hasHalfFrom (by decide +kernel) (Nat.le_of_ble_eq_true rfl) rfl (fun Pg Lc Ev s m args below meth c E hr => ?_)
  refine g_ent (ls' := [some (rf cx 167), some (rf cx 0), some (.int (oi lm)), none, none]) rfl ?_
  have hV0 := hV.1
  have hB0 := hB.c0
  have hB1 := hB.c1
  have hB2 := hB.c2
  have hB3 := hB.c3
  have haR := allS_R hV (show 0 ≤ S 5 by omega) (Int.le_refl _)
  have eall : allS S = sz (aF S) (S 5) := rfl
  have ego : goS S mk lm = sz (goF S mk lm) (S 5) := rfl
  refine g_iconst (pc := 0) E dX4_hasHalfFrom_0 rfl ?_
  refine g_istore_n (pc := 1) E dX4_hasHalfFrom_1 (i := 3) (ls' := [_, _, _, _, _]) rfl (Nat.le_of_ble_eq_true rfl) rfl ?_
  refine g_iconst (pc := 2) E dX4_hasHalfFrom_2 rfl ?_
  refine g_istore (pc := 3) E dX4_hasHalfFrom_3 (ls' := [_, _, _, _, _]) (Nat.le_of_ble_eq_true rfl) rfl ?_
  have LP5 : ∀ (n : Nat) (x a : Int), S 5 - x < (n : Int) → 0 ≤ x → x ≤ S 5 → a = sz (goF S mk lm) x → G cx Pg Lc Ev (rmD 1 0 0) s m args below meth c (MQ below (QI cx (fun rz M' => bi (allS S ≤ 2 * goS S mk lm) = rz ∧ M = M')) args s 0 0 (cA0 cx)) 5 [some (rf cx 167), some (rf cx 0), some (.int (oi lm)), some (.int (oi a)), some (.int (oi x))] [] (M) 0 0 := by
    intro n
    induction n with
    | zero => intro x a hn hx0 hx1 ha; exact absurd hn (by omega)
    | succ n ih5 =>
      intro x a hn hx0 hx1 ha
      have hgR := goS_R (mk := mk) hV lm hx0 hx1
      refine g_iload (pc := 5) E dX4_hasHalfFrom_5 rfl ?_
      refine g_aload_n (pc := 7) E dX4_hasHalfFrom_7 (i := 1) rfl rfl ?_
      refine g_geti (i := 0) (t := 0) (f := 0) (fz := 0) (pc := 8) E dX4_hasHalfFrom_8 fl_X4_64 rfl (by decide) (by decide) rfl rfl hB.c0 (fun _ _ => ?_)
      refine g_icmp_ge (pc := 11) (tgt := 51) E dX4_hasHalfFrom_11 (by decide) (fun qh11 => ?_) (fun qh11 => ?_) 
      · have hxe : x = S 5 := by omega
        rw [hxe] at ha hgR
        refine g_iconst (pc := 51) E dX4_hasHalfFrom_51 rfl ?_
        refine g_iload_n (pc := 52) E dX4_hasHalfFrom_52 (i := 3) rfl rfl ?_
        refine g_imul (pc := 53) E dX4_hasHalfFrom_53 ?_
        refine g_aload_n (pc := 54) E dX4_hasHalfFrom_54 (i := 0) rfl rfl ?_
        refine g_geti (i := 167) (t := 4) (f := 4) (fz := 4) (pc := 55) E dX4_hasHalfFrom_55 fl_X4_25 rfl (by decide) (by decide) rfl rfl h4 (fun _ _ => ?_)
        refine g_icmp_lt (pc := 58) (tgt := 65) E dX4_hasHalfFrom_58 (by decide) (fun qh58 => ?_) (fun qh58 => ?_) 
        · refine g_iconst (pc := 65) E dX4_hasHalfFrom_65 rfl ?_
          refine g_zret (pc := 66) E hr dX4_hasHalfFrom_66 (by first | exact Or.inl rfl | exact Or.inr rfl | exact bi_in _ | omega) ?_
          exact ⟨bi_f (by omega), rfl⟩
        · refine g_iconst (pc := 61) E dX4_hasHalfFrom_61 rfl ?_
          refine g_goto (pc := 62) (tgt := 66) E dX4_hasHalfFrom_62 (by decide) ?_
          refine g_zret (pc := 66) E hr dX4_hasHalfFrom_66 (by first | exact Or.inl rfl | exact Or.inr rfl | exact bi_in _ | omega) ?_
          exact ⟨bi_t (by omega), rfl⟩
      · refine g_aload_n (pc := 14) E dX4_hasHalfFrom_14 (i := 0) rfl rfl ?_
        refine g_getr (i := 167) (j := 171) (t := 4) (f := 3) (pc := 15) E dX4_hasHalfFrom_15 fl_X4_21 rfl (by decide) (by decide) rfl rfl ?_
        refine g_iload (pc := 18) E dX4_hasHalfFrom_18 rfl ?_
        refine g_zald (pc := 20) E dX4_hasHalfFrom_20 rfl (by omega) (by omega) (hct _ (by omega) (by omega)) (fun _ _ => ?_)
        refine g_if_eq (pc := 21) (tgt := 45) E dX4_hasHalfFrom_21 (by decide) (fun qh21 => ?_) (fun qh21 => ?_) 
        · replace qh21 : ¬ 0 < pcnt S x := bi_0.mp qh21
          refine g_iinc (pc := 45) E dX4_hasHalfFrom_45 (ls' := [_, _, _, _, _]) rfl rfl rfl ?_
          refine g_goto (pc := 48) (tgt := 5) E dX4_hasHalfFrom_48 (by decide) ?_
          exact g_wk2 (ih5 (x + 1) a (by omega) (by omega) (by omega) (by rw [sz_s hx0, ha, show goF S mk lm x = 0 from if_neg (by omega)]; omega)) ⟨rfl, rfl, rfl, rfl, rfl, trivial⟩
        · replace qh21 : 0 < pcnt S x := bi_n.mp qh21
          have hiR := inS_R hV hm x
          have hcm := hV.2.1 x (by omega) (by omega)
          refine g_aload_n (pc := 24) E dX4_hasHalfFrom_24 (i := 0) rfl rfl ?_
          refine g_getr (i := 167) (j := 170) (t := 4) (f := 2) (pc := 25) E dX4_hasHalfFrom_25 fl_X4_18 rfl (by decide) (by decide) rfl rfl ?_
          refine g_iload (pc := 28) E dX4_hasHalfFrom_28 rfl ?_
          refine g_iald (pc := 30) E dX4_hasHalfFrom_30 rfl (by omega) (by omega) (hin _ (by omega) (by omega)) (fun _ _ => ?_)
          refine g_iload_n (pc := 31) E dX4_hasHalfFrom_31 (i := 2) rfl rfl ?_
          refine g_icmp_lt (pc := 32) (tgt := 45) E dX4_hasHalfFrom_32 (by decide) (fun qh32 => ?_) (fun qh32 => ?_) 
          · refine g_iinc (pc := 45) E dX4_hasHalfFrom_45 (ls' := [_, _, _, _, _]) rfl rfl rfl ?_
            refine g_goto (pc := 48) (tgt := 5) E dX4_hasHalfFrom_48 (by decide) ?_
            exact g_wk2 (ih5 (x + 1) a (by omega) (by omega) (by omega) (by rw [sz_s hx0, ha, show goF S mk lm x = 0 from if_neg (by omega)]; omega)) ⟨rfl, rfl, rfl, rfl, rfl, trivial⟩
          · refine g_iload_n (pc := 35) E dX4_hasHalfFrom_35 (i := 3) rfl rfl ?_
            refine g_aload_n (pc := 36) E dX4_hasHalfFrom_36 (i := 1) rfl rfl ?_
            refine g_getr (i := 0) (j := 2) (t := 0) (f := 5) (pc := 37) E dX4_hasHalfFrom_37 fl_X4_97 rfl (by decide) (by decide) rfl rfl ?_
            refine g_iload (pc := 40) E dX4_hasHalfFrom_40 rfl ?_
            refine g_iald (q := 4) (pc := 42) E dX4_hasHalfFrom_42 rfl (by omega) (by omega) (hB.f2 _ (by omega) (by omega)) (fun _ _ => ?_)
            refine g_iadd (pc := 43) E dX4_hasHalfFrom_43 ?_
            refine g_istore_n (pc := 44) E dX4_hasHalfFrom_44 (i := 3) (ls' := [_, _, _, _, _]) rfl (Nat.le_of_ble_eq_true rfl) rfl ?_
            refine g_iinc (pc := 45) E dX4_hasHalfFrom_45 (ls' := [_, _, _, _, _]) rfl rfl rfl ?_
            refine g_goto (pc := 48) (tgt := 5) E dX4_hasHalfFrom_48 (by decide) ?_
            exact g_wk2 (ih5 (x + 1) (a + S (9 + x)) (by omega) (by omega) (by omega) (by rw [sz_s hx0, ha, show goF S mk lm x = S (9 + x) from if_pos (by omega)])) ⟨rfl, rfl, rfl, rfl, rfl, trivial⟩
  exact g_wk2 (LP5 (S 5 + 1).toNat 0 0 (by omega) (by omega) (by omega) rfl) ⟨rfl, rfl, rfl, rfl, rfl, trivial⟩

theorem ct_isAtBorder {cx : Cx} {M : Mem} {S : Int → Int} (hB : BD M S) (hV : SOK S) {mk : Int → Int} (hm : mkOK S mk) (hin : ∀ m, 0 ≤ m → m < S 5 → M 170 m = inS S mk m) (hct : ∀ m, 0 ≤ m → m < S 5 → M 171 m = bi (0 < pcnt S m)) (h4 : M 167 4 = allS S) {av : Int} (h9 : M 167 9 = av) (ha0 : 0 ≤ av) (ha1 : av ≤ 10000) {lm : Int} (hl0 : 0 ≤ lm) (hl1 : lm ≤ 100) : Ct cx yX4_isAtBorder cX4_isAtBorder 3 (some .boolean) 2 0 0 [rf cx 167, rf cx 0, .int (oi lm)] M (fun rz M' => bi (100 * lm - av ≤ 100 * S 3 ∧ allS S ≤ 2 * goS S mk lm) = rz ∧ M = M') := by
  refine ct_intro cd_X4_isAtBorder (by decide +kernel) (Nat.le_of_ble_eq_true rfl) rfl (fun Pg Lc Ev s m args below meth c E hr => ?_)
  refine g_ent (ls' := [some (rf cx 167), some (rf cx 0), some (.int (oi lm))]) rfl ?_
  have hV0 := hV.1
  have hB0 := hB.c0
  have hB1 := hB.c1
  have hB2 := hB.c2
  have hB3 := hB.c3
  refine g_bipush (pc := 0) E dX4_isAtBorder_0 rfl ?_
  refine g_iload_n (pc := 2) E dX4_isAtBorder_2 (i := 2) rfl rfl ?_
  refine g_imul (pc := 3) E dX4_isAtBorder_3 ?_
  refine g_aload_n (pc := 4) E dX4_isAtBorder_4 (i := 0) rfl rfl ?_
  refine g_geti (i := 167) (t := 4) (f := 9) (fz := 9) (pc := 5) E dX4_isAtBorder_5 fl_X4_42 rfl (by decide) (by decide) rfl rfl h9 (fun _ _ => ?_)
  refine g_isub (pc := 8) E dX4_isAtBorder_8 ?_
  refine g_bipush (pc := 9) E dX4_isAtBorder_9 rfl ?_
  refine g_aload_n (pc := 11) E dX4_isAtBorder_11 (i := 1) rfl rfl ?_
  refine g_getr (i := 0) (j := 1) (t := 0) (f := 4) (pc := 12) E dX4_isAtBorder_12 fl_X4_90 rfl (by decide) (by decide) rfl rfl ?_
  refine g_iconst (pc := 15) E dX4_isAtBorder_15 rfl ?_
  refine g_iald (q := 5) (pc := 16) E dX4_isAtBorder_16 rfl (by omega) (by omega) (hB.f1 _ (by omega) (by omega)) (fun _ _ => ?_)
  refine g_imul (pc := 17) E dX4_isAtBorder_17 ?_
  refine g_icmp_gt (pc := 18) (tgt := 34) E dX4_isAtBorder_18 (by decide) (fun qh18 => ?_) (fun qh18 => ?_) 
  · refine g_iconst (pc := 34) E dX4_isAtBorder_34 rfl ?_
    refine g_zret (pc := 35) E hr dX4_isAtBorder_35 (by first | exact Or.inl rfl | exact Or.inr rfl | exact bi_in _ | omega) ?_
    exact ⟨bi_f (by omega), rfl⟩
  · refine g_aload_n (pc := 21) E dX4_isAtBorder_21 (i := 0) rfl rfl ?_
    refine g_aload_n (pc := 22) E dX4_isAtBorder_22 (i := 1) rfl rfl ?_
    refine g_iload_n (pc := 23) E dX4_isAtBorder_23 (i := 2) rfl rfl ?_
    refine g_callV (pc := 24) (As := [_, _]) E dX4_isAtBorder_24 ml_X4_116 (ct_hasHalfFrom hB hV hm hin hct h4 (by omega) (by omega)) rfl rfl rfl rfl (by decide) (by decide) rfl (Nat.le_of_ble_eq_true rfl) (by decide) (fun x24 M24 hM24 => ?_)
    obtain ⟨rfl, rfl⟩ := hM24
    refine g_if_eq (pc := 27) (tgt := 34) E dX4_isAtBorder_27 (by decide) (fun qh27 => ?_) (fun qh27 => ?_) (Int.le_trans (by decide) (bi_R _).1) (Int.le_trans (bi_R _).2 (by decide))
    · replace qh27 := bi_0.mp qh27
      refine g_iconst (pc := 34) E dX4_isAtBorder_34 rfl ?_
      refine g_zret (pc := 35) E hr dX4_isAtBorder_35 (by first | exact Or.inl rfl | exact Or.inr rfl | exact bi_in _ | omega) ?_
      exact ⟨bi_f (by omega), rfl⟩
    · replace qh27 := bi_n.mp qh27
      refine g_iconst (pc := 30) E dX4_isAtBorder_30 rfl ?_
      refine g_goto (pc := 31) (tgt := 35) E dX4_isAtBorder_31 (by decide) ?_
      refine g_zret (pc := 35) E hr dX4_isAtBorder_35 (by first | exact Or.inl rfl | exact Or.inr rfl | exact bi_in _ | omega) ?_
      exact ⟨bi_t (by omega), rfl⟩

set_option maxHeartbeats 1000000 in
theorem cv_classify {cx : Cx} {M : Mem} {S : Int → Int} (hB : BD M S) (hV : SOK S) {mk : Int → Int} (hm : mkOK S mk) (hin : ∀ m, 0 ≤ m → m < S 5 → M 170 m = inS S mk m) (hct : ∀ m, 0 ≤ m → m < S 5 → M 171 m = bi (0 < pcnt S m)) (h4 : M 167 4 = allS S) (h5 : M 167 5 = pwS S mk) (h7 : M 167 7 = bi (¬ incS S mk)) (h8 : M 167 8 = bi (sz (apF S mk) (S 5) = 0))  : Cv cx yX4_classify cX4_classify 2 3 0 0 [rf cx 167, rf cx 0] M (fun M' => (∀ i, i ≠ 167 → M' i = M i) ∧ (∀ f : Int, f < 9 → M' 167 f = M 167 f) ∧ M' 167 9 = (if incS S mk then 0 else avS S mk) ∧ M' 167 10 = grS S mk ∧ M' 167 11 = bi (whS S mk = 3)) := by
  refine cv_intro cd_X4_classify (by decide +kernel) (Nat.le_of_ble_eq_true rfl) rfl (fun Pg Lc Ev s m args below meth c E hr => ?_)
  refine g_ent (ls' := [some (rf cx 167), some (rf cx 0)]) rfl ?_
  have hV0 := hV.1
  have hB0 := hB.c0
  have hB1 := hB.c1
  have hB2 := hB.c2
  have hB3 := hB.c3
  have haR := allS_R hV (show 0 ≤ S 5 by omega) (Int.le_refl _)
  have eall : allS S = sz (aF S) (S 5) := rfl
  have epw : pwS S mk = sz (pwF S mk) (S 5) := rfl
  have hpR := pwS_R hV hm (show 0 ≤ S 5 by omega) (Int.le_refl _)
  have havR := avS_R hV hm
  have hii := inc_iff (mk := mk) hV
  have hbR := bi_R (¬ incS S mk)
  have hbR2 := bi_R (sz (apF S mk) (S 5) = 0)
  have hcl := clA_R (avS S mk)
  have hlR := limS_R (clA (avS S mk) - 1)
  refine g_aload_n (pc := 0) E dX4_classify_0 (i := 0) rfl rfl ?_
  refine g_iconst (pc := 1) E dX4_classify_1 rfl ?_
  refine g_putz (i := 167) (t := 4) (f := 11) (fz := 11) (pc := 2) E dX4_classify_2 fl_X4_48 rfl (by decide) (by decide) rfl rfl (Or.inl rfl) ?_
  refine g_aload_n (pc := 5) E dX4_classify_5 (i := 0) rfl rfl ?_
  refine g_aload_n (pc := 6) E dX4_classify_6 (i := 0) rfl rfl ?_
  refine g_geti (i := 167) (t := 4) (f := 7) (fz := 7) (pc := 7) E dX4_classify_7 fl_X4_35 rfl (by decide) (by decide) rfl rfl (v := bi (¬ incS S mk)) (by rw [st_off (by decide)]; exact h7) (fun _ _ => ?_)
  refine g_if_eq (pc := 10) (tgt := 35) E dX4_classify_10 (by decide) (fun qh10 => ?_) (fun qh10 => ?_) 
  · have hi0 : incS S mk := by have := bi_0.mp qh10; exact Classical.not_not.mp this
    refine g_iconst (pc := 35) E dX4_classify_35 rfl ?_
    refine g_puti (i := 167) (t := 4) (f := 9) (fz := 9) (pc := 36) E dX4_classify_36 fl_X4_42 rfl (by decide) (by decide) rfl rfl ?_ 
    refine g_aload_n (pc := 39) E dX4_classify_39 (i := 0) rfl rfl ?_
    refine g_geti (i := 167) (t := 4) (f := 7) (fz := 7) (pc := 40) E dX4_classify_40 fl_X4_35 rfl (by decide) (by decide) rfl rfl (v := bi (¬ incS S mk)) (by rw [st_off (by decide), st_off (by decide)]; exact h7) (fun _ _ => ?_)
    refine g_if_ne (pc := 43) (tgt := 52) E dX4_classify_43 (by decide) (fun qh43 => absurd qh43 (by omega)) (fun qh43 => ?_) 
    refine g_aload_n (pc := 46) E dX4_classify_46 (i := 0) rfl rfl ?_
    refine g_iconst (pc := 47) E dX4_classify_47 rfl ?_
    refine g_puti (i := 167) (t := 4) (f := 10) (fz := 10) (pc := 48) E dX4_classify_48 fl_X4_45 rfl (by decide) (by decide) rfl rfl ?_ 
    refine g_vret (pc := 51) E hr dX4_classify_51 ?_
    refine ⟨fun i hi => by rw [st_ne hi, st_ne hi, st_ne hi], fun f hf => by rw [st_off (by omega), st_off (by omega), st_off (by omega)], ?_, ?_, ?_⟩
    · rw [st_off (by decide), st_self, if_pos hi0]
    · rw [st_self]; exact (gr_inc hi0).1.symm
    · rw [st_off (by decide), st_off (by decide), st_self]; exact (bi_f (by rw [(gr_inc hi0).2]; decide)).symm
  · have hi0 : ¬ incS S mk := bi_n.mp qh10
    have hi1 := hii.mp hi0
    have eav : 100 * pwS S mk / allS S = avS S mk := by rw [avS, if_neg hi0, pw_pt hV hi0]
    have hav0 := havR.2.2 hi0
    have hal := ap_lost hV hi0
    refine g_aload_n (pc := 13) E dX4_classify_13 (i := 0) rfl rfl ?_
    refine g_geti (i := 167) (t := 4) (f := 4) (fz := 4) (pc := 14) E dX4_classify_14 fl_X4_25 rfl (by decide) (by decide) rfl rfl (v := allS S) (by rw [st_off (by decide)]; exact h4) (fun _ _ => ?_)
    refine g_if_le (pc := 17) (tgt := 35) E dX4_classify_17 (by decide) (fun qh17 => absurd qh17 (by omega)) (fun qh17 => ?_) 
    refine g_bipush (pc := 20) E dX4_classify_20 rfl ?_
    refine g_aload_n (pc := 22) E dX4_classify_22 (i := 0) rfl rfl ?_
    refine g_geti (i := 167) (t := 4) (f := 5) (fz := 5) (pc := 23) E dX4_classify_23 fl_X4_29 rfl (by decide) (by decide) rfl rfl (v := pwS S mk) (by rw [st_off (by decide)]; exact h5) (fun _ _ => ?_)
    refine g_imul (pc := 26) E dX4_classify_26 ?_
    refine g_aload_n (pc := 27) E dX4_classify_27 (i := 0) rfl rfl ?_
    refine g_geti (i := 167) (t := 4) (f := 4) (fz := 4) (pc := 28) E dX4_classify_28 fl_X4_25 rfl (by decide) (by decide) rfl rfl (v := allS S) (by rw [st_off (by decide)]; exact h4) (fun _ _ => ?_)
    refine g_idiv (pc := 31) E dX4_classify_31 (by omega) (by omega) (by omega) (by omega) ?_
    refine g_top eav ?_
    refine g_goto (pc := 32) (tgt := 36) E dX4_classify_32 (by decide) ?_
    refine g_puti (i := 167) (t := 4) (f := 9) (fz := 9) (pc := 36) E dX4_classify_36 fl_X4_42 rfl (by decide) (by decide) rfl rfl ?_ 
    refine g_aload_n (pc := 39) E dX4_classify_39 (i := 0) rfl rfl ?_
    refine g_geti (i := 167) (t := 4) (f := 7) (fz := 7) (pc := 40) E dX4_classify_40 fl_X4_35 rfl (by decide) (by decide) rfl rfl (v := bi (¬ incS S mk)) (by rw [st_off (by decide), st_off (by decide)]; exact h7) (fun _ _ => ?_)
    refine g_if_ne (pc := 43) (tgt := 52) E dX4_classify_43 (by decide) (fun qh43 => ?_) (fun qh43 => absurd qh43 (by omega)) 
    refine g_aload_n (pc := 52) E dX4_classify_52 (i := 0) rfl rfl ?_
    refine g_geti (i := 167) (t := 4) (f := 8) (fz := 8) (pc := 53) E dX4_classify_53 fl_X4_39 rfl (by decide) (by decide) rfl rfl (v := bi (sz (apF S mk) (S 5) = 0)) (by rw [st_off (by decide), st_off (by decide)]; exact h8) (fun _ _ => ?_)
    refine g_if_ne (pc := 56) (tgt := 65) E dX4_classify_56 (by decide) (fun qh56 => ?_) (fun qh56 => ?_) 
    · have hl0 : ¬ 0 ≤ lostS S mk := by have := hal.mp (bi_n.mp qh56); omega
      refine g_aload_n (pc := 65) E dX4_classify_65 (i := 0) rfl rfl ?_
      refine g_aload_n (pc := 66) E dX4_classify_66 (i := 0) rfl rfl ?_
      refine g_callV (pc := 67) (As := []) E dX4_classify_67 ml_X4_106 (ct_gradeOfAverage (av := avS S mk) (by rw [st_self]) (by omega) (by omega)) rfl rfl rfl rfl (by decide) (by decide) rfl (Nat.le_of_ble_eq_true rfl) (by decide) (fun x67 M67 hM67 => ?_)
      obtain ⟨rfl, rfl⟩ := hM67
      refine g_puti (i := 167) (t := 4) (f := 10) (fz := 10) (pc := 70) E dX4_classify_70 fl_X4_45 rfl (by decide) (by decide) rfl rfl ?_ 
      refine g_aload_n (pc := 73) E dX4_classify_73 (i := 0) rfl rfl ?_
      refine g_geti (i := 167) (t := 4) (f := 10) (fz := 10) (pc := 74) E dX4_classify_74 fl_X4_45 rfl (by decide) (by decide) rfl rfl (v := clA (avS S mk)) (by rw [st_self]) (fun _ _ => ?_)
      refine g_iconst (pc := 77) E dX4_classify_77 rfl ?_
      refine g_icmp_le (pc := 78) (tgt := 114) E dX4_classify_78 (by decide) (fun qh78 => ?_) (fun qh78 => ?_) 
      · refine g_vret (pc := 114) E hr dX4_classify_114 ?_
        have hlf : ¬ lfS S mk := fun z => by have := z.1; omega
        refine ⟨fun i hi => by rw [st_ne hi, st_ne hi, st_ne hi], fun f hf => by rw [st_off (by omega), st_off (by omega), st_off (by omega)], ?_, ?_, ?_⟩
        · rw [st_off (by decide), st_self, if_neg hi0]
        · rw [st_self]; exact (gr_no hi0 hl0 hlf).1.symm
        · rw [st_off (by decide), st_off (by decide), st_self]; exact (bi_f (by rw [(gr_no hi0 hl0 hlf).2]; decide)).symm
      · refine g_aload_n (pc := 81) E dX4_classify_81 (i := 0) rfl rfl ?_
        refine g_aload_n (pc := 82) E dX4_classify_82 (i := 1) rfl rfl ?_
        refine g_getsN (pc := 83) E rfl dX4_classify_83 ?_
        refine g_aload_n (pc := 86) E dX4_classify_86 (i := 0) rfl rfl ?_
        refine g_geti (i := 167) (t := 4) (f := 10) (fz := 10) (pc := 87) E dX4_classify_87 fl_X4_45 rfl (by decide) (by decide) rfl rfl (v := clA (avS S mk)) (by rw [st_self]) (fun _ _ => ?_)
        refine g_iconst (pc := 90) E dX4_classify_90 rfl ?_
        refine g_isub (pc := 91) E dX4_classify_91 ?_
        refine g_sald (pc := 92) E dX4_classify_92 (by decide) (by decide) (by omega) (by show _ < ((5 : Nat) : Int); omega) (v := limS (clA (avS S mk) - 1)) (by exact sv202 (by omega)) ?_
        refine g_callV (pc := 93) (As := [_, _]) E dX4_classify_93 ml_X4_113 (ct_isAtBorder (mk := mk) (av := avS S mk) (hB.congr (fun i hi => by rw [st_ne (by omega), st_ne (by omega), st_ne (by omega)])) hV hm (fun m a b => by rw [st_ne (by decide), st_ne (by decide), st_ne (by decide)]; exact hin m a b) (fun m a b => by rw [st_ne (by decide), st_ne (by decide), st_ne (by decide)]; exact hct m a b) (by rw [st_off (by decide), st_off (by decide), st_off (by decide)]; exact h4) (by rw [st_off (by decide), st_self]) (by omega) (by omega) (by omega) (by omega)) rfl rfl rfl rfl (by decide) (by decide) rfl (Nat.le_of_ble_eq_true rfl) (by decide) (fun x93 M93 hM93 => ?_)
        obtain ⟨rfl, rfl⟩ := hM93
        refine g_if_eq (pc := 96) (tgt := 114) E dX4_classify_96 (by decide) (fun qh96 => ?_) (fun qh96 => ?_) (Int.le_trans (by decide) (bi_R _).1) (Int.le_trans (bi_R _).2 (by decide))
        · replace qh96 := bi_0.mp qh96
          have hlf : ¬ lfS S mk := fun z => qh96 z.2
          refine g_vret (pc := 114) E hr dX4_classify_114 ?_
          refine ⟨fun i hi => by rw [st_ne hi, st_ne hi, st_ne hi], fun f hf => by rw [st_off (by omega), st_off (by omega), st_off (by omega)], ?_, ?_, ?_⟩
          · rw [st_off (by decide), st_self, if_neg hi0]
          · rw [st_self]; exact (gr_no hi0 hl0 hlf).1.symm
          · rw [st_off (by decide), st_off (by decide), st_self]; exact (bi_f (by rw [(gr_no hi0 hl0 hlf).2]; decide)).symm
        · replace qh96 := bi_n.mp qh96
          have hlf : lfS S mk := ⟨by omega, qh96⟩
          refine g_aload_n (pc := 99) E dX4_classify_99 (i := 0) rfl rfl ?_
          refine g_dup (pc := 100) E dX4_classify_100 rfl ?_
          refine g_geti (i := 167) (t := 4) (f := 10) (fz := 10) (pc := 101) E dX4_classify_101 fl_X4_45 rfl (by decide) (by decide) rfl rfl (v := clA (avS S mk)) (by rw [st_self]) (fun _ _ => ?_)
          refine g_iconst (pc := 104) E dX4_classify_104 rfl ?_
          refine g_isub (pc := 105) E dX4_classify_105 ?_
          refine g_puti (i := 167) (t := 4) (f := 10) (fz := 10) (pc := 106) E dX4_classify_106 fl_X4_45 rfl (by decide) (by decide) rfl rfl ?_ 
          refine g_aload_n (pc := 109) E dX4_classify_109 (i := 0) rfl rfl ?_
          refine g_iconst (pc := 110) E dX4_classify_110 rfl ?_
          refine g_putz (i := 167) (t := 4) (f := 11) (fz := 11) (pc := 111) E dX4_classify_111 fl_X4_48 rfl (by decide) (by decide) rfl rfl (Or.inr rfl) ?_
          refine g_vret (pc := 114) E hr dX4_classify_114 ?_
          refine ⟨fun i hi => by rw [st_ne hi, st_ne hi, st_ne hi, st_ne hi, st_ne hi], fun f hf => by rw [st_off (by omega), st_off (by omega), st_off (by omega), st_off (by omega), st_off (by omega)], ?_, ?_, ?_⟩
          · rw [st_off (by decide), st_off (by decide), st_off (by decide), st_self, if_neg hi0]
          · rw [st_off (by decide), st_self]; exact (gr_lf hi0 hl0 hlf).1.symm
          · rw [st_self]; exact (bi_t (gr_lf hi0 hl0 hlf).2).symm
    · have hl0 : 0 ≤ lostS S mk := by have := mt hal.mpr (bi_0.mp qh56); omega
      refine g_aload_n (pc := 59) E dX4_classify_59 (i := 0) rfl rfl ?_
      refine g_iconst (pc := 60) E dX4_classify_60 rfl ?_
      refine g_puti (i := 167) (t := 4) (f := 10) (fz := 10) (pc := 61) E dX4_classify_61 fl_X4_45 rfl (by decide) (by decide) rfl rfl ?_ 
      refine g_vret (pc := 64) E hr dX4_classify_64 ?_
      refine ⟨fun i hi => by rw [st_ne hi, st_ne hi, st_ne hi], fun f hf => by rw [st_off (by omega), st_off (by omega), st_off (by omega)], ?_, ?_, ?_⟩
      · rw [st_off (by decide), st_self, if_neg hi0]
      · rw [st_self]; exact (gr_lost hi0 hl0).1.symm
      · rw [st_off (by decide), st_off (by decide), st_self]; exact (bi_f (by rw [(gr_lost hi0 hl0).2]; decide)).symm

/-- what the standing tells of the marks mk -/
def SR (S mk : Int → Int) (N : Mem) : Prop := (∀ p, 0 ≤ p → p < S 6 → N 169 p = stA S mk p) ∧ (∀ m, 0 ≤ m → m < S 5 → N 170 m = inS S mk m) ∧ (∀ m, 0 ≤ m → m < S 5 → N 171 m = bi (0 < pcnt S m)) ∧ N 167 4 = allS S ∧ N 167 5 = pwS S mk ∧ N 167 6 = pcrS S mk ∧ N 167 7 = bi (¬ incS S mk) ∧ N 167 8 = bi (sz (apF S mk) (S 5) = 0) ∧ N 167 9 = (if incS S mk then 0 else avS S mk) ∧ N 167 10 = grS S mk ∧ N 167 11 = bi (whS S mk = 3)
def SD (S mk : Int → Int) (M N : Mem) : Prop := (∀ i, i < 167 ∨ 171 < i → N i = M i) ∧ (∀ p, 0 ≤ p → p < S 6 → N 168 p = mk p) ∧ SR S mk N
theorem SD.b {S mk T : Int → Int} {M N : Mem} (h : SD S mk M N) (hB : BD M T) : BD N T := hB.congr (fun i hi => h.1 i (by omega))
theorem SD.tr {S mk mk2 : Int → Int} {M N O : Mem} (h : SD S mk M N) (g : SD S mk2 N O) : SD S mk2 M O := ⟨fun i hi => (g.1 i hi).trans (h.1 i hi), g.2⟩

theorem cv_judge {cx : Cx} {M : Mem} {S : Int → Int} (hB : BD M S) (hV : SOK S) {mk : Int → Int} (hm : mkOK S mk) (hmk : ∀ p, 0 ≤ p → p < S 6 → M 168 p = mk p)  : Cv cx yX4_judge cX4_judge 3 4 0 0 [rf cx 167, rf cx 0] M (fun M' => SD S mk M M') := by
  refine cv_intro cd_X4_judge (by decide +kernel) (Nat.le_of_ble_eq_true rfl) rfl (fun Pg Lc Ev s m args below meth c E hr => ?_)
  refine g_ent (ls' := [some (rf cx 167), some (rf cx 0), none]) rfl ?_
  have hV0 := hV.1
  have hB0 := hB.c0
  have hB1 := hB.c1
  have hB2 := hB.c2
  have hB3 := hB.c3
  refine g_iconst (pc := 0) E dX4_judge_0 rfl ?_
  refine g_istore_n (pc := 1) E dX4_judge_1 (i := 2) (ls' := [_, _, _]) rfl (Nat.le_of_ble_eq_true rfl) rfl ?_
  have LP2 : ∀ (n : Nat) (N : Mem) (x : Int), S 5 - x < (n : Int) → 0 ≤ x → x ≤ S 5 → (∀ i, i ≠ 170 → i ≠ 171 → N i = M i) → (∀ j, 0 ≤ j → j < x → N 170 j = inS S mk j) → (∀ j, 0 ≤ j → j < x → N 171 j = bi (0 < pcnt S j)) → G cx Pg Lc Ev (rmD 4 0 0) s m args below meth c (MQ below (QV cx (fun M' => SD S mk M M')) args s 0 0 (cA0 cx)) 2 [some (rf cx 167), some (rf cx 0), some (.int (oi x))] [] (N) 0 0 := by
    intro n
    induction n with
    | zero => intro N x hn hx0 hx1 hN hin hct; exact absurd hn (by omega)
    | succ n ih2 =>
      intro N x hn hx0 hx1 hN hin hct
      have hB : BD N S := hB.congr (fun i hi => hN i (by omega) (by omega))
      have hmk : ∀ p, 0 ≤ p → p < S 6 → N 168 p = mk p := fun p a b => by rw [hN 168 (by decide) (by decide)]; exact hmk p a b
      refine g_iload_n (pc := 2) E dX4_judge_2 (i := 2) rfl rfl ?_
      refine g_aload_n (pc := 3) E dX4_judge_3 (i := 1) rfl rfl ?_
      refine g_geti (i := 0) (t := 0) (f := 0) (fz := 0) (pc := 4) E dX4_judge_4 fl_X4_64 rfl (by decide) (by decide) rfl rfl hB.c0 (fun _ _ => ?_)
      refine g_icmp_ge (pc := 7) (tgt := 22) E dX4_judge_7 (by decide) (fun qh7 => ?_) (fun qh7 => ?_) 
      · rw [show x = S 5 by omega] at hin hct
        refine g_aload_n (pc := 22) E dX4_judge_22 (i := 0) rfl rfl ?_
        refine g_aload_n (pc := 23) E dX4_judge_23 (i := 1) rfl rfl ?_
        refine g_callVv (pc := 24) (As := [_]) E dX4_judge_24 ml_X4_71 (cv_decidePapers hB hV hm hmk hin) rfl rfl rfl rfl (by decide) (by decide) rfl (Nat.le_of_ble_eq_true rfl) (by decide) (fun M24 hM24 => ?_)
        refine g_aload_n (pc := 27) E dX4_judge_27 (i := 0) rfl rfl ?_
        refine g_aload_n (pc := 28) E dX4_judge_28 (i := 1) rfl rfl ?_
        refine g_callVv (pc := 29) (As := [_]) E dX4_judge_29 ml_X4_74 (cv_sumUp (mk := mk) (hB.congr (fun i hi => hM24.1 i (by omega))) hV hm (fun m a b => by rw [hM24.1 170 (by decide)]; exact hin m a b) (fun m a b => by rw [hM24.1 171 (by decide)]; exact hct m a b) hM24.2) rfl rfl rfl rfl (by decide) (by decide) rfl (Nat.le_of_ble_eq_true rfl) (by decide) (fun M29 hM29 => ?_)
        refine g_aload_n (pc := 32) E dX4_judge_32 (i := 0) rfl rfl ?_
        refine g_aload_n (pc := 33) E dX4_judge_33 (i := 1) rfl rfl ?_
        refine g_callVv (pc := 34) (As := [_]) E dX4_judge_34 ml_X4_77 (cv_classify (mk := mk) (hB.congr (fun i hi => by rw [hM29.1.1 i (by omega)]; exact hM24.1 i (by omega))) hV hm (fun m a b => by rw [hM29.1.1 170 (by decide), hM24.1 170 (by decide)]; exact hin m a b) (fun m a b => by rw [hM29.1.1 171 (by decide), hM24.1 171 (by decide)]; exact hct m a b) hM29.2.1 hM29.2.2.1 hM29.2.2.2.2.1 hM29.2.2.2.2.2) rfl rfl rfl rfl (by decide) (by decide) rfl (Nat.le_of_ble_eq_true rfl) (by decide) (fun M34 hM34 => ?_)
        refine g_vret (pc := 37) E hr dX4_judge_37 ?_
        have ee : ∀ i, i ≠ 167 → i ≠ 169 → M34 i = N i := fun i a b => by rw [hM34.1 i a, hM29.1.1 i a, hM24.1 i b]
        refine ⟨fun i hi => by rw [ee i (by omega) (by omega)]; exact hN i (by omega) (by omega), fun p a b => by rw [ee 168 (by decide) (by decide)]; exact hmk p a b, fun p a b => by rw [hM34.1 169 (by decide), hM29.1.1 169 (by decide)]; exact hM24.2 p a b, fun m a b => by rw [ee 170 (by decide) (by decide)]; exact hin m a b, fun m a b => by rw [ee 171 (by decide) (by decide)]; exact hct m a b, ?_, ?_, ?_, ?_, ?_, hM34.2.2⟩
        · rw [hM34.2.1 4 (by decide)]; exact hM29.2.1
        · rw [hM34.2.1 5 (by decide)]; exact hM29.2.2.1
        · rw [hM34.2.1 6 (by decide)]; exact hM29.2.2.2.1
        · rw [hM34.2.1 7 (by decide)]; exact hM29.2.2.2.2.1
        · rw [hM34.2.1 8 (by decide)]; exact hM29.2.2.2.2.2
      · refine g_aload_n (pc := 10) E dX4_judge_10 (i := 0) rfl rfl ?_
        refine g_aload_n (pc := 11) E dX4_judge_11 (i := 1) rfl rfl ?_
        refine g_iload_n (pc := 12) E dX4_judge_12 (i := 2) rfl rfl ?_
        refine g_callVv (pc := 13) (As := [_, _]) E dX4_judge_13 ml_X4_67 (cv_weigh hB hV hm hmk (by omega) (by omega)) rfl rfl rfl rfl (by decide) (by decide) rfl (Nat.le_of_ble_eq_true rfl) (by decide) (fun M13 hM13 => ?_)
        obtain rfl := hM13
        refine g_iinc (pc := 16) E dX4_judge_16 (ls' := [_, _, _]) rfl rfl rfl ?_
        refine g_goto (pc := 19) (tgt := 2) E dX4_judge_19 (by decide) ?_
        exact g_wk2 (ih2 _ (x + 1) (by omega) (by omega) (by omega) (fun i a b => by rw [st_ne a, st_ne b]; exact hN i a b) (row_ext (fun j a b => by rw [st_ne (by decide)]; exact hin j a b) rfl) (fun j a b => by
          rw [st_ne (by decide)]
          by_cases q : j = x
          · rw [q, st_self]
          · rw [st_off q]; exact hct j a (by omega))) ⟨rfl, rfl, rfl, trivial⟩
  exact g_wk2 (LP2 (S 5 + 1).toNat M 0 (by omega) (by omega) (by omega) (fun i _ _ => rfl) (fun j a b => absurd b (by omega)) (fun j a b => absurd b (by omega))) ⟨rfl, rfl, rfl, trivial⟩

theorem cv_assess {cx : Cx} {M : Mem} {S : Int → Int} (hB : BD M S) (hV : SOK S) {sn : Int} (hs0 : 0 ≤ sn) (hs1 : sn < S 7) : Cv cx yX4_assess cX4_assess 4 5 0 0 [rf cx 167, rf cx 0, .int (oi sn)] M (fun M' => SD S (lkM S sn (-1) 0) M M') := by
  refine cv_intro cd_X4_assess (by decide +kernel) (Nat.le_of_ble_eq_true rfl) rfl (fun Pg Lc Ev s m args below meth c E hr => ?_)
  refine g_ent (ls' := [some (rf cx 167), some (rf cx 0), some (.int (oi sn)), none]) rfl ?_
  have hV0 := hV.1
  have hB0 := hB.c0
  have hB1 := hB.c1
  have hB2 := hB.c2
  have hB3 := hB.c3
  refine g_iconst (pc := 0) E dX4_assess_0 rfl ?_
  refine g_istore_n (pc := 1) E dX4_assess_1 (i := 3) (ls' := [_, _, _, _]) rfl (Nat.le_of_ble_eq_true rfl) rfl ?_
  have LP2 : ∀ (n : Nat) (N : Mem) (x : Int), S 6 - x < (n : Int) → 0 ≤ x → x ≤ S 6 → (∀ i, i ≠ 168 → N i = M i) → (∀ j, 0 ≤ j → j < x → N 168 j = lkM S sn (-1) 0 j) → G cx Pg Lc Ev (rmD 5 0 0) s m args below meth c (MQ below (QV cx (fun M' => SD S (lkM S sn (-1) 0) M M')) args s 0 0 (cA0 cx)) 2 [some (rf cx 167), some (rf cx 0), some (.int (oi sn)), some (.int (oi x))] [] (N) 0 0 := by
    intro n
    induction n with
    | zero => intro N x hn hx0 hx1 hN hrw; exact absurd hn (by omega)
    | succ n ih2 =>
      intro N x hn hx0 hx1 hN hrw
      have hB : BD N S := hB.congr (fun i hi => hN i (by omega))
      refine g_iload_n (pc := 2) E dX4_assess_2 (i := 3) rfl rfl ?_
      refine g_aload_n (pc := 3) E dX4_assess_3 (i := 1) rfl rfl ?_
      refine g_geti (i := 0) (t := 0) (f := 1) (fz := 1) (pc := 4) E dX4_assess_4 fl_X4_51 rfl (by decide) (by decide) rfl rfl hB.c1 (fun _ _ => ?_)
      refine g_icmp_ge (pc := 7) (tgt := 28) E dX4_assess_7 (by decide) (fun qh7 => ?_) (fun qh7 => ?_) 
      · rw [show x = S 6 by omega] at hrw
        refine g_aload_n (pc := 28) E dX4_assess_28 (i := 0) rfl rfl ?_
        refine g_aload_n (pc := 29) E dX4_assess_29 (i := 1) rfl rfl ?_
        refine g_callVv (pc := 30) (As := [_]) E dX4_assess_30 ml_X4_60 (cv_judge hB hV (lkM_ok hV hs0 hs1 (by omega) (by omega)) hrw) rfl rfl rfl rfl (by decide) (by decide) rfl (Nat.le_of_ble_eq_true rfl) (by decide) (fun M30 hM30 => ?_)
        refine g_vret (pc := 33) E hr dX4_assess_33 ?_
        exact ⟨fun i hi => (hM30.1 i hi).trans (hN i (by omega)), hM30.2⟩
      · have hmR := mkS_R hV hs0 hs1 hx0 (show x < S 6 by omega)
        refine g_aload_n (pc := 10) E dX4_assess_10 (i := 0) rfl rfl ?_
        refine g_getr (i := 167) (j := 168) (t := 4) (f := 0) (pc := 11) E dX4_assess_11 fl_X4_9 rfl (by decide) (by decide) rfl rfl ?_
        refine g_iload_n (pc := 14) E dX4_assess_14 (i := 3) rfl rfl ?_
        refine g_aload_n (pc := 15) E dX4_assess_15 (i := 1) rfl rfl ?_
        refine g_iload_n (pc := 16) E dX4_assess_16 (i := 2) rfl rfl ?_
        refine g_iload_n (pc := 17) E dX4_assess_17 (i := 3) rfl rfl ?_
        refine g_callV (pc := 18) (As := [_, _]) E dX4_assess_18 ml_X4_56 (ct_finalMark hB hV (by omega) (by omega) (by omega) (by omega)) rfl rfl rfl rfl (by decide) (by decide) rfl (Nat.le_of_ble_eq_true rfl) (by decide) (fun x18 M18 hM18 => ?_)
        obtain ⟨rfl, rfl⟩ := hM18
        refine g_iast (pc := 21) E dX4_assess_21 rfl (by omega) (by omega) ?_ 
        refine g_iinc (pc := 22) E dX4_assess_22 (ls' := [_, _, _, _]) rfl rfl rfl ?_
        refine g_goto (pc := 25) (tgt := 2) E dX4_assess_25 (by decide) ?_
        exact g_wk2 (ih2 _ (x + 1) (by omega) (by omega) (by omega) (fun i a => by rw [st_ne a]; exact hN i a) (row_ext hrw (lk_mk S sn hx0).symm)) ⟨rfl, rfl, rfl, rfl, trivial⟩
  exact g_wk2 (LP2 (S 6 + 1).toNat M 0 (by omega) (by omega) (by omega) (fun i _ => rfl) (fun j a b => absurd b (by omega))) ⟨rfl, rfl, rfl, rfl, trivial⟩

theorem cv_assume {cx : Cx} {M : Mem} {S : Int → Int} (hB : BD M S) (hV : SOK S) {sn p x : Int} (hs0 : 0 ≤ sn) (hs1 : sn < S 7) (hp0 : 0 ≤ p) (hp1 : p < S 6) (hx0 : -1 ≤ x) (hx1 : x ≤ 100) (hq : ∀ q, 0 ≤ q → q < S 6 → ¬ q = p → M 168 q = mkS S sn q) : Cv cx yX4_assume cX4_assume 4 5 0 0 [rf cx 167, rf cx 0, .int (oi p), .int (oi x)] M (fun M' => SD S (lkM S sn p x) M M') := by
  refine cv_intro cd_X4_assume (by decide +kernel) (Nat.le_of_ble_eq_true rfl) rfl (fun Pg Lc Ev s m args below meth c E hr => ?_)
  refine g_ent (ls' := [some (rf cx 167), some (rf cx 0), some (.int (oi p)), some (.int (oi x))]) rfl ?_
  have hV0 := hV.1
  have hB0 := hB.c0
  have hB1 := hB.c1
  have hB2 := hB.c2
  have hB3 := hB.c3
  refine g_aload_n (pc := 0) E dX4_assume_0 (i := 0) rfl rfl ?_
  refine g_getr (i := 167) (j := 168) (t := 4) (f := 0) (pc := 1) E dX4_assume_1 fl_X4_9 rfl (by decide) (by decide) rfl rfl ?_
  refine g_iload_n (pc := 4) E dX4_assume_4 (i := 2) rfl rfl ?_
  refine g_iload_n (pc := 5) E dX4_assume_5 (i := 3) rfl rfl ?_
  refine g_iast (pc := 6) E dX4_assume_6 rfl (by omega) (by omega) ?_ 
  refine g_aload_n (pc := 7) E dX4_assume_7 (i := 0) rfl rfl ?_
  refine g_aload_n (pc := 8) E dX4_assume_8 (i := 1) rfl rfl ?_
  refine g_callVv (pc := 9) (As := [_]) E dX4_assume_9 ml_X4_60 (cv_judge (mk := lkM S sn p x) (hB.congr (fun i hi => by rw [st_ne (by omega)])) hV (lkM_ok hV hs0 hs1 hx0 hx1) (fun q a b => by
    by_cases z : q = p
    · rw [z, st_self]; exact (if_pos rfl).symm
    · rw [st_off z, hq q a b z]; exact (if_neg z).symm)) rfl rfl rfl rfl (by decide) (by decide) rfl (Nat.le_of_ble_eq_true rfl) (by decide) (fun M9 hM9 => ?_)
  refine g_vret (pc := 12) E hr dX4_assume_12 ?_
  exact ⟨fun i hi => by rw [hM9.1 i hi, st_ne (by omega)], hM9.2⟩
