/-! the class's ranks -/
def RK (S : Int → Int) (N : Mem) : Prop := N 172 3 = S 7 ∧ ∀ s, 0 ≤ s → s < S 7 → N 173 s = grS S (lkM S s (-1) 0) ∧ N 174 s = akS S s ∧ N 175 s = bi (whS S (lkM S s (-1) 0) = 3)
def RA (S : Int → Int) (M N : Mem) : Prop := (∀ i, i < 167 ∨ 175 < i → N i = M i) ∧ RK S N
theorem RA.b {S T : Int → Int} {M N : Mem} (h : RA S M N) (hB : BD M T) : BD N T := hB.congr (fun i hi => h.1 i (by omega))
theorem RK.c {S : Int → Int} {N : Mem} (h : RK S N) : N 172 3 = S 7 := h.1
theorem RK.g {S : Int → Int} {N : Mem} (h : RK S N) (s : Int) (h0 : 0 ≤ s) (h1 : s < S 7) : N 173 s = grS S (lkM S s (-1) 0) := (h.2 s h0 h1).1
theorem RK.a {S : Int → Int} {N : Mem} (h : RK S N) (s : Int) (h0 : 0 ≤ s) (h1 : s < S 7) : N 174 s = akS S s := (h.2 s h0 h1).2.1
theorem RK.l {S : Int → Int} {N : Mem} (h : RK S N) (s : Int) (h0 : 0 ≤ s) (h1 : s < S 7) : N 175 s = bi (whS S (lkM S s (-1) 0) = 3) := (h.2 s h0 h1).2.2
theorem ak_eq {S : Int → Int} (hV : SOK S) {s : Int} (h0 : 0 ≤ s) (h1 : s < S 7) : (if incS S (lkM S s (-1) 0) then 0 else avS S (lkM S s (-1) 0)) = akS S s := by
  have h := avS_R hV (lkM_ok hV h0 h1 (q := -1) (o := 0) (by omega) (by omega))
  unfold akS
  split
  · next q => rw [avS, if_pos q]; rfl
  · next q => have := h.2.2 q; omega
theorem akS_R {S : Int → Int} (hV : SOK S) {s : Int} (h0 : 0 ≤ s) (h1 : s < S 7) : 0 ≤ akS S s ∧ akS S s ≤ 10000 := by
  have h := avS_R hV (lkM_ok hV h0 h1 (q := -1) (o := 0) (by omega) (by omega))
  unfold akS
  omega
theorem gk_6 {S : Int → Int} {s : Int} (h : grS S (lkM S s (-1) 0) = 0) : gkS S s = 6 := if_pos h
theorem gk_g {S : Int → Int} {s : Int} (h : ¬ grS S (lkM S s (-1) 0) = 0) : gkS S s = grS S (lkM S s (-1) 0) := if_neg h
theorem gk_eq {S : Int → Int} {s t : Int} : gkS S s = gkS S t ↔ grS S (lkM S s (-1) 0) = grS S (lkM S t (-1) 0) := by
  have a := grS_R S (lkM S s (-1) 0)
  have b := grS_R S (lkM S t (-1) 0)
  unfold gkS
  (repeat' split) <;> omega
def ocK (S : Int → Int) (g s : Int) : Int := if grS S (lkM S s (-1) 0) = g then akS S s else 0
theorem ocK_A {S : Int → Int} (hV : SOK S) {g : Int} (hg : ¬ g = 0) : sz (ocK S g) (S 7) = sz (ocA S g) (S 7) := sz_c (fun s a b => by
  unfold ocK ocA
  split
  · next q =>
    have hi := grS_0 (S := S) (mk := lkM S s (-1) 0) (by rw [q]; exact hg)
    rw [← ak_eq hV a b, if_neg hi]
  · rfl)

theorem cv_rassess {cx : Cx} {M : Mem} {S : Int → Int} (hB : BD M S) (hV : SOK S)  : Cv cx yX3_assess cX3_assess 4 6 0 0 [rf cx 172, rf cx 0, rf cx 167] M (fun M' => RA S M M') := by
  refine cv_intro cd_X3_assess (by decide +kernel) (Nat.le_of_ble_eq_true rfl) rfl (fun Pg Lc Ev s m args below meth c E hr => ?_)
  refine g_ent (ls' := [some (rf cx 172), some (rf cx 0), some (rf cx 167), none]) rfl ?_
  have hV0 := hV.1
  have hB0 := hB.c0
  have hB1 := hB.c1
  have hB2 := hB.c2
  have hB3 := hB.c3
  refine g_aload_n (pc := 0) E dX3_assess_0 (i := 0) rfl rfl ?_
  refine g_aload_n (pc := 1) E dX3_assess_1 (i := 1) rfl rfl ?_
  refine g_geti (i := 0) (t := 0) (f := 2) (fz := 2) (pc := 2) E dX3_assess_2 fl_X3_26 rfl (by decide) (by decide) rfl rfl hB.c2 (fun _ _ => ?_)
  refine g_bipush (pc := 5) E dX3_assess_5 rfl ?_
  refine g_min (pc := 7) E dX3_assess_7 (big_at 690 (by decide +kernel) (by decide +kernel)) rfl (by decide) (Nat.le_of_ble_eq_true rfl) (by decide) ?_ 
  refine g_puti (i := 172) (t := 3) (f := 3) (fz := 3) (pc := 10) E dX3_assess_10 fl_X3_22 rfl (by decide) (by decide) rfl rfl ?_ 
  refine g_iconst (pc := 13) E dX3_assess_13 rfl ?_
  refine g_istore_n (pc := 14) E dX3_assess_14 (i := 3) (ls' := [_, _, _, _]) rfl (Nat.le_of_ble_eq_true rfl) rfl ?_
  have LP15 : ∀ (n : Nat) (N : Mem) (x : Int), S 7 - x < (n : Int) → 0 ≤ x → x ≤ S 7 → (∀ i, i < 167 ∨ 175 < i → N i = M i) → N 172 3 = S 7 → (∀ s, 0 ≤ s → s < x → N 173 s = grS S (lkM S s (-1) 0) ∧ N 174 s = akS S s ∧ N 175 s = bi (whS S (lkM S s (-1) 0) = 3)) → G cx Pg Lc Ev (rmD 6 0 0) s m args below meth c (MQ below (QV cx (fun M' => RA S M M')) args s 0 0 (cA0 cx)) 15 [some (rf cx 172), some (rf cx 0), some (rf cx 167), some (.int (oi x))] [] (N) 0 0 := by
    intro n
    induction n with
    | zero => intro N x hn hx0 hx1 hN hc hrw; exact absurd hn (by omega)
    | succ n ih15 =>
      intro N x hn hx0 hx1 hN hc hrw
      have hB : BD N S := hB.congr (fun i hi => hN i (by omega))
      refine g_iload_n (pc := 15) E dX3_assess_15 (i := 3) rfl rfl ?_
      refine g_aload_n (pc := 16) E dX3_assess_16 (i := 0) rfl rfl ?_
      refine g_geti (i := 172) (t := 3) (f := 3) (fz := 3) (pc := 17) E dX3_assess_17 fl_X3_22 rfl (by decide) (by decide) rfl rfl hc (fun _ _ => ?_)
      refine g_icmp_ge (pc := 20) (tgt := 65) E dX3_assess_20 (by decide) (fun qh20 => ?_) (fun qh20 => ?_) 
      · refine g_vret (pc := 65) E hr dX3_assess_65 ?_
        exact ⟨hN, hc, fun s a b => hrw s a (by omega)⟩
      · refine g_aload_n (pc := 23) E dX3_assess_23 (i := 2) rfl rfl ?_
        refine g_aload_n (pc := 24) E dX3_assess_24 (i := 1) rfl rfl ?_
        refine g_iload_n (pc := 25) E dX3_assess_25 (i := 3) rfl rfl ?_
        refine g_callVv (pc := 26) (As := [_, _]) E dX3_assess_26 ml_X3_37 (cv_assess hB hV (by omega) (by omega)) rfl rfl rfl rfl (by decide) (by decide) rfl (Nat.le_of_ble_eq_true rfl) (by decide) (fun M26 hM26 => ?_)
        have hgR := grS_R S (lkM S x (-1) 0)
        have hak := ak_eq hV hx0 (show x < S 7 by omega)
        have hakR := akS_R hV hx0 (show x < S 7 by omega)
        refine g_aload_n (pc := 29) E dX3_assess_29 (i := 0) rfl rfl ?_
        refine g_getr (i := 172) (j := 173) (t := 3) (f := 0) (pc := 30) E dX3_assess_30 fl_X3_9 rfl (by decide) (by decide) rfl rfl ?_
        refine g_iload_n (pc := 33) E dX3_assess_33 (i := 3) rfl rfl ?_
        refine g_aload_n (pc := 34) E dX3_assess_34 (i := 2) rfl rfl ?_
        refine g_geti (i := 167) (t := 4) (f := 10) (fz := 10) (pc := 35) E dX3_assess_35 fl_X3_43 rfl (by decide) (by decide) rfl rfl hM26.2.2.2.2.2.2.2.2.2.2.2.1 (fun _ _ => ?_)
        refine g_iast (pc := 38) E dX3_assess_38 rfl (by omega) (by omega) ?_ 
        refine g_aload_n (pc := 39) E dX3_assess_39 (i := 0) rfl rfl ?_
        refine g_getr (i := 172) (j := 174) (t := 3) (f := 1) (pc := 40) E dX3_assess_40 fl_X3_15 rfl (by decide) (by decide) rfl rfl ?_
        refine g_iload_n (pc := 43) E dX3_assess_43 (i := 3) rfl rfl ?_
        refine g_aload_n (pc := 44) E dX3_assess_44 (i := 2) rfl rfl ?_
        refine g_geti (i := 167) (t := 4) (f := 9) (fz := 9) (pc := 45) E dX3_assess_45 fl_X3_46 rfl (by decide) (by decide) rfl rfl (v := (if incS S (lkM S x (-1) 0) then 0 else avS S (lkM S x (-1) 0))) (by rw [st_ne (by decide)]; exact hM26.2.2.2.2.2.2.2.2.2.2.1) (fun _ _ => ?_)
        refine g_iast (pc := 48) E dX3_assess_48 rfl (by omega) (by omega) ?_ 
        refine g_aload_n (pc := 49) E dX3_assess_49 (i := 0) rfl rfl ?_
        refine g_getr (i := 172) (j := 175) (t := 3) (f := 2) (pc := 50) E dX3_assess_50 fl_X3_18 rfl (by decide) (by decide) rfl rfl ?_
        refine g_iload_n (pc := 53) E dX3_assess_53 (i := 3) rfl rfl ?_
        refine g_aload_n (pc := 54) E dX3_assess_54 (i := 2) rfl rfl ?_
        refine g_geti (i := 167) (t := 4) (f := 11) (fz := 11) (pc := 55) E dX3_assess_55 fl_X3_49 rfl (by decide) (by decide) rfl rfl (v := bi (whS S (lkM S x (-1) 0) = 3)) (by rw [st_ne (by decide), st_ne (by decide)]; exact hM26.2.2.2.2.2.2.2.2.2.2.2.2) (fun _ _ => ?_)
        refine g_zast (pc := 58) E dX3_assess_58 rfl (by omega) (by omega) (bi_in _) ?_
        refine g_iinc (pc := 59) E dX3_assess_59 (ls' := [_, _, _, _]) rfl rfl rfl ?_
        refine g_goto (pc := 62) (tgt := 15) E dX3_assess_62 (by decide) ?_
        exact g_wk2 (ih15 _ (x + 1) (by omega) (by omega) (by omega) (fun i hi => by rw [st_ne (by omega), st_ne (by omega), st_ne (by omega), hM26.1 i (by omega)]; exact hN i hi) (by rw [st_ne (by decide), st_ne (by decide), st_ne (by decide), hM26.1 172 (by decide)]; exact hc) (fun s a b => by
          rw [st_ne (i := 175) (a := 173) (by decide), st_ne (i := 174) (a := 173) (by decide), st_ne (i := 175) (a := 174) (by decide)]
          by_cases q : s = x
          · rw [q, st_self, st_self, st_self]; exact ⟨rfl, hak, rfl⟩
          · rw [st_off q, st_off q, st_off q, st_ne (by decide), st_ne (by decide), st_ne (by decide), hM26.1 173 (by decide), hM26.1 174 (by decide), hM26.1 175 (by decide)]; exact hrw s a (by omega))) ⟨rfl, rfl, rfl, rfl, trivial⟩
  exact g_wk2 (LP15 (S 7 + 1).toNat _ 0 (by omega) (by omega) (by omega) (fun i hi => by rw [st_ne (by omega)]) (by rw [st_self]; omega) (fun j a b => absurd b (by omega))) ⟨rfl, rfl, rfl, rfl, trivial⟩

theorem ct_standsBefore {cx : Cx} {M : Mem} {S : Int → Int} (hV : SOK S) (hR : RK S M) {sn tt : Int} (hs0 : 0 ≤ sn) (hs1 : sn < S 7) (ht0 : 0 ≤ tt) (ht1 : tt < S 7) : Ct cx yX3_standsBefore cX3_standsBefore 3 (some .boolean) 2 0 0 [rf cx 172, .int (oi sn), .int (oi tt)] M (fun rz M' => bi (bef S sn tt) = rz ∧ M = M') := by
  refine ct_intro cd_X3_standsBefore (by decide +kernel) (Nat.le_of_ble_eq_true rfl) rfl (fun Pg Lc Ev s m args below meth c E hr => ?_)
  refine g_ent (ls' := [some (rf cx 172), some (.int (oi sn)), some (.int (oi tt))]) rfl ?_
  have hV0 := hV.1
  have hc := hR.c
  have g1 := grS_R S (lkM S sn (-1) 0)
  have g2 := grS_R S (lkM S tt (-1) 0)
  have a1 := akS_R hV hs0 hs1
  have a2 := akS_R hV ht0 ht1
  have ge := gk_eq (S := S) (s := sn) (t := tt)
  have k1 := gkS_R S sn
  have k2 := gkS_R S tt
  have e1 : (if grS S (lkM S sn (-1) 0) = 0 then 6 else grS S (lkM S sn (-1) 0)) = gkS S sn := rfl
  have e2 : (if grS S (lkM S tt (-1) 0) = 0 then 6 else grS S (lkM S tt (-1) 0)) = gkS S tt := rfl
  refine g_aload_n (pc := 0) E dX3_standsBefore_0 (i := 0) rfl rfl ?_
  refine g_getr (i := 172) (j := 173) (t := 3) (f := 0) (pc := 1) E dX3_standsBefore_1 fl_X3_9 rfl (by decide) (by decide) rfl rfl ?_
  refine g_iload_n (pc := 4) E dX3_standsBefore_4 (i := 1) rfl rfl ?_
  refine g_iald (pc := 5) E dX3_standsBefore_5 rfl (by omega) (by omega) (hR.g _ (by omega) (by omega)) (fun _ _ => ?_)
  refine g_aload_n (pc := 6) E dX3_standsBefore_6 (i := 0) rfl rfl ?_
  refine g_getr (i := 172) (j := 173) (t := 3) (f := 0) (pc := 7) E dX3_standsBefore_7 fl_X3_9 rfl (by decide) (by decide) rfl rfl ?_
  refine g_iload_n (pc := 10) E dX3_standsBefore_10 (i := 2) rfl rfl ?_
  refine g_iald (pc := 11) E dX3_standsBefore_11 rfl (by omega) (by omega) (hR.g _ (by omega) (by omega)) (fun _ _ => ?_)
  refine g_icmp_eq (pc := 12) (tgt := 42) E dX3_standsBefore_12 (by decide) (fun qh12 => ?_) (fun qh12 => ?_) 
  · replace qh12 := ge.mpr qh12
    refine g_aload_n (pc := 42) E dX3_standsBefore_42 (i := 0) rfl rfl ?_
    refine g_getr (i := 172) (j := 174) (t := 3) (f := 1) (pc := 43) E dX3_standsBefore_43 fl_X3_15 rfl (by decide) (by decide) rfl rfl ?_
    refine g_iload_n (pc := 46) E dX3_standsBefore_46 (i := 1) rfl rfl ?_
    refine g_iald (pc := 47) E dX3_standsBefore_47 rfl (by omega) (by omega) (hR.a _ (by omega) (by omega)) (fun _ _ => ?_)
    refine g_aload_n (pc := 48) E dX3_standsBefore_48 (i := 0) rfl rfl ?_
    refine g_getr (i := 172) (j := 174) (t := 3) (f := 1) (pc := 49) E dX3_standsBefore_49 fl_X3_15 rfl (by decide) (by decide) rfl rfl ?_
    refine g_iload_n (pc := 52) E dX3_standsBefore_52 (i := 2) rfl rfl ?_
    refine g_iald (pc := 53) E dX3_standsBefore_53 rfl (by omega) (by omega) (hR.a _ (by omega) (by omega)) (fun _ _ => ?_)
    refine g_icmp_eq (pc := 54) (tgt := 78) E dX3_standsBefore_54 (by decide) (fun qh54 => ?_) (fun qh54 => ?_) 
    · refine g_iload_n (pc := 78) E dX3_standsBefore_78 (i := 1) rfl rfl ?_
      refine g_iload_n (pc := 79) E dX3_standsBefore_79 (i := 2) rfl rfl ?_
      refine g_icmp_ge (pc := 80) (tgt := 87) E dX3_standsBefore_80 (by decide) (fun qh80 => ?_) (fun qh80 => ?_) 
      · refine g_iconst (pc := 87) E dX3_standsBefore_87 rfl ?_
        refine g_zret (pc := 88) E hr dX3_standsBefore_88 (by first | exact Or.inl rfl | exact Or.inr rfl | exact bi_in _ | omega) ?_
        exact ⟨bi_f (by unfold bef; omega), rfl⟩
      · refine g_iconst (pc := 83) E dX3_standsBefore_83 rfl ?_
        refine g_goto (pc := 84) (tgt := 88) E dX3_standsBefore_84 (by decide) ?_
        refine g_zret (pc := 88) E hr dX3_standsBefore_88 (by first | exact Or.inl rfl | exact Or.inr rfl | exact bi_in _ | omega) ?_
        exact ⟨bi_t (by unfold bef; omega), rfl⟩
    · refine g_aload_n (pc := 57) E dX3_standsBefore_57 (i := 0) rfl rfl ?_
      refine g_getr (i := 172) (j := 174) (t := 3) (f := 1) (pc := 58) E dX3_standsBefore_58 fl_X3_15 rfl (by decide) (by decide) rfl rfl ?_
      refine g_iload_n (pc := 61) E dX3_standsBefore_61 (i := 1) rfl rfl ?_
      refine g_iald (pc := 62) E dX3_standsBefore_62 rfl (by omega) (by omega) (hR.a _ (by omega) (by omega)) (fun _ _ => ?_)
      refine g_aload_n (pc := 63) E dX3_standsBefore_63 (i := 0) rfl rfl ?_
      refine g_getr (i := 172) (j := 174) (t := 3) (f := 1) (pc := 64) E dX3_standsBefore_64 fl_X3_15 rfl (by decide) (by decide) rfl rfl ?_
      refine g_iload_n (pc := 67) E dX3_standsBefore_67 (i := 2) rfl rfl ?_
      refine g_iald (pc := 68) E dX3_standsBefore_68 rfl (by omega) (by omega) (hR.a _ (by omega) (by omega)) (fun _ _ => ?_)
      refine g_icmp_le (pc := 69) (tgt := 76) E dX3_standsBefore_69 (by decide) (fun qh69 => ?_) (fun qh69 => ?_) 
      · refine g_iconst (pc := 76) E dX3_standsBefore_76 rfl ?_
        refine g_zret (pc := 77) E hr dX3_standsBefore_77 (by first | exact Or.inl rfl | exact Or.inr rfl | exact bi_in _ | omega) ?_
        exact ⟨bi_f (by unfold bef; omega), rfl⟩
      · refine g_iconst (pc := 72) E dX3_standsBefore_72 rfl ?_
        refine g_goto (pc := 73) (tgt := 77) E dX3_standsBefore_73 (by decide) ?_
        refine g_zret (pc := 77) E hr dX3_standsBefore_77 (by first | exact Or.inl rfl | exact Or.inr rfl | exact bi_in _ | omega) ?_
        exact ⟨bi_t (by unfold bef; omega), rfl⟩
  · replace qh12 : ¬ gkS S sn = gkS S tt := fun z => qh12 (ge.mp z)
    refine g_aload_n (pc := 15) E dX3_standsBefore_15 (i := 0) rfl rfl ?_
    refine g_getr (i := 172) (j := 173) (t := 3) (f := 0) (pc := 16) E dX3_standsBefore_16 fl_X3_9 rfl (by decide) (by decide) rfl rfl ?_
    refine g_iload_n (pc := 19) E dX3_standsBefore_19 (i := 1) rfl rfl ?_
    refine g_iald (pc := 20) E dX3_standsBefore_20 rfl (by omega) (by omega) (hR.g _ (by omega) (by omega)) (fun _ _ => ?_)
    refine g_callN (pc := 21) (As := [_]) E dX3_standsBefore_21 ml_X3_60 (ct_rankOfClass (by omega)) rfl rfl (by decide) (by decide) rfl (Nat.le_of_ble_eq_true rfl) (by decide) (fun x21 M21 hM21 => ?_)
    obtain ⟨rfl, rfl⟩ := hM21
    refine g_top e1 ?_
    refine g_aload_n (pc := 24) E dX3_standsBefore_24 (i := 0) rfl rfl ?_
    refine g_getr (i := 172) (j := 173) (t := 3) (f := 0) (pc := 25) E dX3_standsBefore_25 fl_X3_9 rfl (by decide) (by decide) rfl rfl ?_
    refine g_iload_n (pc := 28) E dX3_standsBefore_28 (i := 2) rfl rfl ?_
    refine g_iald (pc := 29) E dX3_standsBefore_29 rfl (by omega) (by omega) (hR.g _ (by omega) (by omega)) (fun _ _ => ?_)
    refine g_callN (pc := 30) (As := [_]) E dX3_standsBefore_30 ml_X3_60 (ct_rankOfClass (by omega)) rfl rfl (by decide) (by decide) rfl (Nat.le_of_ble_eq_true rfl) (by decide) (fun x30 M30 hM30 => ?_)
    obtain ⟨rfl, rfl⟩ := hM30
    refine g_top e2 ?_
    refine g_icmp_ge (pc := 33) (tgt := 40) E dX3_standsBefore_33 (by decide) (fun qh33 => ?_) (fun qh33 => ?_) 
    · refine g_iconst (pc := 40) E dX3_standsBefore_40 rfl ?_
      refine g_zret (pc := 41) E hr dX3_standsBefore_41 (by first | exact Or.inl rfl | exact Or.inr rfl | exact bi_in _ | omega) ?_
      exact ⟨bi_f (by unfold bef; omega), rfl⟩
    · refine g_iconst (pc := 36) E dX3_standsBefore_36 rfl ?_
      refine g_goto (pc := 37) (tgt := 41) E dX3_standsBefore_37 (by decide) ?_
      refine g_zret (pc := 41) E hr dX3_standsBefore_41 (by first | exact Or.inl rfl | exact Or.inr rfl | exact bi_in _ | omega) ?_
      exact ⟨bi_t (by unfold bef; omega), rfl⟩

theorem ct_placeOf {cx : Cx} {M : Mem} {S : Int → Int} (hV : SOK S) (hR : RK S M) {sn : Int} (hs0 : 0 ≤ sn) (hs1 : sn < S 7) : Ct cx yX3_placeOf cX3_placeOf 4 (some .int) 3 0 0 [rf cx 172, .int (oi sn)] M (fun rz M' => plS S sn = rz ∧ M = M') := by
  refine ct_intro cd_X3_placeOf (by decide +kernel) (Nat.le_of_ble_eq_true rfl) rfl (fun Pg Lc Ev s m args below meth c E hr => ?_)
  refine g_ent (ls' := [some (rf cx 172), some (.int (oi sn)), none, none]) rfl ?_
  have hV0 := hV.1
  have hc := hR.c
  refine g_iconst (pc := 0) E dX3_placeOf_0 rfl ?_
  refine g_istore_n (pc := 1) E dX3_placeOf_1 (i := 2) (ls' := [_, _, _, _]) rfl (Nat.le_of_ble_eq_true rfl) rfl ?_
  refine g_iconst (pc := 2) E dX3_placeOf_2 rfl ?_
  refine g_istore_n (pc := 3) E dX3_placeOf_3 (i := 3) (ls' := [_, _, _, _]) rfl (Nat.le_of_ble_eq_true rfl) rfl ?_
  have LP4 : ∀ (n : Nat) (x a : Int), S 7 - x < (n : Int) → 0 ≤ x → x ≤ S 7 → a = sz (plF S sn) x → G cx Pg Lc Ev (rmD 3 0 0) s m args below meth c (MQ below (QI cx (fun rz M' => plS S sn = rz ∧ M = M')) args s 0 0 (cA0 cx)) 4 [some (rf cx 172), some (.int (oi sn)), some (.int (oi a)), some (.int (oi x))] [] (M) 0 0 := by
    intro n
    induction n with
    | zero => intro x a hn hx0 hx1 ha; exact absurd hn (by omega)
    | succ n ih4 =>
      intro x a hn hx0 hx1 ha
      refine g_iload_n (pc := 4) E dX3_placeOf_4 (i := 3) rfl rfl ?_
      refine g_aload_n (pc := 5) E dX3_placeOf_5 (i := 0) rfl rfl ?_
      refine g_geti (i := 172) (t := 3) (f := 3) (fz := 3) (pc := 6) E dX3_placeOf_6 fl_X3_22 rfl (by decide) (by decide) rfl rfl hc (fun _ _ => ?_)
      refine g_icmp_ge (pc := 9) (tgt := 30) E dX3_placeOf_9 (by decide) (fun qh9 => ?_) (fun qh9 => ?_) 
      · refine g_iload_n (pc := 30) E dX3_placeOf_30 (i := 2) rfl rfl ?_
        refine g_iret (pc := 31) E hr dX3_placeOf_31 ?_
        exact ⟨by rw [ha, show x = S 7 by omega]; rfl, rfl⟩
      · refine g_aload_n (pc := 12) E dX3_placeOf_12 (i := 0) rfl rfl ?_
        refine g_iload_n (pc := 13) E dX3_placeOf_13 (i := 3) rfl rfl ?_
        refine g_iload_n (pc := 14) E dX3_placeOf_14 (i := 1) rfl rfl ?_
        refine g_callV (pc := 15) (As := [_, _]) E dX3_placeOf_15 ml_X3_52 (ct_standsBefore hV hR (by omega) (by omega) (by omega) (by omega)) rfl rfl rfl rfl (by decide) (by decide) rfl (Nat.le_of_ble_eq_true rfl) (by decide) (fun x15 M15 hM15 => ?_)
        obtain ⟨rfl, rfl⟩ := hM15
        refine g_if_eq (pc := 18) (tgt := 24) E dX3_placeOf_18 (by decide) (fun qh18 => ?_) (fun qh18 => ?_) (Int.le_trans (by decide) (bi_R _).1) (Int.le_trans (bi_R _).2 (by decide))
        · replace qh18 := bi_0.mp qh18
          refine g_iinc (pc := 24) E dX3_placeOf_24 (ls' := [_, _, _, _]) rfl rfl rfl ?_
          refine g_goto (pc := 27) (tgt := 4) E dX3_placeOf_27 (by decide) ?_
          exact g_wk2 (ih4 (x + 1) a (by omega) (by omega) (by omega) (by rw [sz_s hx0, ha, show (plF S sn) x = 0 from if_neg qh18]; omega)) ⟨rfl, rfl, rfl, rfl, trivial⟩
        · replace qh18 := bi_n.mp qh18
          refine g_iinc (pc := 21) E dX3_placeOf_21 (ls' := [_, _, _, _]) rfl rfl rfl ?_
          refine g_iinc (pc := 24) E dX3_placeOf_24 (ls' := [_, _, _, _]) rfl rfl rfl ?_
          refine g_goto (pc := 27) (tgt := 4) E dX3_placeOf_27 (by decide) ?_
          exact g_wk2 (ih4 (x + 1) (a + 1) (by omega) (by omega) (by omega) (by rw [sz_s hx0, ha, show (plF S sn) x = 1 from if_pos qh18])) ⟨rfl, rfl, rfl, rfl, trivial⟩
  exact g_wk2 (LP4 (S 7 + 1).toNat 0 0 (by omega) (by omega) (by omega) rfl) ⟨rfl, rfl, rfl, rfl, trivial⟩

theorem plS_R {S : Int → Int} (hV : SOK S) (s : Int) : 0 ≤ plS S s ∧ plS S s ≤ 20 := by
  have h0 := hV.1
  have := sz_R (f := plF S s) (a := 0) (b := 1) (x := S 7) (by omega) (fun j _ _ => by unfold plF; split <;> omega)
  unfold plS
  omega

theorem ct_studentAt {cx : Cx} {M : Mem} {S : Int → Int} (hV : SOK S) (hR : RK S M) {k : Int} (hk : -2147483648 ≤ k ∧ k ≤ 2147483647) : Ct cx yX3_studentAt cX3_studentAt 3 (some .int) 4 0 0 [rf cx 172, .int (oi k)] M (fun rz M' => rkS S k = rz ∧ M = M') := by
  refine ct_intro cd_X3_studentAt (by decide +kernel) (Nat.le_of_ble_eq_true rfl) rfl (fun Pg Lc Ev s m args below meth c E hr => ?_)
  refine g_ent (ls' := [some (rf cx 172), some (.int (oi k)), none]) rfl ?_
  have hV0 := hV.1
  have hc := hR.c
  have em : rkS S k = fi (rkF S k) (S 7) := rfl
  have hfi := fi_is (rkF S k) (n := S 7) (by omega)
  refine g_iconst (pc := 0) E dX3_studentAt_0 rfl ?_
  refine g_istore_n (pc := 1) E dX3_studentAt_1 (i := 2) (ls' := [_, _, _]) rfl (Nat.le_of_ble_eq_true rfl) rfl ?_
  have LP2 : ∀ (n : Nat) (x : Int), S 7 - x < (n : Int) → 0 ≤ x → x ≤ S 7 → (∀ j, 0 ≤ j → j < x → ¬ rkF S k j = 1) → G cx Pg Lc Ev (rmD 4 0 0) s m args below meth c (MQ below (QI cx (fun rz M' => rkS S k = rz ∧ M = M')) args s 0 0 (cA0 cx)) 2 [some (rf cx 172), some (.int (oi k)), some (.int (oi x))] [] (M) 0 0 := by
    intro n
    induction n with
    | zero => intro x hn hx0 hx1 hno; exact absurd hn (by omega)
    | succ n ih2 =>
      intro x hn hx0 hx1 hno
      have hpR := plS_R hV x
      refine g_iload_n (pc := 2) E dX3_studentAt_2 (i := 2) rfl rfl ?_
      refine g_aload_n (pc := 3) E dX3_studentAt_3 (i := 0) rfl rfl ?_
      refine g_geti (i := 172) (t := 3) (f := 3) (fz := 3) (pc := 4) E dX3_studentAt_4 fl_X3_22 rfl (by decide) (by decide) rfl rfl hc (fun _ _ => ?_)
      refine g_icmp_ge (pc := 7) (tgt := 27) E dX3_studentAt_7 (by decide) (fun qh7 => ?_) (fun qh7 => ?_) 
      · refine g_iconst (pc := 27) E dX3_studentAt_27 rfl ?_
        refine g_iret (pc := 28) E hr dX3_studentAt_28 ?_
        have e := isF_u hfi (Or.inl ⟨rfl, fun j a b => hno j a (by omega)⟩)
        exact ⟨by rw [em, e], rfl⟩
      · refine g_aload_n (pc := 10) E dX3_studentAt_10 (i := 0) rfl rfl ?_
        refine g_iload_n (pc := 11) E dX3_studentAt_11 (i := 2) rfl rfl ?_
        refine g_callV (pc := 12) (As := [_]) E dX3_studentAt_12 ml_X3_56 (ct_placeOf hV hR (by omega) (by omega)) rfl rfl rfl rfl (by decide) (by decide) rfl (Nat.le_of_ble_eq_true rfl) (by decide) (fun x12 M12 hM12 => ?_)
        obtain ⟨rfl, rfl⟩ := hM12
        refine g_iload_n (pc := 15) E dX3_studentAt_15 (i := 1) rfl rfl ?_
        refine g_icmp_ne (pc := 16) (tgt := 21) E dX3_studentAt_16 (by decide) (fun qh16 => ?_) (fun qh16 => ?_) 
        · refine g_iinc (pc := 21) E dX3_studentAt_21 (ls' := [_, _, _]) rfl rfl rfl ?_
          refine g_goto (pc := 24) (tgt := 2) E dX3_studentAt_24 (by decide) ?_
          exact g_wk2 (ih2 (x + 1) (by omega) (by omega) (by omega) (fun j a b => by
            by_cases q : j = x
            · rw [q]; unfold rkF; rw [if_neg qh16]; decide
            · exact hno j a (by omega))) ⟨rfl, rfl, rfl, trivial⟩
        · refine g_iload_n (pc := 19) E dX3_studentAt_19 (i := 2) rfl rfl ?_
          refine g_iret (pc := 20) E hr dX3_studentAt_20 ?_
          have e := isF_u hfi (Or.inr ⟨hx0, by omega, if_pos (by omega), hno⟩)
          exact ⟨by rw [em, e], rfl⟩
  exact g_wk2 (LP2 (S 7 + 1).toNat 0 (by omega) (by omega) (by omega) (fun j a b => absurd b (by omega))) ⟨rfl, rfl, rfl, trivial⟩

theorem ct_countOf {cx : Cx} {M : Mem} {S : Int → Int} (hV : SOK S) (hR : RK S M) {g : Int} (hg : -2147483648 ≤ g ∧ g ≤ 2147483647) : Ct cx yX3_countOf cX3_countOf 4 (some .int) 1 0 0 [rf cx 172, .int (oi g)] M (fun rz M' => sz (ocN S g) (S 7) = rz ∧ M = M') := by
  refine ct_intro cd_X3_countOf (by decide +kernel) (Nat.le_of_ble_eq_true rfl) rfl (fun Pg Lc Ev s m args below meth c E hr => ?_)
  refine g_ent (ls' := [some (rf cx 172), some (.int (oi g)), none, none]) rfl ?_
  have hV0 := hV.1
  have hc := hR.c
  refine g_iconst (pc := 0) E dX3_countOf_0 rfl ?_
  refine g_istore_n (pc := 1) E dX3_countOf_1 (i := 2) (ls' := [_, _, _, _]) rfl (Nat.le_of_ble_eq_true rfl) rfl ?_
  refine g_iconst (pc := 2) E dX3_countOf_2 rfl ?_
  refine g_istore_n (pc := 3) E dX3_countOf_3 (i := 3) (ls' := [_, _, _, _]) rfl (Nat.le_of_ble_eq_true rfl) rfl ?_
  have LP4 : ∀ (n : Nat) (x a : Int), S 7 - x < (n : Int) → 0 ≤ x → x ≤ S 7 → a = sz (ocN S g) x → G cx Pg Lc Ev (rmD 1 0 0) s m args below meth c (MQ below (QI cx (fun rz M' => sz (ocN S g) (S 7) = rz ∧ M = M')) args s 0 0 (cA0 cx)) 4 [some (rf cx 172), some (.int (oi g)), some (.int (oi a)), some (.int (oi x))] [] (M) 0 0 := by
    intro n
    induction n with
    | zero => intro x a hn hx0 hx1 ha; exact absurd hn (by omega)
    | succ n ih4 =>
      intro x a hn hx0 hx1 ha
      refine g_iload_n (pc := 4) E dX3_countOf_4 (i := 3) rfl rfl ?_
      refine g_aload_n (pc := 5) E dX3_countOf_5 (i := 0) rfl rfl ?_
      refine g_geti (i := 172) (t := 3) (f := 3) (fz := 3) (pc := 6) E dX3_countOf_6 fl_X3_22 rfl (by decide) (by decide) rfl rfl hc (fun _ _ => ?_)
      refine g_icmp_ge (pc := 9) (tgt := 31) E dX3_countOf_9 (by decide) (fun qh9 => ?_) (fun qh9 => ?_) 
      · refine g_iload_n (pc := 31) E dX3_countOf_31 (i := 2) rfl rfl ?_
        refine g_iret (pc := 32) E hr dX3_countOf_32 ?_
        exact ⟨by rw [ha, show x = S 7 by omega], rfl⟩
      · have hgR := grS_R S (lkM S x (-1) 0)
        refine g_aload_n (pc := 12) E dX3_countOf_12 (i := 0) rfl rfl ?_
        refine g_getr (i := 172) (j := 173) (t := 3) (f := 0) (pc := 13) E dX3_countOf_13 fl_X3_9 rfl (by decide) (by decide) rfl rfl ?_
        refine g_iload_n (pc := 16) E dX3_countOf_16 (i := 3) rfl rfl ?_
        refine g_iald (pc := 17) E dX3_countOf_17 rfl (by omega) (by omega) (hR.g _ (by omega) (by omega)) (fun _ _ => ?_)
        refine g_iload_n (pc := 18) E dX3_countOf_18 (i := 1) rfl rfl ?_
        refine g_icmp_ne (pc := 19) (tgt := 25) E dX3_countOf_19 (by decide) (fun qh19 => ?_) (fun qh19 => ?_) 
        · refine g_iinc (pc := 25) E dX3_countOf_25 (ls' := [_, _, _, _]) rfl rfl rfl ?_
          refine g_goto (pc := 28) (tgt := 4) E dX3_countOf_28 (by decide) ?_
          exact g_wk2 (ih4 (x + 1) a (by omega) (by omega) (by omega) (by rw [sz_s hx0, ha, show (ocN S g) x = 0 from if_neg qh19]; omega)) ⟨rfl, rfl, rfl, rfl, trivial⟩
        · refine g_iinc (pc := 22) E dX3_countOf_22 (ls' := [_, _, _, _]) rfl rfl rfl ?_
          refine g_iinc (pc := 25) E dX3_countOf_25 (ls' := [_, _, _, _]) rfl rfl rfl ?_
          refine g_goto (pc := 28) (tgt := 4) E dX3_countOf_28 (by decide) ?_
          exact g_wk2 (ih4 (x + 1) (a + 1) (by omega) (by omega) (by omega) (by rw [sz_s hx0, ha, show (ocN S g) x = 1 from if_pos (by omega)])) ⟨rfl, rfl, rfl, rfl, trivial⟩
  exact g_wk2 (LP4 (S 7 + 1).toNat 0 0 (by omega) (by omega) (by omega) rfl) ⟨rfl, rfl, rfl, rfl, trivial⟩

theorem ct_liftedTo {cx : Cx} {M : Mem} {S : Int → Int} (hV : SOK S) (hR : RK S M) {g : Int} (hg : -2147483648 ≤ g ∧ g ≤ 2147483647) : Ct cx yX3_liftedTo cX3_liftedTo 4 (some .int) 1 0 0 [rf cx 172, .int (oi g)] M (fun rz M' => sz (ocB S g) (S 7) = rz ∧ M = M') := by
  refine ct_intro cd_X3_liftedTo (by decide +kernel) (Nat.le_of_ble_eq_true rfl) rfl (fun Pg Lc Ev s m args below meth c E hr => ?_)
  refine g_ent (ls' := [some (rf cx 172), some (.int (oi g)), none, none]) rfl ?_
  have hV0 := hV.1
  have hc := hR.c
  refine g_iconst (pc := 0) E dX3_liftedTo_0 rfl ?_
  refine g_istore_n (pc := 1) E dX3_liftedTo_1 (i := 2) (ls' := [_, _, _, _]) rfl (Nat.le_of_ble_eq_true rfl) rfl ?_
  refine g_iconst (pc := 2) E dX3_liftedTo_2 rfl ?_
  refine g_istore_n (pc := 3) E dX3_liftedTo_3 (i := 3) (ls' := [_, _, _, _]) rfl (Nat.le_of_ble_eq_true rfl) rfl ?_
  have LP4 : ∀ (n : Nat) (x a : Int), S 7 - x < (n : Int) → 0 ≤ x → x ≤ S 7 → a = sz (ocB S g) x → G cx Pg Lc Ev (rmD 1 0 0) s m args below meth c (MQ below (QI cx (fun rz M' => sz (ocB S g) (S 7) = rz ∧ M = M')) args s 0 0 (cA0 cx)) 4 [some (rf cx 172), some (.int (oi g)), some (.int (oi a)), some (.int (oi x))] [] (M) 0 0 := by
    intro n
    induction n with
    | zero => intro x a hn hx0 hx1 ha; exact absurd hn (by omega)
    | succ n ih4 =>
      intro x a hn hx0 hx1 ha
      refine g_iload_n (pc := 4) E dX3_liftedTo_4 (i := 3) rfl rfl ?_
      refine g_aload_n (pc := 5) E dX3_liftedTo_5 (i := 0) rfl rfl ?_
      refine g_geti (i := 172) (t := 3) (f := 3) (fz := 3) (pc := 6) E dX3_liftedTo_6 fl_X3_22 rfl (by decide) (by decide) rfl rfl hc (fun _ _ => ?_)
      refine g_icmp_ge (pc := 9) (tgt := 40) E dX3_liftedTo_9 (by decide) (fun qh9 => ?_) (fun qh9 => ?_) 
      · refine g_iload_n (pc := 40) E dX3_liftedTo_40 (i := 2) rfl rfl ?_
        refine g_iret (pc := 41) E hr dX3_liftedTo_41 ?_
        exact ⟨by rw [ha, show x = S 7 by omega], rfl⟩
      · have hgR := grS_R S (lkM S x (-1) 0)
        refine g_aload_n (pc := 12) E dX3_liftedTo_12 (i := 0) rfl rfl ?_
        refine g_getr (i := 172) (j := 173) (t := 3) (f := 0) (pc := 13) E dX3_liftedTo_13 fl_X3_9 rfl (by decide) (by decide) rfl rfl ?_
        refine g_iload_n (pc := 16) E dX3_liftedTo_16 (i := 3) rfl rfl ?_
        refine g_iald (pc := 17) E dX3_liftedTo_17 rfl (by omega) (by omega) (hR.g _ (by omega) (by omega)) (fun _ _ => ?_)
        refine g_iload_n (pc := 18) E dX3_liftedTo_18 (i := 1) rfl rfl ?_
        refine g_icmp_ne (pc := 19) (tgt := 34) E dX3_liftedTo_19 (by decide) (fun qh19 => ?_) (fun qh19 => ?_) 
        · refine g_iinc (pc := 34) E dX3_liftedTo_34 (ls' := [_, _, _, _]) rfl rfl rfl ?_
          refine g_goto (pc := 37) (tgt := 4) E dX3_liftedTo_37 (by decide) ?_
          exact g_wk2 (ih4 (x + 1) a (by omega) (by omega) (by omega) (by rw [sz_s hx0, ha, show (ocB S g) x = 0 from if_neg (fun z => qh19 z.1)]; omega)) ⟨rfl, rfl, rfl, rfl, trivial⟩
        · refine g_aload_n (pc := 22) E dX3_liftedTo_22 (i := 0) rfl rfl ?_
          refine g_getr (i := 172) (j := 175) (t := 3) (f := 2) (pc := 23) E dX3_liftedTo_23 fl_X3_18 rfl (by decide) (by decide) rfl rfl ?_
          refine g_iload_n (pc := 26) E dX3_liftedTo_26 (i := 3) rfl rfl ?_
          refine g_zald (pc := 27) E dX3_liftedTo_27 rfl (by omega) (by omega) (hR.l _ (by omega) (by omega)) (fun _ _ => ?_)
          refine g_if_eq (pc := 28) (tgt := 34) E dX3_liftedTo_28 (by decide) (fun qh28 => ?_) (fun qh28 => ?_) (Int.le_trans (by decide) (bi_R _).1) (Int.le_trans (bi_R _).2 (by decide))
          · replace qh28 := bi_0.mp qh28
            refine g_iinc (pc := 34) E dX3_liftedTo_34 (ls' := [_, _, _, _]) rfl rfl rfl ?_
            refine g_goto (pc := 37) (tgt := 4) E dX3_liftedTo_37 (by decide) ?_
            exact g_wk2 (ih4 (x + 1) a (by omega) (by omega) (by omega) (by rw [sz_s hx0, ha, show (ocB S g) x = 0 from if_neg (fun z => qh28 z.2)]; omega)) ⟨rfl, rfl, rfl, rfl, trivial⟩
          · replace qh28 := bi_n.mp qh28
            refine g_iinc (pc := 31) E dX3_liftedTo_31 (ls' := [_, _, _, _]) rfl rfl rfl ?_
            refine g_iinc (pc := 34) E dX3_liftedTo_34 (ls' := [_, _, _, _]) rfl rfl rfl ?_
            refine g_goto (pc := 37) (tgt := 4) E dX3_liftedTo_37 (by decide) ?_
            exact g_wk2 (ih4 (x + 1) (a + 1) (by omega) (by omega) (by omega) (by rw [sz_s hx0, ha, show (ocB S g) x = 1 from if_pos ⟨by omega, qh28⟩])) ⟨rfl, rfl, rfl, rfl, trivial⟩
  exact g_wk2 (LP4 (S 7 + 1).toNat 0 0 (by omega) (by omega) (by omega) rfl) ⟨rfl, rfl, rfl, rfl, trivial⟩

theorem ct_meanAverage {cx : Cx} {M : Mem} {S : Int → Int} (hV : SOK S) (hR : RK S M) {g : Int} (hg : -2147483648 ≤ g ∧ g ≤ 2147483647) : Ct cx yX3_meanAverage cX3_meanAverage 5 (some .int) 1 0 0 [rf cx 172, .int (oi g)] M (fun rz M' => (if 0 < sz (ocN S g) (S 7) then sz (ocK S g) (S 7) / sz (ocN S g) (S 7) else -5) = rz ∧ M = M') := by
  refine ct_intro cd_X3_meanAverage (by decide +kernel) (Nat.le_of_ble_eq_true rfl) rfl (fun Pg Lc Ev s m args below meth c E hr => ?_)
  refine g_ent (ls' := [some (rf cx 172), some (.int (oi g)), none, none, none]) rfl ?_
  have hV0 := hV.1
  have hc := hR.c
  refine g_iconst (pc := 0) E dX3_meanAverage_0 rfl ?_
  refine g_istore_n (pc := 1) E dX3_meanAverage_1 (i := 2) (ls' := [_, _, _, _, _]) rfl (Nat.le_of_ble_eq_true rfl) rfl ?_
  refine g_iconst (pc := 2) E dX3_meanAverage_2 rfl ?_
  refine g_istore_n (pc := 3) E dX3_meanAverage_3 (i := 3) (ls' := [_, _, _, _, _]) rfl (Nat.le_of_ble_eq_true rfl) rfl ?_
  refine g_iconst (pc := 4) E dX3_meanAverage_4 rfl ?_
  refine g_istore (pc := 5) E dX3_meanAverage_5 (ls' := [_, _, _, _, _]) (Nat.le_of_ble_eq_true rfl) rfl ?_
  have LP7 : ∀ (n : Nat) (x w a : Int), S 7 - x < (n : Int) → 0 ≤ x → x ≤ S 7 → a = sz (ocN S g) x → w = sz (ocK S g) x → G cx Pg Lc Ev (rmD 1 0 0) s m args below meth c (MQ below (QI cx (fun rz M' => (if 0 < sz (ocN S g) (S 7) then sz (ocK S g) (S 7) / sz (ocN S g) (S 7) else -5) = rz ∧ M = M')) args s 0 0 (cA0 cx)) 7 [some (rf cx 172), some (.int (oi g)), some (.int (oi w)), some (.int (oi a)), some (.int (oi x))] [] (M) 0 0 := by
    intro n
    induction n with
    | zero => intro x w a hn hx0 hx1 ha hw; exact absurd hn (by omega)
    | succ n ih7 =>
      intro x w a hn hx0 hx1 ha hw
      have h1 := sz_R (f := ocN S g) (a := 0) (b := 1) hx0 (fun j _ _ => by unfold ocN; split <;> omega)
      have h2 := sz_R (f := ocK S g) (a := 0) (b := 10000) hx0 (fun j j0 j1 => by have := akS_R hV j0 (show j < S 7 by omega); unfold ocK; split <;> omega)
      refine g_iload (pc := 7) E dX3_meanAverage_7 rfl ?_
      refine g_aload_n (pc := 9) E dX3_meanAverage_9 (i := 0) rfl rfl ?_
      refine g_geti (i := 172) (t := 3) (f := 3) (fz := 3) (pc := 10) E dX3_meanAverage_10 fl_X3_22 rfl (by decide) (by decide) rfl rfl hc (fun _ _ => ?_)
      refine g_icmp_ge (pc := 13) (tgt := 46) E dX3_meanAverage_13 (by decide) (fun qh13 => ?_) (fun qh13 => ?_) 
      · have hxe : x = S 7 := by omega
        rw [hxe] at ha hw h1 h2
        refine g_iload_n (pc := 46) E dX3_meanAverage_46 (i := 3) rfl rfl ?_
        refine g_if_le (pc := 47) (tgt := 56) E dX3_meanAverage_47 (by decide) (fun qh47 => ?_) (fun qh47 => ?_) 
        · refine g_bipush (pc := 56) E dX3_meanAverage_56 rfl ?_
          refine g_iret (pc := 58) E hr dX3_meanAverage_58 ?_
          exact ⟨by rw [if_neg (by omega)], rfl⟩
        · refine g_iload_n (pc := 50) E dX3_meanAverage_50 (i := 2) rfl rfl ?_
          refine g_iload_n (pc := 51) E dX3_meanAverage_51 (i := 3) rfl rfl ?_
          refine g_idiv (pc := 52) E dX3_meanAverage_52 (by omega) (by omega) (by omega) (by omega) ?_
          refine g_goto (pc := 53) (tgt := 58) E dX3_meanAverage_53 (by decide) ?_
          refine g_iret (pc := 58) E hr dX3_meanAverage_58 ?_
          exact ⟨by rw [if_pos (by omega), ← ha, ← hw], rfl⟩
      · have hgR := grS_R S (lkM S x (-1) 0)
        refine g_aload_n (pc := 16) E dX3_meanAverage_16 (i := 0) rfl rfl ?_
        refine g_getr (i := 172) (j := 173) (t := 3) (f := 0) (pc := 17) E dX3_meanAverage_17 fl_X3_9 rfl (by decide) (by decide) rfl rfl ?_
        refine g_iload (pc := 20) E dX3_meanAverage_20 rfl ?_
        refine g_iald (pc := 22) E dX3_meanAverage_22 rfl (by omega) (by omega) (hR.g _ (by omega) (by omega)) (fun _ _ => ?_)
        refine g_iload_n (pc := 23) E dX3_meanAverage_23 (i := 1) rfl rfl ?_
        refine g_icmp_ne (pc := 24) (tgt := 40) E dX3_meanAverage_24 (by decide) (fun qh24 => ?_) (fun qh24 => ?_) 
        · refine g_iinc (pc := 40) E dX3_meanAverage_40 (ls' := [_, _, _, _, _]) rfl rfl rfl ?_
          refine g_goto (pc := 43) (tgt := 7) E dX3_meanAverage_43 (by decide) ?_
          exact g_wk2 (ih7 (x + 1) w a (by omega) (by omega) (by omega) (by rw [sz_s hx0, ha, show ocN S g x = 0 from if_neg qh24]; omega) (by rw [sz_s hx0, hw, show ocK S g x = 0 from if_neg qh24]; omega)) ⟨rfl, rfl, rfl, rfl, rfl, trivial⟩
        · refine g_iload_n (pc := 27) E dX3_meanAverage_27 (i := 2) rfl rfl ?_
          refine g_aload_n (pc := 28) E dX3_meanAverage_28 (i := 0) rfl rfl ?_
          refine g_getr (i := 172) (j := 174) (t := 3) (f := 1) (pc := 29) E dX3_meanAverage_29 fl_X3_15 rfl (by decide) (by decide) rfl rfl ?_
          refine g_iload (pc := 32) E dX3_meanAverage_32 rfl ?_
          refine g_iald (pc := 34) E dX3_meanAverage_34 rfl (by omega) (by omega) (hR.a _ (by omega) (by omega)) (fun _ _ => ?_)
          refine g_iadd (pc := 35) E dX3_meanAverage_35 ?_
          refine g_istore_n (pc := 36) E dX3_meanAverage_36 (i := 2) (ls' := [_, _, _, _, _]) rfl (Nat.le_of_ble_eq_true rfl) rfl ?_
          refine g_iinc (pc := 37) E dX3_meanAverage_37 (ls' := [_, _, _, _, _]) rfl rfl rfl ?_
          refine g_iinc (pc := 40) E dX3_meanAverage_40 (ls' := [_, _, _, _, _]) rfl rfl rfl ?_
          refine g_goto (pc := 43) (tgt := 7) E dX3_meanAverage_43 (by decide) ?_
          exact g_wk2 (ih7 (x + 1) (w + akS S x) (a + 1) (by omega) (by omega) (by omega) (by rw [sz_s hx0, ha, show ocN S g x = 1 from if_pos (by omega)]) (by rw [sz_s hx0, hw, show ocK S g x = akS S x from if_pos (by omega)])) ⟨rfl, rfl, rfl, rfl, rfl, trivial⟩
  exact g_wk2 (LP7 (S 7 + 1).toNat 0 0 0 (by omega) (by omega) (by omega) rfl rfl) ⟨rfl, rfl, rfl, rfl, rfl, trivial⟩
