/-! what the class answers -/
def SC5 (M N : Mem) : Prop := ∀ i, i < 167 ∨ 175 < i → N i = M i
theorem SC5.rf (M : Mem) : SC5 M M := fun _ _ => rfl
theorem SC5.tr {M N O : Mem} (h : SC5 M N) (g : SC5 N O) : SC5 M O := fun i hi => (g i hi).trans (h i hi)
theorem SC5.b {M N : Mem} {S : Int → Int} (h : SC5 M N) (hB : BD M S) : BD N S := hB.congr (fun i hi => h i (by omega))
section SDs
variable {S mk : Int → Int} {M N : Mem}
theorem SD.sc (h : SD S mk M N) : SC5 M N := fun i hi => h.1 i (by omega)
theorem SD.st (h : SD S mk M N) : ∀ p, 0 ≤ p → p < S 6 → N 169 p = stA S mk p := h.2.2.1
theorem SD.inn (h : SD S mk M N) : ∀ m, 0 ≤ m → m < S 5 → N 170 m = inS S mk m := h.2.2.2.1
theorem SD.ct (h : SD S mk M N) : ∀ m, 0 ≤ m → m < S 5 → N 171 m = bi (0 < pcnt S m) := h.2.2.2.2.1
theorem SD.f4 (h : SD S mk M N) : N 167 4 = allS S := h.2.2.2.2.2.1
theorem SD.f5 (h : SD S mk M N) : N 167 5 = pwS S mk := h.2.2.2.2.2.2.1
theorem SD.f6 (h : SD S mk M N) : N 167 6 = pcrS S mk := h.2.2.2.2.2.2.2.1
theorem SD.f7 (h : SD S mk M N) : N 167 7 = bi (¬ incS S mk) := h.2.2.2.2.2.2.2.2.1
theorem SD.f8 (h : SD S mk M N) : N 167 8 = bi (sz (apF S mk) (S 5) = 0) := h.2.2.2.2.2.2.2.2.2.1
theorem SD.f9 (h : SD S mk M N) : N 167 9 = (if incS S mk then 0 else avS S mk) := h.2.2.2.2.2.2.2.2.2.2.1
theorem SD.f10 (h : SD S mk M N) : N 167 10 = grS S mk := h.2.2.2.2.2.2.2.2.2.2.2.1
theorem SD.f11 (h : SD S mk M N) : N 167 11 = bi (whS S mk = 3) := h.2.2.2.2.2.2.2.2.2.2.2.2
theorem RA.sc (h : RA S M N) : SC5 M N := h.1
end SDs
theorem wn_av {S mk : Int → Int} (h : ¬ incS S mk) (h2 : ¬ 0 ≤ lostS S mk) : wnS S mk = avS S mk - 100 * limS (grS S mk) ∧ 1 ≤ grS S mk ∧ grS S mk ≤ 4 := by
  have hc := clA_R (avS S mk)
  by_cases q : lfS S mk
  · have := q.1
    rw [wnS, if_neg h, if_neg h2, if_pos q, (gr_lf h h2 q).1]
    exact ⟨rfl, by omega⟩
  · rw [wnS, if_neg h, if_neg h2, if_neg q, (gr_no h h2 q).1]
    exact ⟨rfl, by omega⟩

theorem ct5_studentsWith {cx : Cx} {M : Mem} {S : Int → Int} (hB : BD M S) (hV : SOK S) {p v : Int} (hp0 : 0 ≤ p) (hp1 : p < S 6) (hv : 1 ≤ v ∧ v ≤ 3) : Ct cx yX5_studentsWith cX5_studentsWith 5 (some .int) 6 0 0 [rf cx 183, .int (oi p), .int (oi v)] M (fun rz M' => sz (paF S p (v + 4)) (S 7) = rz ∧ SC5 M M') := by
  refine ct_intro cd_X5_studentsWith (by decide +kernel) (Nat.le_of_ble_eq_true rfl) rfl (fun Pg Lc Ev s m args below meth c E hr => ?_)
  refine g_ent (ls' := [some (rf cx 183), some (.int (oi p)), some (.int (oi v)), none, none]) rfl ?_
  have hV0 := hV.1
  have hB0 := hB.c0
  have hB1 := hB.c1
  have hB2 := hB.c2
  have hB3 := hB.c3
  refine g_iconst (pc := 0) E dX5_studentsWith_0 rfl ?_
  refine g_istore_n (pc := 1) E dX5_studentsWith_1 (i := 3) (ls' := [_, _, _, _, _]) rfl (Nat.le_of_ble_eq_true rfl) rfl ?_
  refine g_iconst (pc := 2) E dX5_studentsWith_2 rfl ?_
  refine g_istore (pc := 3) E dX5_studentsWith_3 (ls' := [_, _, _, _, _]) (Nat.le_of_ble_eq_true rfl) rfl ?_
  have LP5 : ∀ (n : Nat) (N : Mem) (x a : Int), S 7 - x < (n : Int) → 0 ≤ x → x ≤ S 7 → SC5 M N → a = sz (paF S p (v + 4)) x → G cx Pg Lc Ev (rmD 6 0 0) s m args below meth c (MQ below (QI cx (fun rz M' => sz (paF S p (v + 4)) (S 7) = rz ∧ SC5 M M')) args s 0 0 (cA0 cx)) 5 [some (rf cx 183), some (.int (oi p)), some (.int (oi v)), some (.int (oi a)), some (.int (oi x))] [] (N) 0 0 := by
    intro n
    induction n with
    | zero => intro N x a hn hx0 hx1 hN ha; exact absurd hn (by omega)
    | succ n ih5 =>
      intro N x a hn hx0 hx1 hN ha
      have hB := hN.b hB
      refine g_iload (pc := 5) E dX5_studentsWith_5 rfl ?_
      refine g_aload_n (pc := 7) E dX5_studentsWith_7 (i := 0) rfl rfl ?_
      refine g_getr (i := 183) (j := 0) (t := 5) (f := 0) (pc := 8) E dX5_studentsWith_8 fl_X5_12 rfl (by decide) (by decide) rfl rfl ?_
      refine g_geti (i := 0) (t := 0) (f := 2) (fz := 2) (pc := 11) E dX5_studentsWith_11 fl_X5_109 rfl (by decide) (by decide) rfl rfl hB.c2 (fun _ _ => ?_)
      refine g_icmp_ge (pc := 14) (tgt := 52) E dX5_studentsWith_14 (by decide) (fun qh14 => ?_) (fun qh14 => ?_) 
      · refine g_iload_n (pc := 52) E dX5_studentsWith_52 (i := 3) rfl rfl ?_
        refine g_iret (pc := 53) E hr dX5_studentsWith_53 ?_
        exact ⟨by rw [ha, show x = S 7 by omega], hN⟩
      · refine g_aload_n (pc := 17) E dX5_studentsWith_17 (i := 0) rfl rfl ?_
        refine g_getr (i := 183) (j := 167) (t := 5) (f := 4) (pc := 18) E dX5_studentsWith_18 fl_X5_33 rfl (by decide) (by decide) rfl rfl ?_
        refine g_aload_n (pc := 21) E dX5_studentsWith_21 (i := 0) rfl rfl ?_
        refine g_getr (i := 183) (j := 0) (t := 5) (f := 0) (pc := 22) E dX5_studentsWith_22 fl_X5_12 rfl (by decide) (by decide) rfl rfl ?_
        refine g_iload (pc := 25) E dX5_studentsWith_25 rfl ?_
        refine g_callVv (pc := 27) (As := [_, _]) E dX5_studentsWith_27 ml_X5_129 (cv_assess hB hV (by omega) (by omega)) rfl rfl rfl rfl (by decide) (by decide) rfl (Nat.le_of_ble_eq_true rfl) (by decide) (fun M27 hM27 => ?_)
        have hsR := stA_R S (lkM S x (-1) 0) p
        refine g_aload_n (pc := 30) E dX5_studentsWith_30 (i := 0) rfl rfl ?_
        refine g_getr (i := 183) (j := 167) (t := 5) (f := 4) (pc := 31) E dX5_studentsWith_31 fl_X5_33 rfl (by decide) (by decide) rfl rfl ?_
        refine g_getr (i := 167) (j := 169) (t := 4) (f := 1) (pc := 34) E dX5_studentsWith_34 fl_X5_133 rfl (by decide) (by decide) rfl rfl ?_
        refine g_iload_n (pc := 37) E dX5_studentsWith_37 (i := 1) rfl rfl ?_
        refine g_iald (pc := 38) E dX5_studentsWith_38 rfl (by omega) (by omega) (hM27.st p (by omega) (by omega)) (fun _ _ => ?_)
        refine g_iload_n (pc := 39) E dX5_studentsWith_39 (i := 2) rfl rfl ?_
        refine g_icmp_ne (pc := 40) (tgt := 46) E dX5_studentsWith_40 (by decide) (fun qh40 => ?_) (fun qh40 => ?_) 
        · refine g_iinc (pc := 46) E dX5_studentsWith_46 (ls' := [_, _, _, _, _]) rfl rfl rfl ?_
          refine g_goto (pc := 49) (tgt := 5) E dX5_studentsWith_49 (by decide) ?_
          exact g_wk2 (ih5 M27 (x + 1) a (by omega) (by omega) (by omega) (hN.tr hM27.sc) (by rw [sz_s hx0, ha, show paF S p (v + 4) x = 0 from by rw [paF, if_neg (by omega), if_neg (by omega), if_neg (by omega)]]; omega)) ⟨rfl, rfl, rfl, rfl, rfl, trivial⟩
        · refine g_iinc (pc := 43) E dX5_studentsWith_43 (ls' := [_, _, _, _, _]) rfl rfl rfl ?_
          refine g_iinc (pc := 46) E dX5_studentsWith_46 (ls' := [_, _, _, _, _]) rfl rfl rfl ?_
          refine g_goto (pc := 49) (tgt := 5) E dX5_studentsWith_49 (by decide) ?_
          exact g_wk2 (ih5 M27 (x + 1) (a + 1) (by omega) (by omega) (by omega) (hN.tr hM27.sc) (by rw [sz_s hx0, ha, show paF S p (v + 4) x = 1 from by rw [paF, if_neg (by omega), if_neg (by omega), if_pos (by omega)]])) ⟨rfl, rfl, rfl, rfl, rfl, trivial⟩
  exact g_wk2 (LP5 (S 7 + 1).toNat M 0 0 (by omega) (by omega) (by omega) (SC5.rf M) rfl) ⟨rfl, rfl, rfl, rfl, rfl, trivial⟩

theorem ct5_paper {cx : Cx} {M : Mem} {S : Int → Int} (hB : BD M S) (hV : SOK S) {p w : Int} (hp : -2147483648 ≤ p ∧ p ≤ 2147483647) (hw : -2147483648 ≤ w ∧ w ≤ 2147483647) : Ct cx yX5_paper cX5_paper 3 (some .int) 7 0 0 [rf cx 183, .int (oi p), .int (oi w)] M (fun rz M' => paS S p w = rz ∧ SC5 M M') := by
  refine ct_intro cd_X5_paper (by decide +kernel) (Nat.le_of_ble_eq_true rfl) rfl (fun Pg Lc Ev s m args below meth c E hr => ?_)
  refine g_ent (ls' := [some (rf cx 183), some (.int (oi p)), some (.int (oi w))]) rfl ?_
  have hV0 := hV.1
  have hB0 := hB.c0
  have hB1 := hB.c1
  have hB2 := hB.c2
  have hB3 := hB.c3
  refine g_aload_n (pc := 0) E dX5_paper_0 (i := 0) rfl rfl ?_
  refine g_getr (i := 183) (j := 0) (t := 5) (f := 0) (pc := 1) E dX5_paper_1 fl_X5_12 rfl (by decide) (by decide) rfl rfl ?_
  refine g_iload_n (pc := 4) E dX5_paper_4 (i := 1) rfl rfl ?_
  refine g_callV (pc := 5) (As := [_]) E dX5_paper_5 ml_X5_115 (ct_hasPaper hB hV (by omega)) rfl rfl rfl rfl (by decide) (by decide) rfl (Nat.le_of_ble_eq_true rfl) (by decide) (fun x5 M5 hM5 => ?_)
  obtain ⟨rfl, rfl⟩ := hM5
  refine g_if_ne (pc := 8) (tgt := 13) E dX5_paper_8 (by decide) (fun qh8 => ?_) (fun qh8 => ?_) (Int.le_trans (by decide) (bi_R _).1) (Int.le_trans (bi_R _).2 (by decide))
  · replace qh8 := bi_n.mp qh8
    refine g_iload_n (pc := 13) E dX5_paper_13 (i := 2) rfl rfl ?_
    by_cases qs14_0 : w = 0
    · refine g_tableIn (pc := 14) (tgt := 60) (off := 46) E dX5_paper_14 (by omega) (by omega) (by rw [qs14_0]; rfl) (by decide) ?_
      refine g_aload_n (pc := 60) E dX5_paper_60 (i := 0) rfl rfl ?_
      refine g_getr (i := 183) (j := 0) (t := 5) (f := 0) (pc := 61) E dX5_paper_61 fl_X5_12 rfl (by decide) (by decide) rfl rfl ?_
      refine g_getr (i := 0) (j := 3) (t := 0) (f := 6) (pc := 64) E dX5_paper_64 fl_X5_97 rfl (by decide) (by decide) rfl rfl ?_
      refine g_iload_n (pc := 67) E dX5_paper_67 (i := 1) rfl rfl ?_
      refine g_iald (q := 8) (pc := 68) E dX5_paper_68 rfl (by omega) (by omega) (hB.f3 _ (by omega) (by omega)) (fun _ _ => ?_)
      refine g_iret (pc := 69) E hr dX5_paper_69 ?_
      subst qs14_0
      exact ⟨by rw [paS, if_neg (by omega), if_neg (by omega), if_pos (by omega), Int.add_zero], SC5.rf M⟩
    by_cases qs14_1 : w = 1
    · refine g_tableIn (pc := 14) (tgt := 70) (off := 56) E dX5_paper_14 (by omega) (by omega) (by rw [qs14_1]; rfl) (by decide) ?_
      refine g_aload_n (pc := 70) E dX5_paper_70 (i := 0) rfl rfl ?_
      refine g_getr (i := 183) (j := 0) (t := 5) (f := 0) (pc := 71) E dX5_paper_71 fl_X5_12 rfl (by decide) (by decide) rfl rfl ?_
      refine g_getr (i := 0) (j := 4) (t := 0) (f := 7) (pc := 74) E dX5_paper_74 fl_X5_100 rfl (by decide) (by decide) rfl rfl ?_
      refine g_iload_n (pc := 77) E dX5_paper_77 (i := 1) rfl rfl ?_
      refine g_iald (q := 8) (pc := 78) E dX5_paper_78 rfl (by omega) (by omega) (hB.f4 _ (by omega) (by omega)) (fun _ _ => ?_)
      refine g_iret (pc := 79) E hr dX5_paper_79 ?_
      subst qs14_1
      exact ⟨by rw [paS, if_neg (by omega), if_neg (by omega), if_pos (by omega)], SC5.rf M⟩
    by_cases qs14_2 : w = 2
    · refine g_tableIn (pc := 14) (tgt := 80) (off := 66) E dX5_paper_14 (by omega) (by omega) (by rw [qs14_2]; rfl) (by decide) ?_
      refine g_aload_n (pc := 80) E dX5_paper_80 (i := 0) rfl rfl ?_
      refine g_getr (i := 183) (j := 0) (t := 5) (f := 0) (pc := 81) E dX5_paper_81 fl_X5_12 rfl (by decide) (by decide) rfl rfl ?_
      refine g_getr (i := 0) (j := 5) (t := 0) (f := 8) (pc := 84) E dX5_paper_84 fl_X5_103 rfl (by decide) (by decide) rfl rfl ?_
      refine g_iload_n (pc := 87) E dX5_paper_87 (i := 1) rfl rfl ?_
      refine g_iald (q := 8) (pc := 88) E dX5_paper_88 rfl (by omega) (by omega) (hB.f5 _ (by omega) (by omega)) (fun _ _ => ?_)
      refine g_iret (pc := 89) E hr dX5_paper_89 ?_
      subst qs14_2
      exact ⟨by rw [paS, if_neg (by omega), if_neg (by omega), if_pos (by omega)], SC5.rf M⟩
    by_cases qs14_3 : w = 3
    · refine g_tableIn (pc := 14) (tgt := 90) (off := 76) E dX5_paper_14 (by omega) (by omega) (by rw [qs14_3]; rfl) (by decide) ?_
      refine g_aload_n (pc := 90) E dX5_paper_90 (i := 0) rfl rfl ?_
      refine g_getr (i := 183) (j := 0) (t := 5) (f := 0) (pc := 91) E dX5_paper_91 fl_X5_12 rfl (by decide) (by decide) rfl rfl ?_
      refine g_iload_n (pc := 94) E dX5_paper_94 (i := 1) rfl rfl ?_
      refine g_callV (pc := 95) (As := [_]) E dX5_paper_95 ml_X5_118 (ct_firstsIn hB hV (by omega) (by omega)) rfl rfl rfl rfl (by decide) (by decide) rfl (Nat.le_of_ble_eq_true rfl) (by decide) (fun x95 M95 hM95 => ?_)
      obtain ⟨rfl, rfl⟩ := hM95
      refine g_iret (pc := 98) E hr dX5_paper_98 ?_
      subst qs14_3
      exact ⟨by rw [paS, if_neg (by omega), if_neg (by omega), if_neg (by omega)], SC5.rf M⟩
    by_cases qs14_4 : w = 4
    · refine g_tableIn (pc := 14) (tgt := 99) (off := 85) E dX5_paper_14 (by omega) (by omega) (by rw [qs14_4]; rfl) (by decide) ?_
      refine g_aload_n (pc := 99) E dX5_paper_99 (i := 0) rfl rfl ?_
      refine g_getr (i := 183) (j := 0) (t := 5) (f := 0) (pc := 100) E dX5_paper_100 fl_X5_12 rfl (by decide) (by decide) rfl rfl ?_
      refine g_iload_n (pc := 103) E dX5_paper_103 (i := 1) rfl rfl ?_
      refine g_callV (pc := 104) (As := [_]) E dX5_paper_104 ml_X5_122 (ct_resitsIn hB hV (by omega) (by omega)) rfl rfl rfl rfl (by decide) (by decide) rfl (Nat.le_of_ble_eq_true rfl) (by decide) (fun x104 M104 hM104 => ?_)
      obtain ⟨rfl, rfl⟩ := hM104
      refine g_iret (pc := 107) E hr dX5_paper_107 ?_
      subst qs14_4
      exact ⟨by rw [paS, if_neg (by omega), if_neg (by omega), if_neg (by omega)], SC5.rf M⟩
    by_cases qs14_5 : w = 5
    · refine g_tableIn (pc := 14) (tgt := 108) (off := 94) E dX5_paper_14 (by omega) (by omega) (by rw [qs14_5]; rfl) (by decide) ?_
      refine g_aload_n (pc := 108) E dX5_paper_108 (i := 0) rfl rfl ?_
      refine g_iload_n (pc := 109) E dX5_paper_109 (i := 1) rfl rfl ?_
      refine g_iconst (pc := 110) E dX5_paper_110 rfl ?_
      refine g_callV (pc := 111) (As := [_, _]) E dX5_paper_111 ml_X5_125 (ct5_studentsWith (v := 1) hB hV (by omega) (by omega) (by omega)) rfl rfl rfl rfl (by decide) (by decide) rfl (Nat.le_of_ble_eq_true rfl) (by decide) (fun x111 M111 hM111 => ?_)
      obtain ⟨rfl, hsc⟩ := hM111
      refine g_iret (pc := 114) E hr dX5_paper_114 ?_
      subst qs14_5
      exact ⟨by rw [paS, if_neg (by omega), if_neg (by omega), if_neg (by omega)]; rfl, hsc⟩
    by_cases qs14_6 : w = 6
    · refine g_tableIn (pc := 14) (tgt := 115) (off := 101) E dX5_paper_14 (by omega) (by omega) (by rw [qs14_6]; rfl) (by decide) ?_
      refine g_aload_n (pc := 115) E dX5_paper_115 (i := 0) rfl rfl ?_
      refine g_iload_n (pc := 116) E dX5_paper_116 (i := 1) rfl rfl ?_
      refine g_iconst (pc := 117) E dX5_paper_117 rfl ?_
      refine g_callV (pc := 118) (As := [_, _]) E dX5_paper_118 ml_X5_125 (ct5_studentsWith (v := 2) hB hV (by omega) (by omega) (by omega)) rfl rfl rfl rfl (by decide) (by decide) rfl (Nat.le_of_ble_eq_true rfl) (by decide) (fun x118 M118 hM118 => ?_)
      obtain ⟨rfl, hsc⟩ := hM118
      refine g_iret (pc := 121) E hr dX5_paper_121 ?_
      subst qs14_6
      exact ⟨by rw [paS, if_neg (by omega), if_neg (by omega), if_neg (by omega)]; rfl, hsc⟩
    by_cases qs14_7 : w = 7
    · refine g_tableIn (pc := 14) (tgt := 122) (off := 108) E dX5_paper_14 (by omega) (by omega) (by rw [qs14_7]; rfl) (by decide) ?_
      refine g_aload_n (pc := 122) E dX5_paper_122 (i := 0) rfl rfl ?_
      refine g_iload_n (pc := 123) E dX5_paper_123 (i := 1) rfl rfl ?_
      refine g_iconst (pc := 124) E dX5_paper_124 rfl ?_
      refine g_callV (pc := 125) (As := [_, _]) E dX5_paper_125 ml_X5_125 (ct5_studentsWith (v := 3) hB hV (by omega) (by omega) (by omega)) rfl rfl rfl rfl (by decide) (by decide) rfl (Nat.le_of_ble_eq_true rfl) (by decide) (fun x125 M125 hM125 => ?_)
      obtain ⟨rfl, hsc⟩ := hM125
      refine g_iret (pc := 128) E hr dX5_paper_128 ?_
      subst qs14_7
      exact ⟨by rw [paS, if_neg (by omega), if_neg (by omega), if_neg (by omega)]; rfl, hsc⟩
    refine g_tableOut (pc := 14) (tgt := 129) E dX5_paper_14 (by omega) (by decide) ?_
    refine g_bipush (pc := 129) E dX5_paper_129 rfl ?_
    refine g_iret (pc := 131) E hr dX5_paper_131 ?_
    exact ⟨by rw [paS, if_neg (by omega), if_pos (by omega)], SC5.rf M⟩
  · replace qh8 := bi_0.mp qh8
    refine g_iconst (pc := 11) E dX5_paper_11 rfl ?_
    refine g_iret (pc := 12) E hr dX5_paper_12 ?_
    exact ⟨by rw [paS, if_pos (by omega)], SC5.rf M⟩

theorem ct5_resitNumber {cx : Cx} {M : Mem} {S : Int → Int} (hB : BD M S) (hV : SOK S) {sn p w : Int} (hs0 : 0 ≤ sn) (hs1 : sn < S 7) (hp0 : 0 ≤ p) (hp1 : p < S 6) (hf : ¬ S (57 + 3 * (8 * sn + p)) = 0) (hw : w = 3 ∨ w = 4) : Ct cx yX5_resitNumber cX5_resitNumber 4 (some .int) 4 0 0 [rf cx 183, .int (oi sn), .int (oi p), .int (oi w)] M (fun rz M' => atS S sn p w = rz ∧ M = M') := by
  refine ct_intro cd_X5_resitNumber (by decide +kernel) (Nat.le_of_ble_eq_true rfl) rfl (fun Pg Lc Ev s m args below meth c E hr => ?_)
  refine g_ent (ls' := [some (rf cx 183), some (.int (oi sn)), some (.int (oi p)), some (.int (oi w))]) rfl ?_
  have hV0 := hV.1
  have hB0 := hB.c0
  have hB1 := hB.c1
  have hB2 := hB.c2
  have hB3 := hB.c3
  have hVp := hV.2.2.1 p (by omega) (by omega)
  have hVa := hV.2.2.2.2.1 sn p (by omega) (by omega) (by omega) (by omega)
  have hVs := hV.2.2.2.1 sn (by omega) (by omega)
  refine g_aload_n (pc := 0) E dX5_resitNumber_0 (i := 0) rfl rfl ?_
  refine g_getr (i := 183) (j := 0) (t := 5) (f := 0) (pc := 1) E dX5_resitNumber_1 fl_X5_12 rfl (by decide) (by decide) rfl rfl ?_
  refine g_iload_n (pc := 4) E dX5_resitNumber_4 (i := 1) rfl rfl ?_
  refine g_iload_n (pc := 5) E dX5_resitNumber_5 (i := 2) rfl rfl ?_
  refine g_callV (pc := 6) (As := [_, _]) E dX5_resitNumber_6 ml_X5_153 (ct_hasResit hB hV (by omega) (by omega) (by omega) (by omega)) rfl rfl rfl rfl (by decide) (by decide) rfl (Nat.le_of_ble_eq_true rfl) (by decide) (fun x6 M6 hM6 => ?_)
  obtain ⟨rfl, rfl⟩ := hM6
  refine g_if_ne (pc := 9) (tgt := 15) E dX5_resitNumber_9 (by decide) (fun qh9 => ?_) (fun qh9 => ?_) (Int.le_trans (by decide) (bi_R _).1) (Int.le_trans (bi_R _).2 (by decide))
  · replace qh9 := bi_n.mp qh9
    refine g_iload_n (pc := 15) E dX5_resitNumber_15 (i := 3) rfl rfl ?_
    refine g_iconst (pc := 16) E dX5_resitNumber_16 rfl ?_
    refine g_icmp_ne (pc := 17) (tgt := 37) E dX5_resitNumber_17 (by decide) (fun qh17 => ?_) (fun qh17 => ?_) 
    · refine g_aload_n (pc := 37) E dX5_resitNumber_37 (i := 0) rfl rfl ?_
      refine g_getr (i := 183) (j := 0) (t := 5) (f := 0) (pc := 38) E dX5_resitNumber_38 fl_X5_12 rfl (by decide) (by decide) rfl rfl ?_
      refine g_iload_n (pc := 41) E dX5_resitNumber_41 (i := 1) rfl rfl ?_
      refine g_iload_n (pc := 42) E dX5_resitNumber_42 (i := 2) rfl rfl ?_
      refine g_callV (pc := 43) (As := [_, _]) E dX5_resitNumber_43 ml_X5_150 (ct_resitWorth hB hV (by omega) (by omega) (by omega) (by omega) (by omega)) rfl rfl rfl rfl (by decide) (by decide) rfl (Nat.le_of_ble_eq_true rfl) (by decide) (fun x43 M43 hM43 => ?_)
      obtain ⟨rfl, rfl⟩ := hM43
      refine g_iret (pc := 46) E hr dX5_resitNumber_46 ?_
      exact ⟨by rw [atS, if_neg (by omega), if_neg (by omega), if_neg (by omega), if_neg (by omega), if_neg (by omega), if_neg (by omega), if_neg (by omega), if_pos (by omega)], rfl⟩
    · refine g_aload_n (pc := 20) E dX5_resitNumber_20 (i := 0) rfl rfl ?_
      refine g_getr (i := 183) (j := 0) (t := 5) (f := 0) (pc := 21) E dX5_resitNumber_21 fl_X5_12 rfl (by decide) (by decide) rfl rfl ?_
      refine g_getr (i := 0) (j := 9) (t := 0) (f := 12) (pc := 24) E dX5_resitNumber_24 fl_X5_188 rfl (by decide) (by decide) rfl rfl ?_
      refine g_iload_n (pc := 27) E dX5_resitNumber_27 (i := 1) rfl rfl ?_
      refine g_bipush (pc := 28) E dX5_resitNumber_28 rfl ?_
      refine g_imul (pc := 30) E dX5_resitNumber_30 ?_
      refine g_iload_n (pc := 31) E dX5_resitNumber_31 (i := 2) rfl rfl ?_
      refine g_iadd (pc := 32) E dX5_resitNumber_32 ?_
      refine g_iald (q := 160) (pc := 33) E dX5_resitNumber_33 rfl (by omega) (by omega) (hB.f9 (by omega) (by omega) (by omega) (by omega)) (fun _ _ => ?_)
      refine g_goto (pc := 34) (tgt := 46) E dX5_resitNumber_34 (by decide) ?_
      refine g_iret (pc := 46) E hr dX5_resitNumber_46 ?_
      exact ⟨by rw [atS, if_neg (by omega), if_neg (by omega), if_neg (by omega), if_neg (by omega), if_neg (by omega), if_neg (by omega), if_pos (by omega)], rfl⟩
  · replace qh9 := bi_0.mp qh9
    refine g_bipush (pc := 12) E dX5_resitNumber_12 rfl ?_
    refine g_iret (pc := 14) E hr dX5_resitNumber_14 ?_
    exact ⟨by rw [atS, if_neg (by omega), if_neg (by omega), if_pos (by omega)], rfl⟩

theorem ct5_firstNumber {cx : Cx} {M : Mem} {S : Int → Int} (hB : BD M S) (hV : SOK S) {sn p w : Int} (hs0 : 0 ≤ sn) (hs1 : sn < S 7) (hp0 : 0 ≤ p) (hp1 : p < S 6) (hf : ¬ S (57 + 3 * (8 * sn + p)) = 0) (hw : 0 ≤ w ∧ w ≤ 7 ∧ ¬ w = 3 ∧ ¬ w = 4) : Ct cx yX5_firstNumber cX5_firstNumber 5 (some .int) 6 0 0 [rf cx 183, .int (oi sn), .int (oi p), .int (oi w)] M (fun rz M' => atS S sn p w = rz ∧ SC5 M M') := by
  refine ct_intro cd_X5_firstNumber (by decide +kernel) (Nat.le_of_ble_eq_true rfl) rfl (fun Pg Lc Ev s m args below meth c E hr => ?_)
  refine g_ent (ls' := [some (rf cx 183), some (.int (oi sn)), some (.int (oi p)), some (.int (oi w)), none]) rfl ?_
  have hV0 := hV.1
  have hB0 := hB.c0
  have hB1 := hB.c1
  have hB2 := hB.c2
  have hB3 := hB.c3
  have hVp := hV.2.2.1 p (by omega) (by omega)
  have hVa := hV.2.2.2.2.1 sn p (by omega) (by omega) (by omega) (by omega)
  have hVs := hV.2.2.2.1 sn (by omega) (by omega)
  refine g_iload_n (pc := 0) E dX5_firstNumber_0 (i := 1) rfl rfl ?_
  refine g_bipush (pc := 1) E dX5_firstNumber_1 rfl ?_
  refine g_imul (pc := 3) E dX5_firstNumber_3 ?_
  refine g_iload_n (pc := 4) E dX5_firstNumber_4 (i := 2) rfl rfl ?_
  refine g_iadd (pc := 5) E dX5_firstNumber_5 ?_
  refine g_istore (pc := 6) E dX5_firstNumber_6 (ls' := [_, _, _, _, _]) (Nat.le_of_ble_eq_true rfl) rfl ?_
  refine g_iload_n (pc := 8) E dX5_firstNumber_8 (i := 3) rfl rfl ?_
  by_cases qs9_0 : w = 0
  · refine g_tableIn (pc := 9) (tgt := 52) (off := 43) E dX5_firstNumber_9 (by omega) (by omega) (by rw [qs9_0]; rfl) (by decide) ?_
    refine g_aload_n (pc := 52) E dX5_firstNumber_52 (i := 0) rfl rfl ?_
    refine g_getr (i := 183) (j := 0) (t := 5) (f := 0) (pc := 53) E dX5_firstNumber_53 fl_X5_12 rfl (by decide) (by decide) rfl rfl ?_
    refine g_getr (i := 0) (j := 7) (t := 0) (f := 10) (pc := 56) E dX5_firstNumber_56 fl_X5_176 rfl (by decide) (by decide) rfl rfl ?_
    refine g_iload (pc := 59) E dX5_firstNumber_59 rfl ?_
    refine g_iald (q := 160) (pc := 61) E dX5_firstNumber_61 rfl (by omega) (by omega) (hB.f7 (by omega) (by omega) (by omega) (by omega)) (fun _ _ => ?_)
    refine g_iconst (pc := 62) E dX5_firstNumber_62 rfl ?_
    refine g_icmp_ne (pc := 63) (tgt := 79) E dX5_firstNumber_63 (by decide) (fun qh63 => ?_) (fun qh63 => ?_) 
    · refine g_bipush (pc := 79) E dX5_firstNumber_79 rfl ?_
      refine g_iret (pc := 81) E hr dX5_firstNumber_81 ?_
      exact ⟨by rw [atS, if_neg (by omega), if_neg (by omega), if_neg (by omega), if_pos (by omega), if_neg (by omega)], SC5.rf M⟩
    · refine g_aload_n (pc := 66) E dX5_firstNumber_66 (i := 0) rfl rfl ?_
      refine g_getr (i := 183) (j := 0) (t := 5) (f := 0) (pc := 67) E dX5_firstNumber_67 fl_X5_12 rfl (by decide) (by decide) rfl rfl ?_
      refine g_getr (i := 0) (j := 8) (t := 0) (f := 11) (pc := 70) E dX5_firstNumber_70 fl_X5_179 rfl (by decide) (by decide) rfl rfl ?_
      refine g_iload (pc := 73) E dX5_firstNumber_73 rfl ?_
      refine g_iald (q := 160) (pc := 75) E dX5_firstNumber_75 rfl (by omega) (by omega) (hB.f8 (by omega) (by omega) (by omega) (by omega)) (fun _ _ => ?_)
      refine g_goto (pc := 76) (tgt := 81) E dX5_firstNumber_76 (by decide) ?_
      refine g_iret (pc := 81) E hr dX5_firstNumber_81 ?_
      exact ⟨by rw [atS, if_neg (by omega), if_neg (by omega), if_neg (by omega), if_pos (by omega), if_pos (by omega)], SC5.rf M⟩
  by_cases qs9_1 : w = 1
  · refine g_tableIn (pc := 9) (tgt := 82) (off := 73) E dX5_firstNumber_9 (by omega) (by omega) (by rw [qs9_1]; rfl) (by decide) ?_
    have efs : fstS S sn p = pcS S p (S (57 + 3 * (8 * sn + p) + 1)) := by
      unfold fstS
      split
      · rfl
      · rw [show S (57 + 3 * (8 * sn + p) + 1) = 0 by omega, pcS, nrs]; rw [show 2 * (100 * 0) + S (13 + 3 * p + 2) = S (13 + 3 * p + 2) by omega]; exact (Int.ediv_eq_zero_of_lt (by omega) (by omega)).symm
    refine g_aload_n (pc := 82) E dX5_firstNumber_82 (i := 0) rfl rfl ?_
    refine g_getr (i := 183) (j := 0) (t := 5) (f := 0) (pc := 83) E dX5_firstNumber_83 fl_X5_12 rfl (by decide) (by decide) rfl rfl ?_
    refine g_iload_n (pc := 86) E dX5_firstNumber_86 (i := 2) rfl rfl ?_
    refine g_aload_n (pc := 87) E dX5_firstNumber_87 (i := 0) rfl rfl ?_
    refine g_getr (i := 183) (j := 0) (t := 5) (f := 0) (pc := 88) E dX5_firstNumber_88 fl_X5_12 rfl (by decide) (by decide) rfl rfl ?_
    refine g_getr (i := 0) (j := 8) (t := 0) (f := 11) (pc := 91) E dX5_firstNumber_91 fl_X5_179 rfl (by decide) (by decide) rfl rfl ?_
    refine g_iload (pc := 94) E dX5_firstNumber_94 rfl ?_
    refine g_iald (q := 160) (pc := 96) E dX5_firstNumber_96 rfl (by omega) (by omega) (hB.f8 (by omega) (by omega) (by omega) (by omega)) (fun _ _ => ?_)
    refine g_callV (pc := 97) (As := [_, _]) E dX5_firstNumber_97 ml_X5_144 (ct_percent0 hB hV (by omega) (by omega) (by omega) (by omega)) rfl rfl rfl rfl (by decide) (by decide) rfl (Nat.le_of_ble_eq_true rfl) (by decide) (fun x97 M97 hM97 => ?_)
    obtain ⟨rfl, rfl⟩ := hM97
    refine g_iret (pc := 100) E hr dX5_firstNumber_100 ?_
    exact ⟨by rw [atS, if_neg (by omega), if_neg (by omega), if_neg (by omega), if_neg (by omega), if_pos (by omega), efs], SC5.rf M⟩
  by_cases qs9_2 : w = 2
  · refine g_tableIn (pc := 9) (tgt := 101) (off := 92) E dX5_firstNumber_9 (by omega) (by omega) (by rw [qs9_2]; rfl) (by decide) ?_
    refine g_aload_n (pc := 101) E dX5_firstNumber_101 (i := 0) rfl rfl ?_
    refine g_getr (i := 183) (j := 0) (t := 5) (f := 0) (pc := 102) E dX5_firstNumber_102 fl_X5_12 rfl (by decide) (by decide) rfl rfl ?_
    refine g_iload_n (pc := 105) E dX5_firstNumber_105 (i := 1) rfl rfl ?_
    refine g_iload_n (pc := 106) E dX5_firstNumber_106 (i := 2) rfl rfl ?_
    refine g_callV (pc := 107) (As := [_, _]) E dX5_firstNumber_107 ml_X5_182 (ct_firstScaled hB hV (by omega) (by omega) (by omega) (by omega)) rfl rfl rfl rfl (by decide) (by decide) rfl (Nat.le_of_ble_eq_true rfl) (by decide) (fun x107 M107 hM107 => ?_)
    obtain ⟨rfl, rfl⟩ := hM107
    refine g_iret (pc := 110) E hr dX5_firstNumber_110 ?_
    exact ⟨by rw [atS, if_neg (by omega), if_neg (by omega), if_neg (by omega), if_neg (by omega), if_neg (by omega), if_pos (by omega)], SC5.rf M⟩
  by_cases qs9_5 : w = 5
  · refine g_tableIn (pc := 9) (tgt := 111) (off := 102) E dX5_firstNumber_9 (by omega) (by omega) (by rw [qs9_5]; rfl) (by decide) ?_
    refine g_aload_n (pc := 111) E dX5_firstNumber_111 (i := 0) rfl rfl ?_
    refine g_getr (i := 183) (j := 0) (t := 5) (f := 0) (pc := 112) E dX5_firstNumber_112 fl_X5_12 rfl (by decide) (by decide) rfl rfl ?_
    refine g_iload_n (pc := 115) E dX5_firstNumber_115 (i := 1) rfl rfl ?_
    refine g_iload_n (pc := 116) E dX5_firstNumber_116 (i := 2) rfl rfl ?_
    refine g_callV (pc := 117) (As := [_, _]) E dX5_firstNumber_117 ml_X5_185 (ct_finalMark hB hV (by omega) (by omega) (by omega) (by omega)) rfl rfl rfl rfl (by decide) (by decide) rfl (Nat.le_of_ble_eq_true rfl) (by decide) (fun x117 M117 hM117 => ?_)
    obtain ⟨rfl, rfl⟩ := hM117
    refine g_iret (pc := 120) E hr dX5_firstNumber_120 ?_
    exact ⟨by rw [atS, if_neg (by omega), if_neg (by omega), if_neg (by omega), if_neg (by omega), if_neg (by omega), if_neg (by omega), if_neg (by omega), if_neg (by omega), if_pos (by omega)], SC5.rf M⟩
  by_cases qs9_6 : w = 6
  · refine g_tableIn (pc := 9) (tgt := 121) (off := 112) E dX5_firstNumber_9 (by omega) (by omega) (by rw [qs9_6]; rfl) (by decide) ?_
    refine g_aload_n (pc := 121) E dX5_firstNumber_121 (i := 0) rfl rfl ?_
    refine g_getr (i := 183) (j := 167) (t := 5) (f := 4) (pc := 122) E dX5_firstNumber_122 fl_X5_33 rfl (by decide) (by decide) rfl rfl ?_
    refine g_aload_n (pc := 125) E dX5_firstNumber_125 (i := 0) rfl rfl ?_
    refine g_getr (i := 183) (j := 0) (t := 5) (f := 0) (pc := 126) E dX5_firstNumber_126 fl_X5_12 rfl (by decide) (by decide) rfl rfl ?_
    refine g_iload_n (pc := 129) E dX5_firstNumber_129 (i := 1) rfl rfl ?_
    refine g_callVv (pc := 130) (As := [_, _]) E dX5_firstNumber_130 ml_X5_129 (cv_assess hB hV (by omega) (by omega)) rfl rfl rfl rfl (by decide) (by decide) rfl (Nat.le_of_ble_eq_true rfl) (by decide) (fun M130 hM130 => ?_)
    have hB130 := hM130.b hB
    refine g_aload_n (pc := 133) E dX5_firstNumber_133 (i := 0) rfl rfl ?_
    refine g_getr (i := 183) (j := 167) (t := 5) (f := 4) (pc := 134) E dX5_firstNumber_134 fl_X5_33 rfl (by decide) (by decide) rfl rfl ?_
    refine g_getr (i := 167) (j := 169) (t := 4) (f := 1) (pc := 137) E dX5_firstNumber_137 fl_X5_133 rfl (by decide) (by decide) rfl rfl ?_
    refine g_iload_n (pc := 140) E dX5_firstNumber_140 (i := 2) rfl rfl ?_
    refine g_iald (pc := 141) E dX5_firstNumber_141 rfl (by omega) (by omega) (hM130.st p (by omega) (by omega)) (fun _ _ => ?_)
    refine g_iret (pc := 142) E hr dX5_firstNumber_142 ?_
    exact ⟨by rw [atS, if_neg (by omega), if_neg (by omega), if_neg (by omega), if_neg (by omega), if_neg (by omega), if_neg (by omega), if_neg (by omega), if_neg (by omega), if_neg (by omega), if_pos (by omega)], hM130.sc⟩
  refine g_tableOut (pc := 9) (tgt := 143) E dX5_firstNumber_9 (by omega) (by decide) ?_
  refine g_aload_n (pc := 143) E dX5_firstNumber_143 (i := 0) rfl rfl ?_
  refine g_getr (i := 183) (j := 0) (t := 5) (f := 0) (pc := 144) E dX5_firstNumber_144 fl_X5_12 rfl (by decide) (by decide) rfl rfl ?_
  refine g_getr (i := 0) (j := 7) (t := 0) (f := 10) (pc := 147) E dX5_firstNumber_147 fl_X5_176 rfl (by decide) (by decide) rfl rfl ?_
  refine g_iload (pc := 150) E dX5_firstNumber_150 rfl ?_
  refine g_iald (q := 160) (pc := 152) E dX5_firstNumber_152 rfl (by omega) (by omega) (hB.f7 (by omega) (by omega) (by omega) (by omega)) (fun _ _ => ?_)
  refine g_iconst (pc := 153) E dX5_firstNumber_153 rfl ?_
  refine g_isub (pc := 154) E dX5_firstNumber_154 ?_
  refine g_iret (pc := 155) E hr dX5_firstNumber_155 ?_
  exact ⟨by rw [atS, if_neg (by omega), if_neg (by omega), if_neg (by omega), if_neg (by omega), if_neg (by omega), if_neg (by omega), if_neg (by omega), if_neg (by omega), if_neg (by omega), if_neg (by omega)], SC5.rf M⟩

theorem ct5_attempt {cx : Cx} {M : Mem} {S : Int → Int} (hB : BD M S) (hV : SOK S) {sn p w : Int} (hsn : -2147483648 ≤ sn ∧ sn ≤ 2147483647) (hp : -2147483648 ≤ p ∧ p ≤ 2147483647) (hw : -2147483648 ≤ w ∧ w ≤ 2147483647) : Ct cx yX5_attempt cX5_attempt 4 (some .int) 7 0 0 [rf cx 183, .int (oi sn), .int (oi p), .int (oi w)] M (fun rz M' => atS S sn p w = rz ∧ SC5 M M') := by
  refine ct_intro cd_X5_attempt (by decide +kernel) (Nat.le_of_ble_eq_true rfl) rfl (fun Pg Lc Ev s m args below meth c E hr => ?_)
  refine g_ent (ls' := [some (rf cx 183), some (.int (oi sn)), some (.int (oi p)), some (.int (oi w))]) rfl ?_
  have hV0 := hV.1
  have hB0 := hB.c0
  have hB1 := hB.c1
  have hB2 := hB.c2
  have hB3 := hB.c3
  refine g_aload_n (pc := 0) E dX5_attempt_0 (i := 0) rfl rfl ?_
  refine g_getr (i := 183) (j := 0) (t := 5) (f := 0) (pc := 1) E dX5_attempt_1 fl_X5_12 rfl (by decide) (by decide) rfl rfl ?_
  refine g_iload_n (pc := 4) E dX5_attempt_4 (i := 1) rfl rfl ?_
  refine g_callV (pc := 5) (As := [_]) E dX5_attempt_5 ml_X5_164 (ct_hasStudent hB hV (by omega)) rfl rfl rfl rfl (by decide) (by decide) rfl (Nat.le_of_ble_eq_true rfl) (by decide) (fun x5 M5 hM5 => ?_)
  obtain ⟨rfl, rfl⟩ := hM5
  refine g_if_eq (pc := 8) (tgt := 22) E dX5_attempt_8 (by decide) (fun qh8 => ?_) (fun qh8 => ?_) (Int.le_trans (by decide) (bi_R _).1) (Int.le_trans (bi_R _).2 (by decide))
  · replace qh8 := bi_0.mp qh8
    refine g_iconst (pc := 22) E dX5_attempt_22 rfl ?_
    refine g_iret (pc := 23) E hr dX5_attempt_23 ?_
    exact ⟨by rw [atS, if_pos (by omega)], SC5.rf M⟩
  · replace qh8 := bi_n.mp qh8
    refine g_aload_n (pc := 11) E dX5_attempt_11 (i := 0) rfl rfl ?_
    refine g_getr (i := 183) (j := 0) (t := 5) (f := 0) (pc := 12) E dX5_attempt_12 fl_X5_12 rfl (by decide) (by decide) rfl rfl ?_
    refine g_iload_n (pc := 15) E dX5_attempt_15 (i := 2) rfl rfl ?_
    refine g_callV (pc := 16) (As := [_]) E dX5_attempt_16 ml_X5_115 (ct_hasPaper hB hV (by omega)) rfl rfl rfl rfl (by decide) (by decide) rfl (Nat.le_of_ble_eq_true rfl) (by decide) (fun x16 M16 hM16 => ?_)
    obtain ⟨rfl, rfl⟩ := hM16
    refine g_if_ne (pc := 19) (tgt := 24) E dX5_attempt_19 (by decide) (fun qh19 => ?_) (fun qh19 => ?_) (Int.le_trans (by decide) (bi_R _).1) (Int.le_trans (bi_R _).2 (by decide))
    · replace qh19 := bi_n.mp qh19
      refine g_iload_n (pc := 24) E dX5_attempt_24 (i := 3) rfl rfl ?_
      refine g_iconst (pc := 25) E dX5_attempt_25 rfl ?_
      refine g_bipush (pc := 26) E dX5_attempt_26 rfl ?_
      refine g_callS (pc := 28) (As := [_, _, _]) E dX5_attempt_28 ml_X5_80 (ct_isWithin (by omega) (by omega) (by omega)) rfl rfl (by decide) (by decide) rfl (Nat.le_of_ble_eq_true rfl) (by decide) (fun x28 M28 hM28 => ?_)
      obtain ⟨rfl, rfl⟩ := hM28
      refine g_if_ne (pc := 31) (tgt := 37) E dX5_attempt_31 (by decide) (fun qh31 => ?_) (fun qh31 => ?_) (Int.le_trans (by decide) (bi_R _).1) (Int.le_trans (bi_R _).2 (by decide))
      · replace qh31 := bi_n.mp qh31
        refine g_aload_n (pc := 37) E dX5_attempt_37 (i := 0) rfl rfl ?_
        refine g_getr (i := 183) (j := 0) (t := 5) (f := 0) (pc := 38) E dX5_attempt_38 fl_X5_12 rfl (by decide) (by decide) rfl rfl ?_
        refine g_iload_n (pc := 41) E dX5_attempt_41 (i := 1) rfl rfl ?_
        refine g_iload_n (pc := 42) E dX5_attempt_42 (i := 2) rfl rfl ?_
        refine g_callV (pc := 43) (As := [_, _]) E dX5_attempt_43 ml_X5_167 (ct_hasFirst hB hV (by omega) (by omega) (by omega) (by omega)) rfl rfl rfl rfl (by decide) (by decide) rfl (Nat.le_of_ble_eq_true rfl) (by decide) (fun x43 M43 hM43 => ?_)
        obtain ⟨rfl, rfl⟩ := hM43
        refine g_if_ne (pc := 46) (tgt := 52) E dX5_attempt_46 (by decide) (fun qh46 => ?_) (fun qh46 => ?_) (Int.le_trans (by decide) (bi_R _).1) (Int.le_trans (bi_R _).2 (by decide))
        · replace qh46 := bi_n.mp qh46
          refine g_iload_n (pc := 52) E dX5_attempt_52 (i := 3) rfl rfl ?_
          refine g_iconst (pc := 53) E dX5_attempt_53 rfl ?_
          refine g_icmp_eq (pc := 54) (tgt := 62) E dX5_attempt_54 (by decide) (fun qh54 => ?_) (fun qh54 => ?_) 
          · refine g_aload_n (pc := 62) E dX5_attempt_62 (i := 0) rfl rfl ?_
            refine g_iload_n (pc := 63) E dX5_attempt_63 (i := 1) rfl rfl ?_
            refine g_iload_n (pc := 64) E dX5_attempt_64 (i := 2) rfl rfl ?_
            refine g_iload_n (pc := 65) E dX5_attempt_65 (i := 3) rfl rfl ?_
            refine g_callV (pc := 66) (As := [_, _, _]) E dX5_attempt_66 ml_X5_170 (ct5_resitNumber hB hV (by omega) (by omega) (by omega) (by omega) (by omega) (by omega)) rfl rfl rfl rfl (by decide) (by decide) rfl (Nat.le_of_ble_eq_true rfl) (by decide) (fun x66 M66 hM66 => ?_)
            obtain ⟨rfl, rfl⟩ := hM66
            refine g_iret (pc := 69) E hr dX5_attempt_69 ?_
            exact ⟨rfl, SC5.rf M⟩
          · refine g_iload_n (pc := 57) E dX5_attempt_57 (i := 3) rfl rfl ?_
            refine g_iconst (pc := 58) E dX5_attempt_58 rfl ?_
            refine g_icmp_ne (pc := 59) (tgt := 70) E dX5_attempt_59 (by decide) (fun qh59 => ?_) (fun qh59 => ?_) 
            · refine g_aload_n (pc := 70) E dX5_attempt_70 (i := 0) rfl rfl ?_
              refine g_iload_n (pc := 71) E dX5_attempt_71 (i := 1) rfl rfl ?_
              refine g_iload_n (pc := 72) E dX5_attempt_72 (i := 2) rfl rfl ?_
              refine g_iload_n (pc := 73) E dX5_attempt_73 (i := 3) rfl rfl ?_
              refine g_callV (pc := 74) (As := [_, _, _]) E dX5_attempt_74 ml_X5_173 (ct5_firstNumber hB hV (by omega) (by omega) (by omega) (by omega) (by omega) (by omega)) rfl rfl rfl rfl (by decide) (by decide) rfl (Nat.le_of_ble_eq_true rfl) (by decide) (fun x74 M74 hM74 => ?_)
              obtain ⟨rfl, hsc⟩ := hM74
              refine g_iret (pc := 77) E hr dX5_attempt_77 ?_
              exact ⟨rfl, hsc⟩
            · refine g_aload_n (pc := 62) E dX5_attempt_62 (i := 0) rfl rfl ?_
              refine g_iload_n (pc := 63) E dX5_attempt_63 (i := 1) rfl rfl ?_
              refine g_iload_n (pc := 64) E dX5_attempt_64 (i := 2) rfl rfl ?_
              refine g_iload_n (pc := 65) E dX5_attempt_65 (i := 3) rfl rfl ?_
              refine g_callV (pc := 66) (As := [_, _, _]) E dX5_attempt_66 ml_X5_170 (ct5_resitNumber hB hV (by omega) (by omega) (by omega) (by omega) (by omega) (by omega)) rfl rfl rfl rfl (by decide) (by decide) rfl (Nat.le_of_ble_eq_true rfl) (by decide) (fun x66 M66 hM66 => ?_)
              obtain ⟨rfl, rfl⟩ := hM66
              refine g_iret (pc := 69) E hr dX5_attempt_69 ?_
              exact ⟨rfl, SC5.rf M⟩
        · replace qh46 := bi_0.mp qh46
          refine g_bipush (pc := 49) E dX5_attempt_49 rfl ?_
          refine g_iret (pc := 51) E hr dX5_attempt_51 ?_
          exact ⟨by rw [atS, if_neg (by omega), if_neg (by omega), if_pos (by omega)], SC5.rf M⟩
      · replace qh31 := bi_0.mp qh31
        refine g_bipush (pc := 34) E dX5_attempt_34 rfl ?_
        refine g_iret (pc := 36) E hr dX5_attempt_36 ?_
        exact ⟨by rw [atS, if_neg (by omega), if_pos (by omega)], SC5.rf M⟩
    · replace qh19 := bi_0.mp qh19
      refine g_iconst (pc := 22) E dX5_attempt_22 rfl ?_
      refine g_iret (pc := 23) E hr dX5_attempt_23 ?_
      exact ⟨by rw [atS, if_pos (by omega)], SC5.rf M⟩

theorem ct5_entered {cx : Cx} {M : Mem} {S : Int → Int} (hB : BD M S) (hV : SOK S) (hI : SI S) {i w : Int} (hi : -2147483648 ≤ i ∧ i ≤ 2147483647) (hw : -2147483648 ≤ w ∧ w ≤ 2147483647) : Ct cx yX5_entered cX5_entered 5 (some .int) 5 0 0 [rf cx 183, .int (oi i), .int (oi w)] M (fun rz M' => etS S i w = rz ∧ SC5 M M') := by
  refine ct_intro cd_X5_entered (by decide +kernel) (Nat.le_of_ble_eq_true rfl) rfl (fun Pg Lc Ev s m args below meth c E hr => ?_)
  refine g_ent (ls' := [some (rf cx 183), some (.int (oi i)), some (.int (oi w)), none, none]) rfl ?_
  have hV0 := hV.1
  have hB0 := hB.c0
  have hB1 := hB.c1
  have hB2 := hB.c2
  have hB3 := hB.c3
  refine g_iload_n (pc := 0) E dX5_entered_0 (i := 1) rfl rfl ?_
  refine g_if_lt (pc := 1) (tgt := 15) E dX5_entered_1 (by decide) (fun qh1 => ?_) (fun qh1 => ?_) 
  · refine g_iconst (pc := 15) E dX5_entered_15 rfl ?_
    refine g_iret (pc := 16) E hr dX5_entered_16 ?_
    exact ⟨by rw [etS, if_pos (by omega)], SC5.rf M⟩
  · refine g_iload_n (pc := 4) E dX5_entered_4 (i := 1) rfl rfl ?_
    refine g_aload_n (pc := 5) E dX5_entered_5 (i := 0) rfl rfl ?_
    refine g_getr (i := 183) (j := 0) (t := 5) (f := 0) (pc := 6) E dX5_entered_6 fl_X5_12 rfl (by decide) (by decide) rfl rfl ?_
    refine g_geti (i := 0) (t := 0) (f := 3) (fz := 3) (pc := 9) E dX5_entered_9 fl_X5_191 rfl (by decide) (by decide) rfl rfl hB.c3 (fun _ _ => ?_)
    refine g_icmp_lt (pc := 12) (tgt := 17) E dX5_entered_12 (by decide) (fun qh12 => ?_) (fun qh12 => ?_) 
    · have hoj := hI.1.2.1 i (by omega) (by omega)
      refine g_aload_n (pc := 17) E dX5_entered_17 (i := 0) rfl rfl ?_
      refine g_getr (i := 183) (j := 0) (t := 5) (f := 0) (pc := 18) E dX5_entered_18 fl_X5_12 rfl (by decide) (by decide) rfl rfl ?_
      refine g_getr (i := 0) (j := 10) (t := 0) (f := 13) (pc := 21) E dX5_entered_21 fl_X5_194 rfl (by decide) (by decide) rfl rfl ?_
      refine g_iload_n (pc := 24) E dX5_entered_24 (i := 1) rfl rfl ?_
      refine g_iald (q := 160) (pc := 25) E dX5_entered_25 rfl (by omega) (by omega) (hB.f10 _ (by omega) (by omega)) (fun _ _ => ?_)
      refine g_bipush (pc := 26) E dX5_entered_26 rfl ?_
      refine g_idiv (pc := 28) E dX5_entered_28 (by omega) (by omega) (by omega) (by omega) ?_
      refine g_istore_n (pc := 29) E dX5_entered_29 (i := 3) (ls' := [_, _, _, _, _]) rfl (Nat.le_of_ble_eq_true rfl) rfl ?_
      refine g_aload_n (pc := 30) E dX5_entered_30 (i := 0) rfl rfl ?_
      refine g_getr (i := 183) (j := 0) (t := 5) (f := 0) (pc := 31) E dX5_entered_31 fl_X5_12 rfl (by decide) (by decide) rfl rfl ?_
      refine g_getr (i := 0) (j := 10) (t := 0) (f := 13) (pc := 34) E dX5_entered_34 fl_X5_194 rfl (by decide) (by decide) rfl rfl ?_
      refine g_iload_n (pc := 37) E dX5_entered_37 (i := 1) rfl rfl ?_
      refine g_iald (q := 160) (pc := 38) E dX5_entered_38 rfl (by omega) (by omega) (hB.f10 _ (by omega) (by omega)) (fun _ _ => ?_)
      refine g_bipush (pc := 39) E dX5_entered_39 rfl ?_
      refine g_irem (pc := 41) E dX5_entered_41 (by omega) (by omega) (by omega) (by omega) ?_
      refine g_istore (pc := 42) E dX5_entered_42 (ls' := [_, _, _, _, _]) (Nat.le_of_ble_eq_true rfl) rfl ?_
      refine g_iload_n (pc := 44) E dX5_entered_44 (i := 2) rfl rfl ?_
      by_cases qs45_0 : w = 0
      · refine g_tableIn (pc := 45) (tgt := 72) (off := 27) E dX5_entered_45 (by omega) (by omega) (by rw [qs45_0]; rfl) (by decide) ?_
        refine g_iload_n (pc := 72) E dX5_entered_72 (i := 3) rfl rfl ?_
        refine g_iret (pc := 73) E hr dX5_entered_73 ?_
        exact ⟨by rw [etS, if_neg (by omega), if_pos (by omega)], SC5.rf M⟩
      by_cases qs45_1 : w = 1
      · refine g_tableIn (pc := 45) (tgt := 74) (off := 29) E dX5_entered_45 (by omega) (by omega) (by rw [qs45_1]; rfl) (by decide) ?_
        refine g_iload (pc := 74) E dX5_entered_74 rfl ?_
        refine g_iret (pc := 76) E hr dX5_entered_76 ?_
        exact ⟨by rw [etS, if_neg (by omega), if_neg (by omega), if_pos (by omega)], SC5.rf M⟩
      by_cases qs45_2 : w = 2
      · refine g_tableIn (pc := 45) (tgt := 77) (off := 32) E dX5_entered_45 (by omega) (by omega) (by rw [qs45_2]; rfl) (by decide) ?_
        refine g_aload_n (pc := 77) E dX5_entered_77 (i := 0) rfl rfl ?_
        refine g_getr (i := 183) (j := 0) (t := 5) (f := 0) (pc := 78) E dX5_entered_78 fl_X5_12 rfl (by decide) (by decide) rfl rfl ?_
        refine g_iload_n (pc := 81) E dX5_entered_81 (i := 3) rfl rfl ?_
        refine g_iload (pc := 82) E dX5_entered_82 rfl ?_
        refine g_callV (pc := 84) (As := [_, _]) E dX5_entered_84 ml_X5_185 (ct_finalMark hB hV (by omega) (by omega) (by omega) (by omega)) rfl rfl rfl rfl (by decide) (by decide) rfl (Nat.le_of_ble_eq_true rfl) (by decide) (fun x84 M84 hM84 => ?_)
        obtain ⟨rfl, rfl⟩ := hM84
        refine g_iret (pc := 87) E hr dX5_entered_87 ?_
        exact ⟨by rw [etS, if_neg (by omega), if_neg (by omega), if_neg (by omega), if_pos (by omega)], SC5.rf M⟩
      refine g_tableOut (pc := 45) (tgt := 88) E dX5_entered_45 (by omega) (by decide) ?_
      refine g_bipush (pc := 88) E dX5_entered_88 rfl ?_
      refine g_iret (pc := 90) E hr dX5_entered_90 ?_
      exact ⟨by rw [etS, if_neg (by omega), if_neg (by omega), if_neg (by omega), if_neg (by omega)], SC5.rf M⟩
    · refine g_iconst (pc := 15) E dX5_entered_15 rfl ?_
      refine g_iret (pc := 16) E hr dX5_entered_16 ?_
      exact ⟨by rw [etS, if_pos (by omega)], SC5.rf M⟩

theorem ct5_scaled {cx : Cx} {M : Mem} {S : Int → Int} (hB : BD M S) (hV : SOK S) {p cn x : Int} (hp : -2147483648 ≤ p ∧ p ≤ 2147483647) (hcn : -2147483648 ≤ cn ∧ cn ≤ 2147483647) (hx : -2147483648 ≤ x ∧ x ≤ 2147483647) : Ct cx yX5_scaled cX5_scaled 4 (some .int) 3 0 0 [rf cx 183, .int (oi p), .int (oi cn), .int (oi x)] M (fun rz M' => sdS S p cn x = rz ∧ SC5 M M') := by
  refine ct_intro cd_X5_scaled (by decide +kernel) (Nat.le_of_ble_eq_true rfl) rfl (fun Pg Lc Ev s m args below meth c E hr => ?_)
  refine g_ent (ls' := [some (rf cx 183), some (.int (oi p)), some (.int (oi cn)), some (.int (oi x))]) rfl ?_
  have hV0 := hV.1
  have hB0 := hB.c0
  have hB1 := hB.c1
  have hB2 := hB.c2
  have hB3 := hB.c3
  refine g_aload_n (pc := 0) E dX5_scaled_0 (i := 0) rfl rfl ?_
  refine g_getr (i := 183) (j := 0) (t := 5) (f := 0) (pc := 1) E dX5_scaled_1 fl_X5_12 rfl (by decide) (by decide) rfl rfl ?_
  refine g_iload_n (pc := 4) E dX5_scaled_4 (i := 1) rfl rfl ?_
  refine g_callV (pc := 5) (As := [_]) E dX5_scaled_5 ml_X5_115 (ct_hasPaper hB hV (by omega)) rfl rfl rfl rfl (by decide) (by decide) rfl (Nat.le_of_ble_eq_true rfl) (by decide) (fun x5 M5 hM5 => ?_)
  obtain ⟨rfl, rfl⟩ := hM5
  refine g_if_eq (pc := 8) (tgt := 18) E dX5_scaled_8 (by decide) (fun qh8 => ?_) (fun qh8 => ?_) (Int.le_trans (by decide) (bi_R _).1) (Int.le_trans (bi_R _).2 (by decide))
  · replace qh8 := bi_0.mp qh8
    refine g_iconst (pc := 18) E dX5_scaled_18 rfl ?_
    refine g_iret (pc := 19) E hr dX5_scaled_19 ?_
    exact ⟨by rw [sdS, if_pos (by omega)], SC5.rf M⟩
  · replace qh8 := bi_n.mp qh8
    refine g_iload_n (pc := 11) E dX5_scaled_11 (i := 2) rfl rfl ?_
    refine g_callS (pc := 12) (As := [_]) E dX5_scaled_12 ml_X5_106 (ct_isCohort (by omega)) rfl rfl (by decide) (by decide) rfl (Nat.le_of_ble_eq_true rfl) (by decide) (fun x12 M12 hM12 => ?_)
    obtain ⟨rfl, rfl⟩ := hM12
    refine g_if_ne (pc := 15) (tgt := 20) E dX5_scaled_15 (by decide) (fun qh15 => ?_) (fun qh15 => ?_) (Int.le_trans (by decide) (bi_R _).1) (Int.le_trans (bi_R _).2 (by decide))
    · replace qh15 := bi_n.mp qh15
      refine g_iload_n (pc := 20) E dX5_scaled_20 (i := 3) rfl rfl ?_
      refine g_iconst (pc := 21) E dX5_scaled_21 rfl ?_
      refine g_bipush (pc := 22) E dX5_scaled_22 rfl ?_
      refine g_callS (pc := 24) (As := [_, _, _]) E dX5_scaled_24 ml_X5_80 (ct_isWithin (by omega) (by omega) (by omega)) rfl rfl (by decide) (by decide) rfl (Nat.le_of_ble_eq_true rfl) (by decide) (fun x24 M24 hM24 => ?_)
      obtain ⟨rfl, rfl⟩ := hM24
      refine g_if_ne (pc := 27) (tgt := 33) E dX5_scaled_27 (by decide) (fun qh27 => ?_) (fun qh27 => ?_) (Int.le_trans (by decide) (bi_R _).1) (Int.le_trans (bi_R _).2 (by decide))
      · replace qh27 := bi_n.mp qh27
        refine g_aload_n (pc := 33) E dX5_scaled_33 (i := 0) rfl rfl ?_
        refine g_getr (i := 183) (j := 0) (t := 5) (f := 0) (pc := 34) E dX5_scaled_34 fl_X5_12 rfl (by decide) (by decide) rfl rfl ?_
        refine g_iload_n (pc := 37) E dX5_scaled_37 (i := 1) rfl rfl ?_
        refine g_iconst (pc := 38) E dX5_scaled_38 rfl ?_
        refine g_imul (pc := 39) E dX5_scaled_39 ?_
        refine g_iload_n (pc := 40) E dX5_scaled_40 (i := 2) rfl rfl ?_
        refine g_iadd (pc := 41) E dX5_scaled_41 ?_
        refine g_iload_n (pc := 42) E dX5_scaled_42 (i := 3) rfl rfl ?_
        refine g_callV (pc := 43) (As := [_, _]) E dX5_scaled_43 ml_X5_227 (ct_rescaled hB hV (by omega) (by omega) (by omega) (by omega) (by omega) (by omega)) rfl rfl rfl rfl (by decide) (by decide) rfl (Nat.le_of_ble_eq_true rfl) (by decide) (fun x43 M43 hM43 => ?_)
        obtain ⟨rfl, rfl⟩ := hM43
        refine g_iret (pc := 46) E hr dX5_scaled_46 ?_
        exact ⟨by rw [sdS, if_neg (by omega), if_neg (by omega)], SC5.rf M⟩
      · replace qh27 := bi_0.mp qh27
        refine g_bipush (pc := 30) E dX5_scaled_30 rfl ?_
        refine g_iret (pc := 32) E hr dX5_scaled_32 ?_
        exact ⟨by rw [sdS, if_neg (by omega), if_pos (by omega)], SC5.rf M⟩
    · replace qh15 := bi_0.mp qh15
      refine g_iconst (pc := 18) E dX5_scaled_18 rfl ?_
      refine g_iret (pc := 19) E hr dX5_scaled_19 ?_
      exact ⟨by rw [sdS, if_pos (by omega)], SC5.rf M⟩

theorem ct5_scaling {cx : Cx} {M : Mem} {S : Int → Int} (hB : BD M S) (hV : SOK S) {p cn w : Int} (hp : -2147483648 ≤ p ∧ p ≤ 2147483647) (hcn : -2147483648 ≤ cn ∧ cn ≤ 2147483647) (hw : -2147483648 ≤ w ∧ w ≤ 2147483647) : Ct cx yX5_scaling cX5_scaling 5 (some .int) 6 0 0 [rf cx 183, .int (oi p), .int (oi cn), .int (oi w)] M (fun rz M' => sclS S p cn w = rz ∧ SC5 M M') := by
  refine ct_intro cd_X5_scaling (by decide +kernel) (Nat.le_of_ble_eq_true rfl) rfl (fun Pg Lc Ev s m args below meth c E hr => ?_)
  refine g_ent (ls' := [some (rf cx 183), some (.int (oi p)), some (.int (oi cn)), some (.int (oi w)), none]) rfl ?_
  have hV0 := hV.1
  have hB0 := hB.c0
  have hB1 := hB.c1
  have hB2 := hB.c2
  have hB3 := hB.c3
  refine g_aload_n (pc := 0) E dX5_scaling_0 (i := 0) rfl rfl ?_
  refine g_getr (i := 183) (j := 0) (t := 5) (f := 0) (pc := 1) E dX5_scaling_1 fl_X5_12 rfl (by decide) (by decide) rfl rfl ?_
  refine g_iload_n (pc := 4) E dX5_scaling_4 (i := 1) rfl rfl ?_
  refine g_callV (pc := 5) (As := [_]) E dX5_scaling_5 ml_X5_115 (ct_hasPaper hB hV (by omega)) rfl rfl rfl rfl (by decide) (by decide) rfl (Nat.le_of_ble_eq_true rfl) (by decide) (fun x5 M5 hM5 => ?_)
  obtain ⟨rfl, rfl⟩ := hM5
  refine g_if_eq (pc := 8) (tgt := 18) E dX5_scaling_8 (by decide) (fun qh8 => ?_) (fun qh8 => ?_) (Int.le_trans (by decide) (bi_R _).1) (Int.le_trans (bi_R _).2 (by decide))
  · replace qh8 := bi_0.mp qh8
    refine g_iconst (pc := 18) E dX5_scaling_18 rfl ?_
    refine g_iret (pc := 19) E hr dX5_scaling_19 ?_
    exact ⟨by rw [sclS, if_pos (by omega)], SC5.rf M⟩
  · replace qh8 := bi_n.mp qh8
    refine g_iload_n (pc := 11) E dX5_scaling_11 (i := 2) rfl rfl ?_
    refine g_callS (pc := 12) (As := [_]) E dX5_scaling_12 ml_X5_106 (ct_isCohort (by omega)) rfl rfl (by decide) (by decide) rfl (Nat.le_of_ble_eq_true rfl) (by decide) (fun x12 M12 hM12 => ?_)
    obtain ⟨rfl, rfl⟩ := hM12
    refine g_if_ne (pc := 15) (tgt := 20) E dX5_scaling_15 (by decide) (fun qh15 => ?_) (fun qh15 => ?_) (Int.le_trans (by decide) (bi_R _).1) (Int.le_trans (bi_R _).2 (by decide))
    · replace qh15 := bi_n.mp qh15
      have hcR := cntS_R hV p cn
      have hsR := sumS_R hV cn (show 0 ≤ p by omega) (by omega)
      have hsl := slS_le (S := S) p cn
      have hVr := hV.2.2.2.2.2 p cn (by omega) (by omega) (by omega) (by omega)
      refine g_iload_n (pc := 20) E dX5_scaling_20 (i := 1) rfl rfl ?_
      refine g_iconst (pc := 21) E dX5_scaling_21 rfl ?_
      refine g_imul (pc := 22) E dX5_scaling_22 ?_
      refine g_iload_n (pc := 23) E dX5_scaling_23 (i := 2) rfl rfl ?_
      refine g_iadd (pc := 24) E dX5_scaling_24 ?_
      refine g_istore (pc := 25) E dX5_scaling_25 (ls' := [_, _, _, _, _]) (Nat.le_of_ble_eq_true rfl) rfl ?_
      refine g_iload_n (pc := 27) E dX5_scaling_27 (i := 3) rfl rfl ?_
      by_cases qs28_0 : w = 0
      · refine g_tableIn (pc := 28) (tgt := 72) (off := 44) E dX5_scaling_28 (by omega) (by omega) (by rw [qs28_0]; rfl) (by decide) ?_
        refine g_aload_n (pc := 72) E dX5_scaling_72 (i := 0) rfl rfl ?_
        refine g_getr (i := 183) (j := 0) (t := 5) (f := 0) (pc := 73) E dX5_scaling_73 fl_X5_12 rfl (by decide) (by decide) rfl rfl ?_
        refine g_getr (i := 0) (j := 11) (t := 0) (f := 14) (pc := 76) E dX5_scaling_76 fl_X5_203 rfl (by decide) (by decide) rfl rfl ?_
        refine g_iload (pc := 79) E dX5_scaling_79 rfl ?_
        refine g_iald (q := 24) (pc := 81) E dX5_scaling_81 rfl (by omega) (by omega) (hB.f11 (by omega) (by omega) (by omega) (by omega)) (fun _ _ => ?_)
        refine g_iret (pc := 82) E hr dX5_scaling_82 ?_
        subst qs28_0
        exact ⟨by rw [sclS, if_neg (by omega), if_neg (by omega), if_pos (by omega), Int.add_zero], SC5.rf M⟩
      by_cases qs28_1 : w = 1
      · refine g_tableIn (pc := 28) (tgt := 83) (off := 55) E dX5_scaling_28 (by omega) (by omega) (by rw [qs28_1]; rfl) (by decide) ?_
        refine g_aload_n (pc := 83) E dX5_scaling_83 (i := 0) rfl rfl ?_
        refine g_getr (i := 183) (j := 0) (t := 5) (f := 0) (pc := 84) E dX5_scaling_84 fl_X5_12 rfl (by decide) (by decide) rfl rfl ?_
        refine g_getr (i := 0) (j := 12) (t := 0) (f := 15) (pc := 87) E dX5_scaling_87 fl_X5_206 rfl (by decide) (by decide) rfl rfl ?_
        refine g_iload (pc := 90) E dX5_scaling_90 rfl ?_
        refine g_iald (q := 24) (pc := 92) E dX5_scaling_92 rfl (by omega) (by omega) (hB.f12 (by omega) (by omega) (by omega) (by omega)) (fun _ _ => ?_)
        refine g_iret (pc := 93) E hr dX5_scaling_93 ?_
        subst qs28_1
        exact ⟨by rw [sclS, if_neg (by omega), if_neg (by omega), if_pos (by omega)], SC5.rf M⟩
      by_cases qs28_2 : w = 2
      · refine g_tableIn (pc := 28) (tgt := 94) (off := 66) E dX5_scaling_28 (by omega) (by omega) (by rw [qs28_2]; rfl) (by decide) ?_
        refine g_aload_n (pc := 94) E dX5_scaling_94 (i := 0) rfl rfl ?_
        refine g_getr (i := 183) (j := 0) (t := 5) (f := 0) (pc := 95) E dX5_scaling_95 fl_X5_12 rfl (by decide) (by decide) rfl rfl ?_
        refine g_getr (i := 0) (j := 14) (t := 0) (f := 17) (pc := 98) E dX5_scaling_98 fl_X5_209 rfl (by decide) (by decide) rfl rfl ?_
        refine g_iload (pc := 101) E dX5_scaling_101 rfl ?_
        refine g_iald (q := 24) (pc := 103) E dX5_scaling_103 rfl (by omega) (by omega) (hB.f14 (by omega) (by omega) (by omega) (by omega)) (fun _ _ => ?_)
        refine g_iret (pc := 104) E hr dX5_scaling_104 ?_
        subst qs28_2
        exact ⟨by rw [sclS, if_neg (by omega), if_neg (by omega), if_neg (by omega), if_pos (by omega)], SC5.rf M⟩
      by_cases qs28_3 : w = 3
      · refine g_tableIn (pc := 28) (tgt := 105) (off := 77) E dX5_scaling_28 (by omega) (by omega) (by rw [qs28_3]; rfl) (by decide) ?_
        refine g_aload_n (pc := 105) E dX5_scaling_105 (i := 0) rfl rfl ?_
        refine g_getr (i := 183) (j := 0) (t := 5) (f := 0) (pc := 106) E dX5_scaling_106 fl_X5_12 rfl (by decide) (by decide) rfl rfl ?_
        refine g_getr (i := 0) (j := 13) (t := 0) (f := 16) (pc := 109) E dX5_scaling_109 fl_X5_212 rfl (by decide) (by decide) rfl rfl ?_
        refine g_iload (pc := 112) E dX5_scaling_112 rfl ?_
        refine g_iald (q := 24) (pc := 114) E dX5_scaling_114 rfl (by omega) (by omega) (hB.f13 (by omega) (by omega) (by omega) (by omega)) (fun _ _ => ?_)
        refine g_aload_n (pc := 115) E dX5_scaling_115 (i := 0) rfl rfl ?_
        refine g_getr (i := 183) (j := 0) (t := 5) (f := 0) (pc := 116) E dX5_scaling_116 fl_X5_12 rfl (by decide) (by decide) rfl rfl ?_
        refine g_getr (i := 0) (j := 14) (t := 0) (f := 17) (pc := 119) E dX5_scaling_119 fl_X5_209 rfl (by decide) (by decide) rfl rfl ?_
        refine g_iload (pc := 122) E dX5_scaling_122 rfl ?_
        refine g_iald (q := 24) (pc := 124) E dX5_scaling_124 rfl (by omega) (by omega) (hB.f14 (by omega) (by omega) (by omega) (by omega)) (fun _ _ => ?_)
        refine g_bipush (pc := 125) E dX5_scaling_125 rfl ?_
        refine g_callS (pc := 127) (As := [_, _, _]) E dX5_scaling_127 ml_X5_215 (ct_nearest5 (by omega) (by omega) (by omega) (by omega)) rfl rfl (by decide) (by decide) rfl (Nat.le_of_ble_eq_true rfl) (by decide) (fun x127 M127 hM127 => ?_)
        obtain ⟨rfl, rfl⟩ := hM127
        refine g_iret (pc := 130) E hr dX5_scaling_130 ?_
        subst qs28_3
        by_cases hz : cntS S p cn = 0
        · exact ⟨by rw [sclS, if_neg (by omega), if_neg (by omega), if_neg (by omega), if_neg (by omega), if_pos (by omega), if_pos (by omega)], SC5.rf M⟩
        · exact ⟨by rw [sclS, if_neg (by omega), if_neg (by omega), if_neg (by omega), if_neg (by omega), if_neg (by omega), if_pos (by omega), if_neg (by omega)], SC5.rf M⟩
      by_cases qs28_4 : w = 4
      · refine g_tableIn (pc := 28) (tgt := 131) (off := 103) E dX5_scaling_28 (by omega) (by omega) (by rw [qs28_4]; rfl) (by decide) ?_
        refine g_aload_n (pc := 131) E dX5_scaling_131 (i := 0) rfl rfl ?_
        refine g_getr (i := 183) (j := 0) (t := 5) (f := 0) (pc := 132) E dX5_scaling_132 fl_X5_12 rfl (by decide) (by decide) rfl rfl ?_
        refine g_iload_n (pc := 135) E dX5_scaling_135 (i := 1) rfl rfl ?_
        refine g_iload_n (pc := 136) E dX5_scaling_136 (i := 2) rfl rfl ?_
        refine g_callV (pc := 137) (As := [_, _]) E dX5_scaling_137 ml_X5_218 (ct_scaledSum hB hV (by omega) (by omega) (by omega) (by omega)) rfl rfl rfl rfl (by decide) (by decide) rfl (Nat.le_of_ble_eq_true rfl) (by decide) (fun x137 M137 hM137 => ?_)
        obtain ⟨rfl, rfl⟩ := hM137
        refine g_aload_n (pc := 140) E dX5_scaling_140 (i := 0) rfl rfl ?_
        refine g_getr (i := 183) (j := 0) (t := 5) (f := 0) (pc := 141) E dX5_scaling_141 fl_X5_12 rfl (by decide) (by decide) rfl rfl ?_
        refine g_getr (i := 0) (j := 14) (t := 0) (f := 17) (pc := 144) E dX5_scaling_144 fl_X5_209 rfl (by decide) (by decide) rfl rfl ?_
        refine g_iload (pc := 147) E dX5_scaling_147 rfl ?_
        refine g_iald (q := 24) (pc := 149) E dX5_scaling_149 rfl (by omega) (by omega) (hB.f14 (by omega) (by omega) (by omega) (by omega)) (fun _ _ => ?_)
        refine g_bipush (pc := 150) E dX5_scaling_150 rfl ?_
        refine g_callS (pc := 152) (As := [_, _, _]) E dX5_scaling_152 ml_X5_215 (ct_nearest5 (by omega) (by omega) (by omega) (by omega)) rfl rfl (by decide) (by decide) rfl (Nat.le_of_ble_eq_true rfl) (by decide) (fun x152 M152 hM152 => ?_)
        obtain ⟨rfl, rfl⟩ := hM152
        refine g_iret (pc := 155) E hr dX5_scaling_155 ?_
        subst qs28_4
        by_cases hz : cntS S p cn = 0
        · exact ⟨by rw [sclS, if_neg (by omega), if_neg (by omega), if_neg (by omega), if_neg (by omega), if_pos (by omega), if_pos (by omega)], SC5.rf M⟩
        · exact ⟨by rw [sclS, if_neg (by omega), if_neg (by omega), if_neg (by omega), if_neg (by omega), if_neg (by omega), if_neg (by omega), if_pos (by omega), if_neg (by omega)], SC5.rf M⟩
      by_cases qs28_5 : w = 5
      · refine g_tableIn (pc := 28) (tgt := 156) (off := 128) E dX5_scaling_28 (by omega) (by omega) (by rw [qs28_5]; rfl) (by decide) ?_
        refine g_aload_n (pc := 156) E dX5_scaling_156 (i := 0) rfl rfl ?_
        refine g_getr (i := 183) (j := 0) (t := 5) (f := 0) (pc := 157) E dX5_scaling_157 fl_X5_12 rfl (by decide) (by decide) rfl rfl ?_
        refine g_iload_n (pc := 160) E dX5_scaling_160 (i := 1) rfl rfl ?_
        refine g_iload_n (pc := 161) E dX5_scaling_161 (i := 2) rfl rfl ?_
        refine g_callV (pc := 162) (As := [_, _]) E dX5_scaling_162 ml_X5_221 (ct_turnedPairs hB hV (by omega) (by omega) (by omega) (by omega)) rfl rfl rfl rfl (by decide) (by decide) rfl (Nat.le_of_ble_eq_true rfl) (by decide) (fun x162 M162 hM162 => ?_)
        obtain ⟨rfl, rfl⟩ := hM162
        refine g_iret (pc := 165) E hr dX5_scaling_165 ?_
        subst qs28_5
        exact ⟨by rw [sclS, if_neg (by omega), if_neg (by omega), if_neg (by omega), if_neg (by omega), if_neg (by omega), if_neg (by omega), if_neg (by omega), if_pos (by omega)], SC5.rf M⟩
      by_cases qs28_6 : w = 6
      · refine g_tableIn (pc := 28) (tgt := 166) (off := 138) E dX5_scaling_28 (by omega) (by omega) (by rw [qs28_6]; rfl) (by decide) ?_
        refine g_aload_n (pc := 166) E dX5_scaling_166 (i := 0) rfl rfl ?_
        refine g_getr (i := 183) (j := 0) (t := 5) (f := 0) (pc := 167) E dX5_scaling_167 fl_X5_12 rfl (by decide) (by decide) rfl rfl ?_
        refine g_iload_n (pc := 170) E dX5_scaling_170 (i := 1) rfl rfl ?_
        refine g_iload_n (pc := 171) E dX5_scaling_171 (i := 2) rfl rfl ?_
        refine g_callV (pc := 172) (As := [_, _]) E dX5_scaling_172 ml_X5_224 (ct_differentScaled hB hV (by omega) (by omega) (by omega) (by omega)) rfl rfl rfl rfl (by decide) (by decide) rfl (Nat.le_of_ble_eq_true rfl) (by decide) (fun x172 M172 hM172 => ?_)
        obtain ⟨rfl, rfl⟩ := hM172
        refine g_iret (pc := 175) E hr dX5_scaling_175 ?_
        subst qs28_6
        exact ⟨by rw [sclS, if_neg (by omega), if_neg (by omega), if_neg (by omega), if_neg (by omega), if_neg (by omega), if_neg (by omega), if_neg (by omega), if_neg (by omega)], SC5.rf M⟩
      refine g_tableOut (pc := 28) (tgt := 176) E dX5_scaling_28 (by omega) (by decide) ?_
      refine g_bipush (pc := 176) E dX5_scaling_176 rfl ?_
      refine g_iret (pc := 178) E hr dX5_scaling_178 ?_
      exact ⟨by rw [sclS, if_neg (by omega), if_pos (by omega)], SC5.rf M⟩
    · replace qh15 := bi_0.mp qh15
      refine g_iconst (pc := 18) E dX5_scaling_18 rfl ?_
      refine g_iret (pc := 19) E hr dX5_scaling_19 ?_
      exact ⟨by rw [sclS, if_pos (by omega)], SC5.rf M⟩

theorem ct5_module {cx : Cx} {M : Mem} {S : Int → Int} (hB : BD M S) (hV : SOK S) {sn mn w : Int} (hsn : -2147483648 ≤ sn ∧ sn ≤ 2147483647) (hmn : -2147483648 ≤ mn ∧ mn ≤ 2147483647) (hw : -2147483648 ≤ w ∧ w ≤ 2147483647) : Ct cx yX5_module cX5_module 4 (some .int) 6 0 0 [rf cx 183, .int (oi sn), .int (oi mn), .int (oi w)] M (fun rz M' => moS S sn mn w = rz ∧ SC5 M M') := by
  refine ct_intro cd_X5_module (by decide +kernel) (Nat.le_of_ble_eq_true rfl) rfl (fun Pg Lc Ev s m args below meth c E hr => ?_)
  refine g_ent (ls' := [some (rf cx 183), some (.int (oi sn)), some (.int (oi mn)), some (.int (oi w))]) rfl ?_
  have hV0 := hV.1
  have hB0 := hB.c0
  have hB1 := hB.c1
  have hB2 := hB.c2
  have hB3 := hB.c3
  refine g_aload_n (pc := 0) E dX5_module_0 (i := 0) rfl rfl ?_
  refine g_getr (i := 183) (j := 0) (t := 5) (f := 0) (pc := 1) E dX5_module_1 fl_X5_12 rfl (by decide) (by decide) rfl rfl ?_
  refine g_iload_n (pc := 4) E dX5_module_4 (i := 1) rfl rfl ?_
  refine g_callV (pc := 5) (As := [_]) E dX5_module_5 ml_X5_164 (ct_hasStudent hB hV (by omega)) rfl rfl rfl rfl (by decide) (by decide) rfl (Nat.le_of_ble_eq_true rfl) (by decide) (fun x5 M5 hM5 => ?_)
  obtain ⟨rfl, rfl⟩ := hM5
  refine g_if_eq (pc := 8) (tgt := 22) E dX5_module_8 (by decide) (fun qh8 => ?_) (fun qh8 => ?_) (Int.le_trans (by decide) (bi_R _).1) (Int.le_trans (bi_R _).2 (by decide))
  · replace qh8 := bi_0.mp qh8
    refine g_iconst (pc := 22) E dX5_module_22 rfl ?_
    refine g_iret (pc := 23) E hr dX5_module_23 ?_
    exact ⟨by rw [moS, if_pos (by omega)], SC5.rf M⟩
  · replace qh8 := bi_n.mp qh8
    refine g_aload_n (pc := 11) E dX5_module_11 (i := 0) rfl rfl ?_
    refine g_getr (i := 183) (j := 0) (t := 5) (f := 0) (pc := 12) E dX5_module_12 fl_X5_12 rfl (by decide) (by decide) rfl rfl ?_
    refine g_iload_n (pc := 15) E dX5_module_15 (i := 2) rfl rfl ?_
    refine g_callV (pc := 16) (As := [_]) E dX5_module_16 ml_X5_90 (ct_hasModule hB hV (by omega)) rfl rfl rfl rfl (by decide) (by decide) rfl (Nat.le_of_ble_eq_true rfl) (by decide) (fun x16 M16 hM16 => ?_)
    obtain ⟨rfl, rfl⟩ := hM16
    refine g_if_ne (pc := 19) (tgt := 24) E dX5_module_19 (by decide) (fun qh19 => ?_) (fun qh19 => ?_) (Int.le_trans (by decide) (bi_R _).1) (Int.le_trans (bi_R _).2 (by decide))
    · replace qh19 := bi_n.mp qh19
      refine g_aload_n (pc := 24) E dX5_module_24 (i := 0) rfl rfl ?_
      refine g_getr (i := 183) (j := 167) (t := 5) (f := 4) (pc := 25) E dX5_module_25 fl_X5_33 rfl (by decide) (by decide) rfl rfl ?_
      refine g_aload_n (pc := 28) E dX5_module_28 (i := 0) rfl rfl ?_
      refine g_getr (i := 183) (j := 0) (t := 5) (f := 0) (pc := 29) E dX5_module_29 fl_X5_12 rfl (by decide) (by decide) rfl rfl ?_
      refine g_iload_n (pc := 32) E dX5_module_32 (i := 1) rfl rfl ?_
      refine g_callVv (pc := 33) (As := [_, _]) E dX5_module_33 ml_X5_129 (cv_assess hB hV (by omega) (by omega)) rfl rfl rfl rfl (by decide) (by decide) rfl (Nat.le_of_ble_eq_true rfl) (by decide) (fun M33 hM33 => ?_)
      have hB33 := hM33.b hB
      have hm := lkM_ok hV (s := sn) (q := -1) (o := 0) (by omega) (by omega) (by omega) (by omega)
      have hiR := inS_R hV hm mn
      refine g_iload_n (pc := 36) E dX5_module_36 (i := 3) rfl rfl ?_
      by_cases qs37_0 : w = 0
      · refine g_tableIn (pc := 37) (tgt := 72) (off := 35) E dX5_module_37 (by omega) (by omega) (by rw [qs37_0]; rfl) (by decide) ?_
        refine g_aload_n (pc := 72) E dX5_module_72 (i := 0) rfl rfl ?_
        refine g_getr (i := 183) (j := 167) (t := 5) (f := 4) (pc := 73) E dX5_module_73 fl_X5_33 rfl (by decide) (by decide) rfl rfl ?_
        refine g_iload_n (pc := 76) E dX5_module_76 (i := 2) rfl rfl ?_
        refine g_callV (pc := 77) (As := [_]) E dX5_module_77 ml_X5_230 (ct_isWhole hB33 hV hm hM33.inn (by omega) (by omega)) rfl rfl rfl rfl (by decide) (by decide) rfl (Nat.le_of_ble_eq_true rfl) (by decide) (fun x77 M77 hM77 => ?_)
        obtain ⟨rfl, rfl⟩ := hM77
        refine g_if_eq (pc := 80) (tgt := 95) E dX5_module_80 (by decide) (fun qh80 => ?_) (fun qh80 => ?_) (Int.le_trans (by decide) (bi_R _).1) (Int.le_trans (bi_R _).2 (by decide))
        · replace qh80 := bi_0.mp qh80
          refine g_bipush (pc := 95) E dX5_module_95 rfl ?_
          refine g_iret (pc := 97) E hr dX5_module_97 ?_
          exact ⟨by rw [moS, if_neg (by omega), if_neg (by omega), if_pos (by omega), if_pos (by omega)], hM33.sc⟩
        · replace qh80 := bi_n.mp qh80
          refine g_aload_n (pc := 83) E dX5_module_83 (i := 0) rfl rfl ?_
          refine g_getr (i := 183) (j := 167) (t := 5) (f := 4) (pc := 84) E dX5_module_84 fl_X5_33 rfl (by decide) (by decide) rfl rfl ?_
          refine g_getr (i := 167) (j := 170) (t := 4) (f := 2) (pc := 87) E dX5_module_87 fl_X5_233 rfl (by decide) (by decide) rfl rfl ?_
          refine g_iload_n (pc := 90) E dX5_module_90 (i := 2) rfl rfl ?_
          refine g_iald (pc := 91) E dX5_module_91 rfl (by omega) (by omega) (hM33.inn mn (by omega) (by omega)) (fun _ _ => ?_)
          refine g_goto (pc := 92) (tgt := 97) E dX5_module_92 (by decide) ?_
          refine g_iret (pc := 97) E hr dX5_module_97 ?_
          exact ⟨by rw [moS, if_neg (by omega), if_neg (by omega), if_pos (by omega), if_neg (by omega)], hM33.sc⟩
      by_cases qs37_1 : w = 1
      · refine g_tableIn (pc := 37) (tgt := 98) (off := 61) E dX5_module_37 (by omega) (by omega) (by rw [qs37_1]; rfl) (by decide) ?_
        refine g_aload_n (pc := 98) E dX5_module_98 (i := 0) rfl rfl ?_
        refine g_getr (i := 183) (j := 167) (t := 5) (f := 4) (pc := 99) E dX5_module_99 fl_X5_33 rfl (by decide) (by decide) rfl rfl ?_
        refine g_aload_n (pc := 102) E dX5_module_102 (i := 0) rfl rfl ?_
        refine g_getr (i := 183) (j := 0) (t := 5) (f := 0) (pc := 103) E dX5_module_103 fl_X5_12 rfl (by decide) (by decide) rfl rfl ?_
        refine g_iload_n (pc := 106) E dX5_module_106 (i := 2) rfl rfl ?_
        refine g_callV (pc := 107) (As := [_, _]) E dX5_module_107 ml_X5_236 (ct_passes hB33 hV hm hM33.inn hM33.st (by omega) (by omega)) rfl rfl rfl rfl (by decide) (by decide) rfl (Nat.le_of_ble_eq_true rfl) (by decide) (fun x107 M107 hM107 => ?_)
        obtain ⟨rfl, rfl⟩ := hM107
        refine g_if_eq (pc := 110) (tgt := 117) E dX5_module_110 (by decide) (fun qh110 => ?_) (fun qh110 => ?_) (Int.le_trans (by decide) (bi_R _).1) (Int.le_trans (bi_R _).2 (by decide))
        · replace qh110 := bi_0.mp qh110
          refine g_iconst (pc := 117) E dX5_module_117 rfl ?_
          refine g_iret (pc := 118) E hr dX5_module_118 ?_
          exact ⟨by rw [moS, if_neg (by omega), if_neg (by omega), if_neg (by omega), if_pos (by omega)]; exact bi_f qh110, hM33.sc⟩
        · replace qh110 := bi_n.mp qh110
          refine g_iconst (pc := 113) E dX5_module_113 rfl ?_
          refine g_goto (pc := 114) (tgt := 118) E dX5_module_114 (by decide) ?_
          refine g_iret (pc := 118) E hr dX5_module_118 ?_
          exact ⟨by rw [moS, if_neg (by omega), if_neg (by omega), if_neg (by omega), if_pos (by omega)]; exact bi_t qh110, hM33.sc⟩
      by_cases qs37_2 : w = 2
      · refine g_tableIn (pc := 37) (tgt := 119) (off := 82) E dX5_module_37 (by omega) (by omega) (by rw [qs37_2]; rfl) (by decide) ?_
        refine g_aload_n (pc := 119) E dX5_module_119 (i := 0) rfl rfl ?_
        refine g_getr (i := 183) (j := 167) (t := 5) (f := 4) (pc := 120) E dX5_module_120 fl_X5_33 rfl (by decide) (by decide) rfl rfl ?_
        refine g_aload_n (pc := 123) E dX5_module_123 (i := 0) rfl rfl ?_
        refine g_getr (i := 183) (j := 0) (t := 5) (f := 0) (pc := 124) E dX5_module_124 fl_X5_12 rfl (by decide) (by decide) rfl rfl ?_
        refine g_iload_n (pc := 127) E dX5_module_127 (i := 2) rfl rfl ?_
        refine g_callV (pc := 128) (As := [_, _]) E dX5_module_128 ml_X5_240 (ct_papersMarked hB33 hV hM33.st (by omega)) rfl rfl rfl rfl (by decide) (by decide) rfl (Nat.le_of_ble_eq_true rfl) (by decide) (fun x128 M128 hM128 => ?_)
        obtain ⟨rfl, rfl⟩ := hM128
        refine g_iret (pc := 131) E hr dX5_module_131 ?_
        subst qs37_2
        exact ⟨by rw [moS, if_neg (by omega), if_neg (by omega), if_neg (by omega), if_neg (by omega)]; have := pv_mo (S := S) sn mn (S 6).toNat; rw [Int.toNat_of_nonneg (by omega)] at this; exact this, hM33.sc⟩
      by_cases qs37_3 : w = 3
      · refine g_tableIn (pc := 37) (tgt := 132) (off := 95) E dX5_module_37 (by omega) (by omega) (by rw [qs37_3]; rfl) (by decide) ?_
        refine g_aload_n (pc := 132) E dX5_module_132 (i := 0) rfl rfl ?_
        refine g_getr (i := 183) (j := 167) (t := 5) (f := 4) (pc := 133) E dX5_module_133 fl_X5_33 rfl (by decide) (by decide) rfl rfl ?_
        refine g_aload_n (pc := 136) E dX5_module_136 (i := 0) rfl rfl ?_
        refine g_getr (i := 183) (j := 0) (t := 5) (f := 0) (pc := 137) E dX5_module_137 fl_X5_12 rfl (by decide) (by decide) rfl rfl ?_
        refine g_iload_n (pc := 140) E dX5_module_140 (i := 2) rfl rfl ?_
        refine g_iconst (pc := 141) E dX5_module_141 rfl ?_
        refine g_callV (pc := 142) (As := [_, _, _]) E dX5_module_142 ml_X5_244 (ct_papersWith hB33 hV hM33.st (by omega) (by omega)) rfl rfl rfl rfl (by decide) (by decide) rfl (Nat.le_of_ble_eq_true rfl) (by decide) (fun x142 M142 hM142 => ?_)
        obtain ⟨rfl, rfl⟩ := hM142
        refine g_iret (pc := 145) E hr dX5_module_145 ?_
        subst qs37_3
        exact ⟨by rw [moS, if_neg (by omega), if_neg (by omega), if_neg (by omega), if_neg (by omega), moF_pv], hM33.sc⟩
      by_cases qs37_4 : w = 4
      · refine g_tableIn (pc := 37) (tgt := 146) (off := 109) E dX5_module_37 (by omega) (by omega) (by rw [qs37_4]; rfl) (by decide) ?_
        refine g_aload_n (pc := 146) E dX5_module_146 (i := 0) rfl rfl ?_
        refine g_getr (i := 183) (j := 0) (t := 5) (f := 0) (pc := 147) E dX5_module_147 fl_X5_12 rfl (by decide) (by decide) rfl rfl ?_
        refine g_iload_n (pc := 150) E dX5_module_150 (i := 2) rfl rfl ?_
        refine g_callV (pc := 151) (As := [_]) E dX5_module_151 ml_X5_248 (ct_papersOf hB33 hV (by omega)) rfl rfl rfl rfl (by decide) (by decide) rfl (Nat.le_of_ble_eq_true rfl) (by decide) (fun x151 M151 hM151 => ?_)
        obtain ⟨rfl, rfl⟩ := hM151
        refine g_iret (pc := 154) E hr dX5_module_154 ?_
        subst qs37_4
        exact ⟨by rw [moS, if_neg (by omega), if_neg (by omega), if_neg (by omega), if_neg (by omega), moF_pc]; rfl, hM33.sc⟩
      refine g_tableOut (pc := 37) (tgt := 155) E dX5_module_37 (by omega) (by decide) ?_
      refine g_bipush (pc := 155) E dX5_module_155 rfl ?_
      refine g_iret (pc := 157) E hr dX5_module_157 ?_
      exact ⟨by rw [moS, if_neg (by omega), if_pos (by omega)], hM33.sc⟩
    · replace qh19 := bi_0.mp qh19
      refine g_iconst (pc := 22) E dX5_module_22 rfl ?_
      refine g_iret (pc := 23) E hr dX5_module_23 ?_
      exact ⟨by rw [moS, if_pos (by omega)], SC5.rf M⟩

theorem ct5_student {cx : Cx} {M : Mem} {S : Int → Int} (hB : BD M S) (hV : SOK S) {sn w : Int} (hsn : -2147483648 ≤ sn ∧ sn ≤ 2147483647) (hw : -2147483648 ≤ w ∧ w ≤ 2147483647) : Ct cx yX5_student cX5_student 3 (some .int) 7 0 0 [rf cx 183, .int (oi sn), .int (oi w)] M (fun rz M' => skS S sn w = rz ∧ SC5 M M') := by
  refine ct_intro cd_X5_student (by decide +kernel) (Nat.le_of_ble_eq_true rfl) rfl (fun Pg Lc Ev s m args below meth c E hr => ?_)
  refine g_ent (ls' := [some (rf cx 183), some (.int (oi sn)), some (.int (oi w))]) rfl ?_
  have hV0 := hV.1
  have hB0 := hB.c0
  have hB1 := hB.c1
  have hB2 := hB.c2
  have hB3 := hB.c3
  refine g_aload_n (pc := 0) E dX5_student_0 (i := 0) rfl rfl ?_
  refine g_getr (i := 183) (j := 0) (t := 5) (f := 0) (pc := 1) E dX5_student_1 fl_X5_12 rfl (by decide) (by decide) rfl rfl ?_
  refine g_iload_n (pc := 4) E dX5_student_4 (i := 1) rfl rfl ?_
  refine g_callV (pc := 5) (As := [_]) E dX5_student_5 ml_X5_164 (ct_hasStudent hB hV (by omega)) rfl rfl rfl rfl (by decide) (by decide) rfl (Nat.le_of_ble_eq_true rfl) (by decide) (fun x5 M5 hM5 => ?_)
  obtain ⟨rfl, rfl⟩ := hM5
  refine g_if_ne (pc := 8) (tgt := 13) E dX5_student_8 (by decide) (fun qh8 => ?_) (fun qh8 => ?_) (Int.le_trans (by decide) (bi_R _).1) (Int.le_trans (bi_R _).2 (by decide))
  · replace qh8 := bi_n.mp qh8
    refine g_aload_n (pc := 13) E dX5_student_13 (i := 0) rfl rfl ?_
    refine g_getr (i := 183) (j := 167) (t := 5) (f := 4) (pc := 14) E dX5_student_14 fl_X5_33 rfl (by decide) (by decide) rfl rfl ?_
    refine g_aload_n (pc := 17) E dX5_student_17 (i := 0) rfl rfl ?_
    refine g_getr (i := 183) (j := 0) (t := 5) (f := 0) (pc := 18) E dX5_student_18 fl_X5_12 rfl (by decide) (by decide) rfl rfl ?_
    refine g_iload_n (pc := 21) E dX5_student_21 (i := 1) rfl rfl ?_
    refine g_callVv (pc := 22) (As := [_, _]) E dX5_student_22 ml_X5_129 (cv_assess hB hV (by omega) (by omega)) rfl rfl rfl rfl (by decide) (by decide) rfl (Nat.le_of_ble_eq_true rfl) (by decide) (fun M22 hM22 => ?_)
    have hB22 := hM22.b hB
    have hm := lkM_ok hV (s := sn) (q := -1) (o := 0) (by omega) (by omega) (by omega) (by omega)
    have havR := avS_R hV hm
    have hbR := bi_R (¬ incS S (lkM S sn (-1) 0))
    refine g_iload_n (pc := 25) E dX5_student_25 (i := 2) rfl rfl ?_
    by_cases qs26_0 : w = 0
    · refine g_tableIn (pc := 26) (tgt := 76) (off := 50) E dX5_student_26 (by omega) (by omega) (by rw [qs26_0]; rfl) (by decide) ?_
      refine g_aload_n (pc := 76) E dX5_student_76 (i := 0) rfl rfl ?_
      refine g_getr (i := 183) (j := 0) (t := 5) (f := 0) (pc := 77) E dX5_student_77 fl_X5_12 rfl (by decide) (by decide) rfl rfl ?_
      refine g_getr (i := 0) (j := 6) (t := 0) (f := 9) (pc := 80) E dX5_student_80 fl_X5_112 rfl (by decide) (by decide) rfl rfl ?_
      refine g_iload_n (pc := 83) E dX5_student_83 (i := 1) rfl rfl ?_
      refine g_iald (q := 20) (pc := 84) E dX5_student_84 rfl (by omega) (by omega) (hB22.f6 sn (by omega) (by omega)) (fun _ _ => ?_)
      refine g_iret (pc := 85) E hr dX5_student_85 ?_
      exact ⟨by rw [skS, if_neg (by omega), if_neg (by omega), if_neg (by omega), if_pos (by omega)], hM22.sc⟩
    by_cases qs26_1 : w = 1
    · refine g_tableIn (pc := 26) (tgt := 86) (off := 60) E dX5_student_26 (by omega) (by omega) (by rw [qs26_1]; rfl) (by decide) ?_
      refine g_aload_n (pc := 86) E dX5_student_86 (i := 0) rfl rfl ?_
      refine g_getr (i := 183) (j := 167) (t := 5) (f := 4) (pc := 87) E dX5_student_87 fl_X5_33 rfl (by decide) (by decide) rfl rfl ?_
      refine g_geti (i := 167) (t := 4) (f := 7) (fz := 7) (pc := 90) E dX5_student_90 fl_X5_251 rfl (by decide) (by decide) rfl rfl hM22.f7 (fun _ _ => ?_)
      refine g_if_eq (pc := 93) (tgt := 106) E dX5_student_93 (by decide) (fun qh93 => ?_) (fun qh93 => ?_) 
      · have hi0 : incS S (lkM S sn (-1) 0) := Classical.not_not.mp (bi_0.mp qh93)
        refine g_bipush (pc := 106) E dX5_student_106 rfl ?_
        refine g_iret (pc := 108) E hr dX5_student_108 ?_
        exact ⟨by rw [skS, if_neg (by omega), if_neg (by omega), if_neg (by omega), if_neg (by omega), if_pos (by omega), if_pos (by rw [avS, if_pos hi0]; decide)], hM22.sc⟩
      · have hi0 : ¬ incS S (lkM S sn (-1) 0) := bi_n.mp qh93
        have hav0 := havR.2.2 hi0
        refine g_aload_n (pc := 96) E dX5_student_96 (i := 0) rfl rfl ?_
        refine g_getr (i := 183) (j := 167) (t := 5) (f := 4) (pc := 97) E dX5_student_97 fl_X5_33 rfl (by decide) (by decide) rfl rfl ?_
        refine g_geti (i := 167) (t := 4) (f := 9) (fz := 9) (pc := 100) E dX5_student_100 fl_X5_254 rfl (by decide) (by decide) rfl rfl hM22.f9 (fun _ _ => ?_)
        refine g_goto (pc := 103) (tgt := 108) E dX5_student_103 (by decide) ?_
        refine g_iret (pc := 108) E hr dX5_student_108 ?_
        exact ⟨by rw [skS, if_neg (by omega), if_neg (by omega), if_neg (by omega), if_neg (by omega), if_pos (by omega), if_neg (by omega), if_neg hi0], hM22.sc⟩
    by_cases qs26_2 : w = 2
    · refine g_tableIn (pc := 26) (tgt := 109) (off := 83) E dX5_student_26 (by omega) (by omega) (by rw [qs26_2]; rfl) (by decide) ?_
      refine g_aload_n (pc := 109) E dX5_student_109 (i := 0) rfl rfl ?_
      refine g_getr (i := 183) (j := 167) (t := 5) (f := 4) (pc := 110) E dX5_student_110 fl_X5_33 rfl (by decide) (by decide) rfl rfl ?_
      refine g_geti (i := 167) (t := 4) (f := 10) (fz := 10) (pc := 113) E dX5_student_113 fl_X5_257 rfl (by decide) (by decide) rfl rfl hM22.f10 (fun _ _ => ?_)
      refine g_iret (pc := 116) E hr dX5_student_116 ?_
      exact ⟨by rw [skS, if_neg (by omega), if_neg (by omega), if_neg (by omega), if_neg (by omega), if_neg (by omega), if_pos (by omega)], hM22.sc⟩
    by_cases qs26_3 : w = 3
    · refine g_tableIn (pc := 26) (tgt := 117) (off := 91) E dX5_student_26 (by omega) (by omega) (by rw [qs26_3]; rfl) (by decide) ?_
      refine g_aload_n (pc := 117) E dX5_student_117 (i := 0) rfl rfl ?_
      refine g_getr (i := 183) (j := 167) (t := 5) (f := 4) (pc := 118) E dX5_student_118 fl_X5_33 rfl (by decide) (by decide) rfl rfl ?_
      refine g_geti (i := 167) (t := 4) (f := 6) (fz := 6) (pc := 121) E dX5_student_121 fl_X5_260 rfl (by decide) (by decide) rfl rfl hM22.f6 (fun _ _ => ?_)
      refine g_iret (pc := 124) E hr dX5_student_124 ?_
      exact ⟨by rw [skS, if_neg (by omega), if_neg (by omega), if_neg (by omega), if_neg (by omega), if_neg (by omega), if_neg (by omega), if_pos (by omega)], hM22.sc⟩
    by_cases qs26_4 : w = 4
    · refine g_tableIn (pc := 26) (tgt := 125) (off := 99) E dX5_student_26 (by omega) (by omega) (by rw [qs26_4]; rfl) (by decide) ?_
      refine g_aload_n (pc := 125) E dX5_student_125 (i := 0) rfl rfl ?_
      refine g_getr (i := 183) (j := 167) (t := 5) (f := 4) (pc := 126) E dX5_student_126 fl_X5_33 rfl (by decide) (by decide) rfl rfl ?_
      refine g_aload_n (pc := 129) E dX5_student_129 (i := 0) rfl rfl ?_
      refine g_getr (i := 183) (j := 0) (t := 5) (f := 0) (pc := 130) E dX5_student_130 fl_X5_12 rfl (by decide) (by decide) rfl rfl ?_
      refine g_iconst (pc := 133) E dX5_student_133 rfl ?_
      refine g_callV (pc := 134) (As := [_, _]) E dX5_student_134 ml_X5_263 (ct_verdictCount hB22 hV hM22.st (by omega)) rfl rfl rfl rfl (by decide) (by decide) rfl (Nat.le_of_ble_eq_true rfl) (by decide) (fun x134 M134 hM134 => ?_)
      obtain ⟨rfl, rfl⟩ := hM134
      refine g_iret (pc := 137) E hr dX5_student_137 ?_
      exact ⟨by rw [skS, if_neg (by omega), if_neg (by omega), if_neg (by omega), if_neg (by omega), if_neg (by omega), if_neg (by omega), if_neg (by omega), if_pos (by omega)]; have := vc2 S (lkM S sn (-1) 0) (S 6).toNat; rw [Int.toNat_of_nonneg (by omega)] at this; exact this.symm, hM22.sc⟩
    by_cases qs26_5 : w = 5
    · refine g_tableIn (pc := 26) (tgt := 138) (off := 112) E dX5_student_26 (by omega) (by omega) (by rw [qs26_5]; rfl) (by decide) ?_
      refine g_aload_n (pc := 138) E dX5_student_138 (i := 0) rfl rfl ?_
      refine g_getr (i := 183) (j := 167) (t := 5) (f := 4) (pc := 139) E dX5_student_139 fl_X5_33 rfl (by decide) (by decide) rfl rfl ?_
      refine g_aload_n (pc := 142) E dX5_student_142 (i := 0) rfl rfl ?_
      refine g_getr (i := 183) (j := 0) (t := 5) (f := 0) (pc := 143) E dX5_student_143 fl_X5_12 rfl (by decide) (by decide) rfl rfl ?_
      refine g_iconst (pc := 146) E dX5_student_146 rfl ?_
      refine g_callV (pc := 147) (As := [_, _]) E dX5_student_147 ml_X5_263 (ct_verdictCount hB22 hV hM22.st (by omega)) rfl rfl rfl rfl (by decide) (by decide) rfl (Nat.le_of_ble_eq_true rfl) (by decide) (fun x147 M147 hM147 => ?_)
      obtain ⟨rfl, rfl⟩ := hM147
      refine g_iret (pc := 150) E hr dX5_student_150 ?_
      exact ⟨by rw [skS, if_neg (by omega), if_neg (by omega), if_neg (by omega), if_neg (by omega), if_neg (by omega), if_neg (by omega), if_neg (by omega), if_neg (by omega), if_pos (by omega)]; rfl, hM22.sc⟩
    by_cases qs26_6 : w = 6
    · refine g_tableIn (pc := 26) (tgt := 151) (off := 125) E dX5_student_26 (by omega) (by omega) (by rw [qs26_6]; rfl) (by decide) ?_
      refine g_aload_n (pc := 151) E dX5_student_151 (i := 0) rfl rfl ?_
      refine g_getr (i := 183) (j := 172) (t := 5) (f := 5) (pc := 152) E dX5_student_152 fl_X5_40 rfl (by decide) (by decide) rfl rfl ?_
      refine g_aload_n (pc := 155) E dX5_student_155 (i := 0) rfl rfl ?_
      refine g_getr (i := 183) (j := 0) (t := 5) (f := 0) (pc := 156) E dX5_student_156 fl_X5_12 rfl (by decide) (by decide) rfl rfl ?_
      refine g_aload_n (pc := 159) E dX5_student_159 (i := 0) rfl rfl ?_
      refine g_getr (i := 183) (j := 167) (t := 5) (f := 4) (pc := 160) E dX5_student_160 fl_X5_33 rfl (by decide) (by decide) rfl rfl ?_
      refine g_callVv (pc := 163) (As := [_, _]) E dX5_student_163 ml_X5_266 (cv_rassess hB22 hV) rfl rfl rfl rfl (by decide) (by decide) rfl (Nat.le_of_ble_eq_true rfl) (by decide) (fun M163 hM163 => ?_)
      have hsc := hM22.sc.tr hM163.sc
      refine g_aload_n (pc := 166) E dX5_student_166 (i := 0) rfl rfl ?_
      refine g_getr (i := 183) (j := 172) (t := 5) (f := 5) (pc := 167) E dX5_student_167 fl_X5_40 rfl (by decide) (by decide) rfl rfl ?_
      refine g_iload_n (pc := 170) E dX5_student_170 (i := 1) rfl rfl ?_
      refine g_callV (pc := 171) (As := [_]) E dX5_student_171 ml_X5_269 (ct_placeOf hV hM163.2 (by omega) (by omega)) rfl rfl rfl rfl (by decide) (by decide) rfl (Nat.le_of_ble_eq_true rfl) (by decide) (fun x171 M171 hM171 => ?_)
      obtain ⟨rfl, rfl⟩ := hM171
      refine g_iret (pc := 174) E hr dX5_student_174 ?_
      exact ⟨by rw [skS, if_neg (by omega), if_neg (by omega), if_pos (by omega)], hsc⟩
    by_cases qs26_7 : w = 7
    · refine g_tableIn (pc := 26) (tgt := 175) (off := 149) E dX5_student_26 (by omega) (by omega) (by rw [qs26_7]; rfl) (by decide) ?_
      refine g_aload_n (pc := 175) E dX5_student_175 (i := 0) rfl rfl ?_
      refine g_getr (i := 183) (j := 0) (t := 5) (f := 0) (pc := 176) E dX5_student_176 fl_X5_12 rfl (by decide) (by decide) rfl rfl ?_
      refine g_iload_n (pc := 179) E dX5_student_179 (i := 1) rfl rfl ?_
      refine g_callV (pc := 180) (As := [_]) E dX5_student_180 ml_X5_147 (ct_firstsOf hB22 hV (by omega) (by omega)) rfl rfl rfl rfl (by decide) (by decide) rfl (Nat.le_of_ble_eq_true rfl) (by decide) (fun x180 M180 hM180 => ?_)
      obtain ⟨rfl, rfl⟩ := hM180
      refine g_iret (pc := 183) E hr dX5_student_183 ?_
      subst qs26_7
      exact ⟨by rw [skS, if_neg (by omega), if_neg (by omega), if_neg (by omega), if_neg (by omega), if_neg (by omega), if_neg (by omega), if_neg (by omega), if_neg (by omega), if_neg (by omega)]; exact sz_c (fun p a b => by have hA := hV.2.2.2.2.1 sn p (by omega) (by omega) a b; have hc := scS_R S sn p; rw [skF, if_pos rfl, lk_mk S sn a, mkS, abF]; (repeat' split) <;> omega), hM22.sc⟩
    by_cases qs26_8 : w = 8
    · refine g_tableIn (pc := 26) (tgt := 184) (off := 158) E dX5_student_26 (by omega) (by omega) (by rw [qs26_8]; rfl) (by decide) ?_
      refine g_aload_n (pc := 184) E dX5_student_184 (i := 0) rfl rfl ?_
      refine g_getr (i := 183) (j := 0) (t := 5) (f := 0) (pc := 185) E dX5_student_185 fl_X5_12 rfl (by decide) (by decide) rfl rfl ?_
      refine g_iload_n (pc := 188) E dX5_student_188 (i := 1) rfl rfl ?_
      refine g_callV (pc := 189) (As := [_]) E dX5_student_189 ml_X5_272 (ct_resitsOf hB22 hV (by omega) (by omega)) rfl rfl rfl rfl (by decide) (by decide) rfl (Nat.le_of_ble_eq_true rfl) (by decide) (fun x189 M189 hM189 => ?_)
      obtain ⟨rfl, rfl⟩ := hM189
      refine g_iret (pc := 192) E hr dX5_student_192 ?_
      subst qs26_8
      exact ⟨by rw [skS, if_neg (by omega), if_neg (by omega), if_neg (by omega), if_neg (by omega), if_neg (by omega), if_neg (by omega), if_neg (by omega), if_neg (by omega), if_neg (by omega)], hM22.sc⟩
    refine g_tableOut (pc := 26) (tgt := 193) E dX5_student_26 (by omega) (by decide) ?_
    refine g_bipush (pc := 193) E dX5_student_193 rfl ?_
    refine g_iret (pc := 195) E hr dX5_student_195 ?_
    exact ⟨by rw [skS, if_neg (by omega), if_pos (by omega)], hM22.sc⟩
  · replace qh8 := bi_0.mp qh8
    refine g_iconst (pc := 11) E dX5_student_11 rfl ?_
    refine g_iret (pc := 12) E hr dX5_student_12 ?_
    exact ⟨by rw [skS, if_pos (by omega)], SC5.rf M⟩

theorem ct5_again {cx : Cx} {M : Mem} {S : Int → Int} (hB : BD M S) (hV : SOK S) {sn : Int} (hsn : -2147483648 ≤ sn ∧ sn ≤ 2147483647) : Ct cx yX5_again cX5_again 2 (some .int) 6 0 0 [rf cx 183, .int (oi sn)] M (fun rz M' => agnA S sn = rz ∧ SC5 M M') := by
  refine ct_intro cd_X5_again (by decide +kernel) (Nat.le_of_ble_eq_true rfl) rfl (fun Pg Lc Ev s m args below meth c E hr => ?_)
  refine g_ent (ls' := [some (rf cx 183), some (.int (oi sn))]) rfl ?_
  have hV0 := hV.1
  have hB0 := hB.c0
  have hB1 := hB.c1
  have hB2 := hB.c2
  have hB3 := hB.c3
  refine g_aload_n (pc := 0) E dX5_again_0 (i := 0) rfl rfl ?_
  refine g_getr (i := 183) (j := 0) (t := 5) (f := 0) (pc := 1) E dX5_again_1 fl_X5_12 rfl (by decide) (by decide) rfl rfl ?_
  refine g_iload_n (pc := 4) E dX5_again_4 (i := 1) rfl rfl ?_
  refine g_callV (pc := 5) (As := [_]) E dX5_again_5 ml_X5_164 (ct_hasStudent hB hV (by omega)) rfl rfl rfl rfl (by decide) (by decide) rfl (Nat.le_of_ble_eq_true rfl) (by decide) (fun x5 M5 hM5 => ?_)
  obtain ⟨rfl, rfl⟩ := hM5
  refine g_if_ne (pc := 8) (tgt := 13) E dX5_again_8 (by decide) (fun qh8 => ?_) (fun qh8 => ?_) (Int.le_trans (by decide) (bi_R _).1) (Int.le_trans (bi_R _).2 (by decide))
  · replace qh8 := bi_n.mp qh8
    refine g_aload_n (pc := 13) E dX5_again_13 (i := 0) rfl rfl ?_
    refine g_getr (i := 183) (j := 167) (t := 5) (f := 4) (pc := 14) E dX5_again_14 fl_X5_33 rfl (by decide) (by decide) rfl rfl ?_
    refine g_aload_n (pc := 17) E dX5_again_17 (i := 0) rfl rfl ?_
    refine g_getr (i := 183) (j := 0) (t := 5) (f := 0) (pc := 18) E dX5_again_18 fl_X5_12 rfl (by decide) (by decide) rfl rfl ?_
    refine g_iload_n (pc := 21) E dX5_again_21 (i := 1) rfl rfl ?_
    refine g_callVv (pc := 22) (As := [_, _]) E dX5_again_22 ml_X5_129 (cv_assess hB hV (by omega) (by omega)) rfl rfl rfl rfl (by decide) (by decide) rfl (Nat.le_of_ble_eq_true rfl) (by decide) (fun M22 hM22 => ?_)
    have hB22 := hM22.b hB
    have hm := lkM_ok hV (s := sn) (q := -1) (o := 0) (by omega) (by omega) (by omega) (by omega)
    refine g_aload_n (pc := 25) E dX5_again_25 (i := 0) rfl rfl ?_
    refine g_getr (i := 183) (j := 167) (t := 5) (f := 4) (pc := 26) E dX5_again_26 fl_X5_33 rfl (by decide) (by decide) rfl rfl ?_
    refine g_aload_n (pc := 29) E dX5_again_29 (i := 0) rfl rfl ?_
    refine g_getr (i := 183) (j := 0) (t := 5) (f := 0) (pc := 30) E dX5_again_30 fl_X5_12 rfl (by decide) (by decide) rfl rfl ?_
    refine g_callV (pc := 33) (As := [_]) E dX5_again_33 ml_X5_275 (ct_gradeBySums hB22 hV hm hM22.inn hM22.ct hM22.f4 hM22.f5 hM22.f7 hM22.f8) rfl rfl rfl rfl (by decide) (by decide) rfl (Nat.le_of_ble_eq_true rfl) (by decide) (fun x33 M33 hM33 => ?_)
    obtain ⟨rfl, rfl⟩ := hM33
    refine g_iret (pc := 36) E hr dX5_again_36 ?_
    exact ⟨by rw [agnA, if_neg (by omega)], hM22.sc⟩
  · replace qh8 := bi_0.mp qh8
    refine g_iconst (pc := 11) E dX5_again_11 rfl ?_
    refine g_iret (pc := 12) E hr dX5_again_12 ?_
    exact ⟨by rw [agnA, if_pos (by omega)], SC5.rf M⟩

theorem ct5_why {cx : Cx} {M : Mem} {S : Int → Int} (hB : BD M S) (hV : SOK S) {sn w : Int} (hsn : -2147483648 ≤ sn ∧ sn ≤ 2147483647) (hw : -2147483648 ≤ w ∧ w ≤ 2147483647) : Ct cx yX5_why cX5_why 4 (some .int) 6 0 0 [rf cx 183, .int (oi sn), .int (oi w)] M (fun rz M' => whyA S sn w = rz ∧ SC5 M M') := by
  refine ct_intro cd_X5_why (by decide +kernel) (Nat.le_of_ble_eq_true rfl) rfl (fun Pg Lc Ev s m args below meth c E hr => ?_)
  refine g_ent (ls' := [some (rf cx 183), some (.int (oi sn)), some (.int (oi w)), none]) rfl ?_
  have hV0 := hV.1
  have hB0 := hB.c0
  have hB1 := hB.c1
  have hB2 := hB.c2
  have hB3 := hB.c3
  refine g_aload_n (pc := 0) E dX5_why_0 (i := 0) rfl rfl ?_
  refine g_getr (i := 183) (j := 0) (t := 5) (f := 0) (pc := 1) E dX5_why_1 fl_X5_12 rfl (by decide) (by decide) rfl rfl ?_
  refine g_iload_n (pc := 4) E dX5_why_4 (i := 1) rfl rfl ?_
  refine g_callV (pc := 5) (As := [_]) E dX5_why_5 ml_X5_164 (ct_hasStudent hB hV (by omega)) rfl rfl rfl rfl (by decide) (by decide) rfl (Nat.le_of_ble_eq_true rfl) (by decide) (fun x5 M5 hM5 => ?_)
  obtain ⟨rfl, rfl⟩ := hM5
  refine g_if_ne (pc := 8) (tgt := 13) E dX5_why_8 (by decide) (fun qh8 => ?_) (fun qh8 => ?_) (Int.le_trans (by decide) (bi_R _).1) (Int.le_trans (bi_R _).2 (by decide))
  · replace qh8 := bi_n.mp qh8
    refine g_iload_n (pc := 13) E dX5_why_13 (i := 2) rfl rfl ?_
    refine g_iconst (pc := 14) E dX5_why_14 rfl ?_
    refine g_iconst (pc := 15) E dX5_why_15 rfl ?_
    refine g_callS (pc := 16) (As := [_, _, _]) E dX5_why_16 ml_X5_80 (ct_isWithin (by omega) (by omega) (by omega)) rfl rfl (by decide) (by decide) rfl (Nat.le_of_ble_eq_true rfl) (by decide) (fun x16 M16 hM16 => ?_)
    obtain ⟨rfl, rfl⟩ := hM16
    refine g_if_ne (pc := 19) (tgt := 25) E dX5_why_19 (by decide) (fun qh19 => ?_) (fun qh19 => ?_) (Int.le_trans (by decide) (bi_R _).1) (Int.le_trans (bi_R _).2 (by decide))
    · replace qh19 := bi_n.mp qh19
      refine g_aload_n (pc := 25) E dX5_why_25 (i := 0) rfl rfl ?_
      refine g_getr (i := 183) (j := 167) (t := 5) (f := 4) (pc := 26) E dX5_why_26 fl_X5_33 rfl (by decide) (by decide) rfl rfl ?_
      refine g_aload_n (pc := 29) E dX5_why_29 (i := 0) rfl rfl ?_
      refine g_getr (i := 183) (j := 0) (t := 5) (f := 0) (pc := 30) E dX5_why_30 fl_X5_12 rfl (by decide) (by decide) rfl rfl ?_
      refine g_iload_n (pc := 33) E dX5_why_33 (i := 1) rfl rfl ?_
      refine g_callVv (pc := 34) (As := [_, _]) E dX5_why_34 ml_X5_129 (cv_assess hB hV (by omega) (by omega)) rfl rfl rfl rfl (by decide) (by decide) rfl (Nat.le_of_ble_eq_true rfl) (by decide) (fun M34 hM34 => ?_)
      have hB34 := hM34.b hB
      have hm := lkM_ok hV (s := sn) (q := -1) (o := 0) (by omega) (by omega) (by omega) (by omega)
      have hwR := whS_R S (lkM S sn (-1) 0)
      refine g_aload_n (pc := 37) E dX5_why_37 (i := 0) rfl rfl ?_
      refine g_getr (i := 183) (j := 167) (t := 5) (f := 4) (pc := 38) E dX5_why_38 fl_X5_33 rfl (by decide) (by decide) rfl rfl ?_
      refine g_callV (pc := 41) (As := []) E dX5_why_41 ml_X5_279 (ct_reason hB34 hV hM34.f7 hM34.f8 hM34.f11) rfl rfl rfl rfl (by decide) (by decide) rfl (Nat.le_of_ble_eq_true rfl) (by decide) (fun x41 M41 hM41 => ?_)
      obtain ⟨rfl, rfl⟩ := hM41
      refine g_istore_n (pc := 44) E dX5_why_44 (i := 3) (ls' := [_, _, _, _]) rfl (Nat.le_of_ble_eq_true rfl) rfl ?_
      refine g_iload_n (pc := 45) E dX5_why_45 (i := 2) rfl rfl ?_
      refine g_if_ne (pc := 46) (tgt := 51) E dX5_why_46 (by decide) (fun qh46 => ?_) (fun qh46 => ?_) 
      · refine g_iload_n (pc := 51) E dX5_why_51 (i := 3) rfl rfl ?_
        refine g_iconst (pc := 52) E dX5_why_52 rfl ?_
        refine g_icmp_ne (pc := 53) (tgt := 68) E dX5_why_53 (by decide) (fun qh53 => ?_) (fun qh53 => ?_) 
        · refine g_iload_n (pc := 68) E dX5_why_68 (i := 3) rfl rfl ?_
          refine g_iconst (pc := 69) E dX5_why_69 rfl ?_
          refine g_icmp_ne (pc := 70) (tgt := 85) E dX5_why_70 (by decide) (fun qh70 => ?_) (fun qh70 => ?_) 
          · have hi0 : ¬ incS S (lkM S sn (-1) 0) := fun z => qh53 (gr_inc z).2
            have hl0 : ¬ 0 ≤ lostS S (lkM S sn (-1) 0) := fun z => qh70 (gr_lost hi0 z).2
            have hwn := wn_av hi0 hl0
            refine g_aload_n (pc := 85) E dX5_why_85 (i := 0) rfl rfl ?_
            refine g_getr (i := 183) (j := 167) (t := 5) (f := 4) (pc := 86) E dX5_why_86 fl_X5_33 rfl (by decide) (by decide) rfl rfl ?_
            refine g_geti (i := 167) (t := 4) (f := 9) (fz := 9) (pc := 89) E dX5_why_89 fl_X5_254 rfl (by decide) (by decide) rfl rfl (v := avS S (lkM S sn (-1) 0)) (by exact hM34.f9.trans (if_neg hi0)) (fun _ _ => ?_)
            refine g_bipush (pc := 92) E dX5_why_92 rfl ?_
            refine g_gets (i := 202) (pc := 94) E dX5_why_94 (by decide) (by decide) (big_at 731 (by decide +kernel) (by decide +kernel)) ?_
            refine g_aload_n (pc := 97) E dX5_why_97 (i := 0) rfl rfl ?_
            refine g_getr (i := 183) (j := 167) (t := 5) (f := 4) (pc := 98) E dX5_why_98 fl_X5_33 rfl (by decide) (by decide) rfl rfl ?_
            refine g_geti (i := 167) (t := 4) (f := 10) (fz := 10) (pc := 101) E dX5_why_101 fl_X5_257 rfl (by decide) (by decide) rfl rfl hM34.f10 (fun _ _ => ?_)
            refine g_sald (pc := 104) E dX5_why_104 (by decide) (by decide) (by omega) (by show _ < ((5 : Nat) : Int); omega) (v := limS (grS S (lkM S sn (-1) 0))) (by exact sv202 (by omega)) ?_
            refine g_imul (pc := 105) E dX5_why_105 ?_
            refine g_isub (pc := 106) E dX5_why_106 ?_
            refine g_iret (pc := 107) E hr dX5_why_107 ?_
            exact ⟨by rw [whyA, if_neg (by omega), if_neg (by omega), if_neg (by omega), hwn.1], hM34.sc⟩
          · refine g_aload_n (pc := 73) E dX5_why_73 (i := 0) rfl rfl ?_
            refine g_getr (i := 183) (j := 167) (t := 5) (f := 4) (pc := 74) E dX5_why_74 fl_X5_33 rfl (by decide) (by decide) rfl rfl ?_
            refine g_aload_n (pc := 77) E dX5_why_77 (i := 0) rfl rfl ?_
            refine g_getr (i := 183) (j := 0) (t := 5) (f := 0) (pc := 78) E dX5_why_78 fl_X5_12 rfl (by decide) (by decide) rfl rfl ?_
            refine g_callV (pc := 81) (As := [_]) E dX5_why_81 ml_X5_286 (ct_firstFailed hB34 hV hM34.st) rfl rfl rfl rfl (by decide) (by decide) rfl (Nat.le_of_ble_eq_true rfl) (by decide) (fun x81 M81 hM81 => ?_)
            obtain ⟨rfl, rfl⟩ := hM81
            refine g_iret (pc := 84) E hr dX5_why_84 ?_
            have hi0 : ¬ incS S (lkM S sn (-1) 0) := fun z => qh53 (gr_inc z).2
            have hl0 : 0 ≤ lostS S (lkM S sn (-1) 0) := by
              by_cases z : 0 ≤ lostS S (lkM S sn (-1) 0)
              · exact z
              · exfalso; unfold whS at qh70; rw [if_neg hi0, if_neg z] at qh70; (repeat' split at qh70) <;> omega
            exact ⟨by rw [whyA, if_neg (by omega), if_neg (by omega), if_neg (by omega), wnS, if_neg hi0, if_pos hl0, if_neg (by omega)], hM34.sc⟩
        · refine g_aload_n (pc := 56) E dX5_why_56 (i := 0) rfl rfl ?_
          refine g_getr (i := 183) (j := 167) (t := 5) (f := 4) (pc := 57) E dX5_why_57 fl_X5_33 rfl (by decide) (by decide) rfl rfl ?_
          refine g_aload_n (pc := 60) E dX5_why_60 (i := 0) rfl rfl ?_
          refine g_getr (i := 183) (j := 0) (t := 5) (f := 0) (pc := 61) E dX5_why_61 fl_X5_12 rfl (by decide) (by decide) rfl rfl ?_
          refine g_callV (pc := 64) (As := [_]) E dX5_why_64 ml_X5_283 (ct_firstIncomplete hB34 hV hm hM34.inn hM34.ct) rfl rfl rfl rfl (by decide) (by decide) rfl (Nat.le_of_ble_eq_true rfl) (by decide) (fun x64 M64 hM64 => ?_)
          obtain ⟨rfl, rfl⟩ := hM64
          refine g_iret (pc := 67) E hr dX5_why_67 ?_
          have hi0 : incS S (lkM S sn (-1) 0) := by
            by_cases z : incS S (lkM S sn (-1) 0)
            · exact z
            · exfalso; unfold whS at qh53; rw [if_neg z] at qh53; (repeat' split at qh53) <;> omega
          exact ⟨by rw [whyA, if_neg (by omega), if_neg (by omega), if_neg (by omega), wnS, if_pos hi0], hM34.sc⟩
      · refine g_iload_n (pc := 49) E dX5_why_49 (i := 3) rfl rfl ?_
        refine g_iret (pc := 50) E hr dX5_why_50 ?_
        exact ⟨by rw [whyA, if_neg (by omega), if_neg (by omega), if_pos (by omega)], hM34.sc⟩
    · replace qh19 := bi_0.mp qh19
      refine g_bipush (pc := 22) E dX5_why_22 rfl ?_
      refine g_iret (pc := 24) E hr dX5_why_24 ?_
      exact ⟨by rw [whyA, if_neg (by omega), if_pos (by omega)], SC5.rf M⟩
  · replace qh8 := bi_0.mp qh8
    refine g_iconst (pc := 11) E dX5_why_11 rfl ?_
    refine g_iret (pc := 12) E hr dX5_why_12 ?_
    exact ⟨by rw [whyA, if_pos (by omega)], SC5.rf M⟩

theorem ct5_ranked {cx : Cx} {M : Mem} {S : Int → Int} (hB : BD M S) (hV : SOK S) {pl : Int} (hpl : -2147483648 ≤ pl ∧ pl ≤ 2147483647) : Ct cx yX5_ranked cX5_ranked 2 (some .int) 7 0 0 [rf cx 183, .int (oi pl)] M (fun rz M' => rdS S pl = rz ∧ SC5 M M') := by
  refine ct_intro cd_X5_ranked (by decide +kernel) (Nat.le_of_ble_eq_true rfl) rfl (fun Pg Lc Ev s m args below meth c E hr => ?_)
  refine g_ent (ls' := [some (rf cx 183), some (.int (oi pl))]) rfl ?_
  have hV0 := hV.1
  have hB0 := hB.c0
  have hB1 := hB.c1
  have hB2 := hB.c2
  have hB3 := hB.c3
  refine g_iload_n (pc := 0) E dX5_ranked_0 (i := 1) rfl rfl ?_
  refine g_if_lt (pc := 1) (tgt := 15) E dX5_ranked_1 (by decide) (fun qh1 => ?_) (fun qh1 => ?_) 
  · refine g_iconst (pc := 15) E dX5_ranked_15 rfl ?_
    refine g_iret (pc := 16) E hr dX5_ranked_16 ?_
    exact ⟨by rw [rdS, if_pos (by omega)], SC5.rf M⟩
  · refine g_iload_n (pc := 4) E dX5_ranked_4 (i := 1) rfl rfl ?_
    refine g_aload_n (pc := 5) E dX5_ranked_5 (i := 0) rfl rfl ?_
    refine g_getr (i := 183) (j := 0) (t := 5) (f := 0) (pc := 6) E dX5_ranked_6 fl_X5_12 rfl (by decide) (by decide) rfl rfl ?_
    refine g_geti (i := 0) (t := 0) (f := 2) (fz := 2) (pc := 9) E dX5_ranked_9 fl_X5_109 rfl (by decide) (by decide) rfl rfl hB.c2 (fun _ _ => ?_)
    refine g_icmp_lt (pc := 12) (tgt := 17) E dX5_ranked_12 (by decide) (fun qh12 => ?_) (fun qh12 => ?_) 
    · refine g_aload_n (pc := 17) E dX5_ranked_17 (i := 0) rfl rfl ?_
      refine g_getr (i := 183) (j := 172) (t := 5) (f := 5) (pc := 18) E dX5_ranked_18 fl_X5_40 rfl (by decide) (by decide) rfl rfl ?_
      refine g_aload_n (pc := 21) E dX5_ranked_21 (i := 0) rfl rfl ?_
      refine g_getr (i := 183) (j := 0) (t := 5) (f := 0) (pc := 22) E dX5_ranked_22 fl_X5_12 rfl (by decide) (by decide) rfl rfl ?_
      refine g_aload_n (pc := 25) E dX5_ranked_25 (i := 0) rfl rfl ?_
      refine g_getr (i := 183) (j := 167) (t := 5) (f := 4) (pc := 26) E dX5_ranked_26 fl_X5_33 rfl (by decide) (by decide) rfl rfl ?_
      refine g_callVv (pc := 29) (As := [_, _]) E dX5_ranked_29 ml_X5_266 (cv_rassess hB hV) rfl rfl rfl rfl (by decide) (by decide) rfl (Nat.le_of_ble_eq_true rfl) (by decide) (fun M29 hM29 => ?_)
      refine g_aload_n (pc := 32) E dX5_ranked_32 (i := 0) rfl rfl ?_
      refine g_getr (i := 183) (j := 172) (t := 5) (f := 5) (pc := 33) E dX5_ranked_33 fl_X5_40 rfl (by decide) (by decide) rfl rfl ?_
      refine g_iload_n (pc := 36) E dX5_ranked_36 (i := 1) rfl rfl ?_
      refine g_callV (pc := 37) (As := [_]) E dX5_ranked_37 ml_X5_292 (ct_studentAt hV hM29.2 (by omega)) rfl rfl rfl rfl (by decide) (by decide) rfl (Nat.le_of_ble_eq_true rfl) (by decide) (fun x37 M37 hM37 => ?_)
      obtain ⟨rfl, rfl⟩ := hM37
      refine g_iret (pc := 40) E hr dX5_ranked_40 ?_
      exact ⟨by rw [rdS, if_neg (by omega)], hM29.sc⟩
    · refine g_iconst (pc := 15) E dX5_ranked_15 rfl ?_
      refine g_iret (pc := 16) E hr dX5_ranked_16 ?_
      exact ⟨by rw [rdS, if_pos (by omega)], SC5.rf M⟩

theorem ct5_ofClass {cx : Cx} {M : Mem} {S : Int → Int} (hB : BD M S) (hV : SOK S) {g w : Int} (hg : -2147483648 ≤ g ∧ g ≤ 2147483647) (hw : -2147483648 ≤ w ∧ w ≤ 2147483647) : Ct cx yX5_ofClass cX5_ofClass 3 (some .int) 7 0 0 [rf cx 183, .int (oi g), .int (oi w)] M (fun rz M' => ocS S g w = rz ∧ SC5 M M') := by
  refine ct_intro cd_X5_ofClass (by decide +kernel) (Nat.le_of_ble_eq_true rfl) rfl (fun Pg Lc Ev s m args below meth c E hr => ?_)
  refine g_ent (ls' := [some (rf cx 183), some (.int (oi g)), some (.int (oi w))]) rfl ?_
  have hV0 := hV.1
  have hB0 := hB.c0
  have hB1 := hB.c1
  have hB2 := hB.c2
  have hB3 := hB.c3
  refine g_iload_n (pc := 0) E dX5_ofClass_0 (i := 1) rfl rfl ?_
  refine g_iconst (pc := 1) E dX5_ofClass_1 rfl ?_
  refine g_iconst (pc := 2) E dX5_ofClass_2 rfl ?_
  refine g_callS (pc := 3) (As := [_, _, _]) E dX5_ofClass_3 ml_X5_80 (ct_isWithin (by omega) (by omega) (by omega)) rfl rfl (by decide) (by decide) rfl (Nat.le_of_ble_eq_true rfl) (by decide) (fun x3 M3 hM3 => ?_)
  obtain ⟨rfl, rfl⟩ := hM3
  refine g_if_ne (pc := 6) (tgt := 11) E dX5_ofClass_6 (by decide) (fun qh6 => ?_) (fun qh6 => ?_) (Int.le_trans (by decide) (bi_R _).1) (Int.le_trans (bi_R _).2 (by decide))
  · replace qh6 := bi_n.mp qh6
    refine g_iload_n (pc := 11) E dX5_ofClass_11 (i := 2) rfl rfl ?_
    refine g_iconst (pc := 12) E dX5_ofClass_12 rfl ?_
    refine g_iconst (pc := 13) E dX5_ofClass_13 rfl ?_
    refine g_callS (pc := 14) (As := [_, _, _]) E dX5_ofClass_14 ml_X5_80 (ct_isWithin (by omega) (by omega) (by omega)) rfl rfl (by decide) (by decide) rfl (Nat.le_of_ble_eq_true rfl) (by decide) (fun x14 M14 hM14 => ?_)
    obtain ⟨rfl, rfl⟩ := hM14
    refine g_if_ne (pc := 17) (tgt := 23) E dX5_ofClass_17 (by decide) (fun qh17 => ?_) (fun qh17 => ?_) (Int.le_trans (by decide) (bi_R _).1) (Int.le_trans (bi_R _).2 (by decide))
    · replace qh17 := bi_n.mp qh17
      refine g_aload_n (pc := 23) E dX5_ofClass_23 (i := 0) rfl rfl ?_
      refine g_getr (i := 183) (j := 172) (t := 5) (f := 5) (pc := 24) E dX5_ofClass_24 fl_X5_40 rfl (by decide) (by decide) rfl rfl ?_
      refine g_aload_n (pc := 27) E dX5_ofClass_27 (i := 0) rfl rfl ?_
      refine g_getr (i := 183) (j := 0) (t := 5) (f := 0) (pc := 28) E dX5_ofClass_28 fl_X5_12 rfl (by decide) (by decide) rfl rfl ?_
      refine g_aload_n (pc := 31) E dX5_ofClass_31 (i := 0) rfl rfl ?_
      refine g_getr (i := 183) (j := 167) (t := 5) (f := 4) (pc := 32) E dX5_ofClass_32 fl_X5_33 rfl (by decide) (by decide) rfl rfl ?_
      refine g_callVv (pc := 35) (As := [_, _]) E dX5_ofClass_35 ml_X5_266 (cv_rassess hB hV) rfl rfl rfl rfl (by decide) (by decide) rfl (Nat.le_of_ble_eq_true rfl) (by decide) (fun M35 hM35 => ?_)
      refine g_iload_n (pc := 38) E dX5_ofClass_38 (i := 2) rfl rfl ?_
      refine g_if_ne (pc := 39) (tgt := 51) E dX5_ofClass_39 (by decide) (fun qh39 => ?_) (fun qh39 => ?_) 
      · refine g_iload_n (pc := 51) E dX5_ofClass_51 (i := 2) rfl rfl ?_
        refine g_iconst (pc := 52) E dX5_ofClass_52 rfl ?_
        refine g_icmp_ne (pc := 53) (tgt := 65) E dX5_ofClass_53 (by decide) (fun qh53 => ?_) (fun qh53 => ?_) 
        · have hnR : 0 ≤ sz (ocN S g) (S 7) := sz_pos (fun j _ _ => by unfold ocN; split <;> omega)
          refine g_iload_n (pc := 65) E dX5_ofClass_65 (i := 1) rfl rfl ?_
          refine g_if_ne (pc := 66) (tgt := 74) E dX5_ofClass_66 (by decide) (fun qh66 => ?_) (fun qh66 => ?_) 
          · refine g_aload_n (pc := 74) E dX5_ofClass_74 (i := 0) rfl rfl ?_
            refine g_getr (i := 183) (j := 172) (t := 5) (f := 5) (pc := 75) E dX5_ofClass_75 fl_X5_40 rfl (by decide) (by decide) rfl rfl ?_
            refine g_iload_n (pc := 78) E dX5_ofClass_78 (i := 1) rfl rfl ?_
            refine g_callV (pc := 79) (As := [_]) E dX5_ofClass_79 ml_X5_301 (ct_meanAverage hV hM35.2 (by omega)) rfl rfl rfl rfl (by decide) (by decide) rfl (Nat.le_of_ble_eq_true rfl) (by decide) (fun x79 M79 hM79 => ?_)
            obtain ⟨rfl, rfl⟩ := hM79
            refine g_iret (pc := 82) E hr dX5_ofClass_82 ?_
            refine ⟨?_, hM35.sc⟩
            by_cases hz : 0 < sz (ocN S g) (S 7)
            · rw [ocS, if_neg (by omega), if_neg (by omega), if_neg (by omega), if_neg (by omega), if_neg (by omega), if_pos hz, ocK_A hV qh66]
            · rw [ocS, if_neg (by omega), if_neg (by omega), if_neg (by omega), if_neg (by omega), if_pos (by omega), if_neg hz]
          · refine g_bipush (pc := 69) E dX5_ofClass_69 rfl ?_
            refine g_goto (pc := 71) (tgt := 82) E dX5_ofClass_71 (by decide) ?_
            refine g_iret (pc := 82) E hr dX5_ofClass_82 ?_
            exact ⟨by rw [ocS, if_neg (by omega), if_neg (by omega), if_neg (by omega), if_neg (by omega), if_pos (by omega)], hM35.sc⟩
        · refine g_aload_n (pc := 56) E dX5_ofClass_56 (i := 0) rfl rfl ?_
          refine g_getr (i := 183) (j := 172) (t := 5) (f := 5) (pc := 57) E dX5_ofClass_57 fl_X5_40 rfl (by decide) (by decide) rfl rfl ?_
          refine g_iload_n (pc := 60) E dX5_ofClass_60 (i := 1) rfl rfl ?_
          refine g_callV (pc := 61) (As := [_]) E dX5_ofClass_61 ml_X5_298 (ct_liftedTo hV hM35.2 (by omega)) rfl rfl rfl rfl (by decide) (by decide) rfl (Nat.le_of_ble_eq_true rfl) (by decide) (fun x61 M61 hM61 => ?_)
          obtain ⟨rfl, rfl⟩ := hM61
          refine g_iret (pc := 64) E hr dX5_ofClass_64 ?_
          exact ⟨by rw [ocS, if_neg (by omega), if_neg (by omega), if_neg (by omega), if_pos (by omega)], hM35.sc⟩
      · refine g_aload_n (pc := 42) E dX5_ofClass_42 (i := 0) rfl rfl ?_
        refine g_getr (i := 183) (j := 172) (t := 5) (f := 5) (pc := 43) E dX5_ofClass_43 fl_X5_40 rfl (by decide) (by decide) rfl rfl ?_
        refine g_iload_n (pc := 46) E dX5_ofClass_46 (i := 1) rfl rfl ?_
        refine g_callV (pc := 47) (As := [_]) E dX5_ofClass_47 ml_X5_295 (ct_countOf hV hM35.2 (by omega)) rfl rfl rfl rfl (by decide) (by decide) rfl (Nat.le_of_ble_eq_true rfl) (by decide) (fun x47 M47 hM47 => ?_)
        obtain ⟨rfl, rfl⟩ := hM47
        refine g_iret (pc := 50) E hr dX5_ofClass_50 ?_
        exact ⟨by rw [ocS, if_neg (by omega), if_neg (by omega), if_pos (by omega)], hM35.sc⟩
    · replace qh17 := bi_0.mp qh17
      refine g_bipush (pc := 20) E dX5_ofClass_20 rfl ?_
      refine g_iret (pc := 22) E hr dX5_ofClass_22 ?_
      exact ⟨by rw [ocS, if_neg (by omega), if_pos (by omega)], SC5.rf M⟩
  · replace qh6 := bi_0.mp qh6
    refine g_iconst (pc := 9) E dX5_ofClass_9 rfl ?_
    refine g_iret (pc := 10) E hr dX5_ofClass_10 ?_
    exact ⟨by rw [ocS, if_pos (by omega)], SC5.rf M⟩

theorem ct5_classIf {cx : Cx} {M : Mem} {S : Int → Int} (hB : BD M S) (hV : SOK S) {sn p x : Int} (hsn : -2147483648 ≤ sn ∧ sn ≤ 2147483647) (hp : -2147483648 ≤ p ∧ p ≤ 2147483647) (hx : -2147483648 ≤ x ∧ x ≤ 2147483647) : Ct cx yX5_classIf cX5_classIf 4 (some .int) 6 0 0 [rf cx 183, .int (oi sn), .int (oi p), .int (oi x)] M (fun rz M' => cifA S sn p x = rz ∧ SC5 M M') := by
  refine ct_intro cd_X5_classIf (by decide +kernel) (Nat.le_of_ble_eq_true rfl) rfl (fun Pg Lc Ev s m args below meth c E hr => ?_)
  refine g_ent (ls' := [some (rf cx 183), some (.int (oi sn)), some (.int (oi p)), some (.int (oi x))]) rfl ?_
  have hV0 := hV.1
  have hB0 := hB.c0
  have hB1 := hB.c1
  have hB2 := hB.c2
  have hB3 := hB.c3
  refine g_aload_n (pc := 0) E dX5_classIf_0 (i := 0) rfl rfl ?_
  refine g_getr (i := 183) (j := 0) (t := 5) (f := 0) (pc := 1) E dX5_classIf_1 fl_X5_12 rfl (by decide) (by decide) rfl rfl ?_
  refine g_iload_n (pc := 4) E dX5_classIf_4 (i := 1) rfl rfl ?_
  refine g_callV (pc := 5) (As := [_]) E dX5_classIf_5 ml_X5_164 (ct_hasStudent hB hV (by omega)) rfl rfl rfl rfl (by decide) (by decide) rfl (Nat.le_of_ble_eq_true rfl) (by decide) (fun x5 M5 hM5 => ?_)
  obtain ⟨rfl, rfl⟩ := hM5
  refine g_if_eq (pc := 8) (tgt := 22) E dX5_classIf_8 (by decide) (fun qh8 => ?_) (fun qh8 => ?_) (Int.le_trans (by decide) (bi_R _).1) (Int.le_trans (bi_R _).2 (by decide))
  · replace qh8 := bi_0.mp qh8
    refine g_iconst (pc := 22) E dX5_classIf_22 rfl ?_
    refine g_iret (pc := 23) E hr dX5_classIf_23 ?_
    exact ⟨by rw [cifA, if_pos (by omega)], SC5.rf M⟩
  · replace qh8 := bi_n.mp qh8
    refine g_aload_n (pc := 11) E dX5_classIf_11 (i := 0) rfl rfl ?_
    refine g_getr (i := 183) (j := 0) (t := 5) (f := 0) (pc := 12) E dX5_classIf_12 fl_X5_12 rfl (by decide) (by decide) rfl rfl ?_
    refine g_iload_n (pc := 15) E dX5_classIf_15 (i := 2) rfl rfl ?_
    refine g_callV (pc := 16) (As := [_]) E dX5_classIf_16 ml_X5_115 (ct_hasPaper hB hV (by omega)) rfl rfl rfl rfl (by decide) (by decide) rfl (Nat.le_of_ble_eq_true rfl) (by decide) (fun x16 M16 hM16 => ?_)
    obtain ⟨rfl, rfl⟩ := hM16
    refine g_if_ne (pc := 19) (tgt := 24) E dX5_classIf_19 (by decide) (fun qh19 => ?_) (fun qh19 => ?_) (Int.le_trans (by decide) (bi_R _).1) (Int.le_trans (bi_R _).2 (by decide))
    · replace qh19 := bi_n.mp qh19
      refine g_iload_n (pc := 24) E dX5_classIf_24 (i := 3) rfl rfl ?_
      refine g_iconst (pc := 25) E dX5_classIf_25 rfl ?_
      refine g_bipush (pc := 26) E dX5_classIf_26 rfl ?_
      refine g_callS (pc := 28) (As := [_, _, _]) E dX5_classIf_28 ml_X5_80 (ct_isWithin (by omega) (by omega) (by omega)) rfl rfl (by decide) (by decide) rfl (Nat.le_of_ble_eq_true rfl) (by decide) (fun x28 M28 hM28 => ?_)
      obtain ⟨rfl, rfl⟩ := hM28
      refine g_if_ne (pc := 31) (tgt := 37) E dX5_classIf_31 (by decide) (fun qh31 => ?_) (fun qh31 => ?_) (Int.le_trans (by decide) (bi_R _).1) (Int.le_trans (bi_R _).2 (by decide))
      · replace qh31 := bi_n.mp qh31
        refine g_aload_n (pc := 37) E dX5_classIf_37 (i := 0) rfl rfl ?_
        refine g_getr (i := 183) (j := 167) (t := 5) (f := 4) (pc := 38) E dX5_classIf_38 fl_X5_33 rfl (by decide) (by decide) rfl rfl ?_
        refine g_aload_n (pc := 41) E dX5_classIf_41 (i := 0) rfl rfl ?_
        refine g_getr (i := 183) (j := 0) (t := 5) (f := 0) (pc := 42) E dX5_classIf_42 fl_X5_12 rfl (by decide) (by decide) rfl rfl ?_
        refine g_iload_n (pc := 45) E dX5_classIf_45 (i := 1) rfl rfl ?_
        refine g_callVv (pc := 46) (As := [_, _]) E dX5_classIf_46 ml_X5_129 (cv_assess hB hV (by omega) (by omega)) rfl rfl rfl rfl (by decide) (by decide) rfl (Nat.le_of_ble_eq_true rfl) (by decide) (fun M46 hM46 => ?_)
        have hB46 := hM46.b hB
        refine g_aload_n (pc := 49) E dX5_classIf_49 (i := 0) rfl rfl ?_
        refine g_getr (i := 183) (j := 167) (t := 5) (f := 4) (pc := 50) E dX5_classIf_50 fl_X5_33 rfl (by decide) (by decide) rfl rfl ?_
        refine g_aload_n (pc := 53) E dX5_classIf_53 (i := 0) rfl rfl ?_
        refine g_getr (i := 183) (j := 0) (t := 5) (f := 0) (pc := 54) E dX5_classIf_54 fl_X5_12 rfl (by decide) (by decide) rfl rfl ?_
        refine g_iload_n (pc := 57) E dX5_classIf_57 (i := 2) rfl rfl ?_
        refine g_iload_n (pc := 58) E dX5_classIf_58 (i := 3) rfl rfl ?_
        refine g_callVv (pc := 59) (As := [_, _, _]) E dX5_classIf_59 ml_X5_304 (cv_assume (sn := sn) hB46 hV (by omega) (by omega) (by omega) (by omega) (by omega) (by omega) (fun q a b _ => by rw [hM46.2.1 q a b, lk_mk S sn a])) rfl rfl rfl rfl (by decide) (by decide) rfl (Nat.le_of_ble_eq_true rfl) (by decide) (fun M59 hM59 => ?_)
        refine g_aload_n (pc := 62) E dX5_classIf_62 (i := 0) rfl rfl ?_
        refine g_getr (i := 183) (j := 167) (t := 5) (f := 4) (pc := 63) E dX5_classIf_63 fl_X5_33 rfl (by decide) (by decide) rfl rfl ?_
        refine g_geti (i := 167) (t := 4) (f := 10) (fz := 10) (pc := 66) E dX5_classIf_66 fl_X5_257 rfl (by decide) (by decide) rfl rfl hM59.f10 (fun _ _ => ?_)
        refine g_iret (pc := 69) E hr dX5_classIf_69 ?_
        exact ⟨by rw [cifA, if_neg (by omega), if_neg (by omega)], (hM46.sc.tr hM59.sc)⟩
      · replace qh31 := bi_0.mp qh31
        refine g_bipush (pc := 34) E dX5_classIf_34 rfl ?_
        refine g_iret (pc := 36) E hr dX5_classIf_36 ?_
        exact ⟨by rw [cifA, if_neg (by omega), if_pos (by omega)], SC5.rf M⟩
    · replace qh19 := bi_0.mp qh19
      refine g_iconst (pc := 22) E dX5_classIf_22 rfl ?_
      refine g_iret (pc := 23) E hr dX5_classIf_23 ?_
      exact ⟨by rw [cifA, if_pos (by omega)], SC5.rf M⟩

theorem neF_iff {S : Int → Int} {s p b x : Int} : neF S s p b x = 1 ↔ (0 < grS S (lkM S s p x) ∧ grS S (lkM S s p x) < b) := by
  unfold neF
  split
  · exact ⟨fun _ => by assumption, fun _ => rfl⟩
  · exact ⟨fun h => absurd h (by decide), fun h => absurd h (by assumption)⟩

theorem ct5_needed {cx : Cx} {M : Mem} {S : Int → Int} (hB : BD M S) (hV : SOK S) {sn p : Int} (hsn : -2147483648 ≤ sn ∧ sn ≤ 2147483647) (hp : -2147483648 ≤ p ∧ p ≤ 2147483647) : Ct cx yX5_needed cX5_needed 6 (some .int) 6 0 0 [rf cx 183, .int (oi sn), .int (oi p)] M (fun rz M' => neS S sn p = rz ∧ SC5 M M') := by
  refine ct_intro cd_X5_needed (by decide +kernel) (Nat.le_of_ble_eq_true rfl) rfl (fun Pg Lc Ev s m args below meth c E hr => ?_)
  refine g_ent (ls' := [some (rf cx 183), some (.int (oi sn)), some (.int (oi p)), none, none, none]) rfl ?_
  have hV0 := hV.1
  have hB0 := hB.c0
  have hB1 := hB.c1
  have hB2 := hB.c2
  have hB3 := hB.c3
  have hfi := fi_is (neF S sn p (neB S sn)) (n := 101) (by decide)
  have hgR := grS_R S (lkM S sn (-1) 0)
  refine g_aload_n (pc := 0) E dX5_needed_0 (i := 0) rfl rfl ?_
  refine g_getr (i := 183) (j := 0) (t := 5) (f := 0) (pc := 1) E dX5_needed_1 fl_X5_12 rfl (by decide) (by decide) rfl rfl ?_
  refine g_iload_n (pc := 4) E dX5_needed_4 (i := 1) rfl rfl ?_
  refine g_callV (pc := 5) (As := [_]) E dX5_needed_5 ml_X5_164 (ct_hasStudent hB hV (by omega)) rfl rfl rfl rfl (by decide) (by decide) rfl (Nat.le_of_ble_eq_true rfl) (by decide) (fun x5 M5 hM5 => ?_)
  obtain ⟨rfl, rfl⟩ := hM5
  refine g_if_eq (pc := 8) (tgt := 22) E dX5_needed_8 (by decide) (fun qh8 => ?_) (fun qh8 => ?_) (Int.le_trans (by decide) (bi_R _).1) (Int.le_trans (bi_R _).2 (by decide))
  · replace qh8 := bi_0.mp qh8
    refine g_iconst (pc := 22) E dX5_needed_22 rfl ?_
    refine g_iret (pc := 23) E hr dX5_needed_23 ?_
    exact ⟨by rw [neS, if_pos (by omega)], SC5.rf M⟩
  · replace qh8 := bi_n.mp qh8
    refine g_aload_n (pc := 11) E dX5_needed_11 (i := 0) rfl rfl ?_
    refine g_getr (i := 183) (j := 0) (t := 5) (f := 0) (pc := 12) E dX5_needed_12 fl_X5_12 rfl (by decide) (by decide) rfl rfl ?_
    refine g_iload_n (pc := 15) E dX5_needed_15 (i := 2) rfl rfl ?_
    refine g_callV (pc := 16) (As := [_]) E dX5_needed_16 ml_X5_115 (ct_hasPaper hB hV (by omega)) rfl rfl rfl rfl (by decide) (by decide) rfl (Nat.le_of_ble_eq_true rfl) (by decide) (fun x16 M16 hM16 => ?_)
    obtain ⟨rfl, rfl⟩ := hM16
    refine g_if_ne (pc := 19) (tgt := 24) E dX5_needed_19 (by decide) (fun qh19 => ?_) (fun qh19 => ?_) (Int.le_trans (by decide) (bi_R _).1) (Int.le_trans (bi_R _).2 (by decide))
    · replace qh19 := bi_n.mp qh19
      refine g_aload_n (pc := 24) E dX5_needed_24 (i := 0) rfl rfl ?_
      refine g_getr (i := 183) (j := 167) (t := 5) (f := 4) (pc := 25) E dX5_needed_25 fl_X5_33 rfl (by decide) (by decide) rfl rfl ?_
      refine g_aload_n (pc := 28) E dX5_needed_28 (i := 0) rfl rfl ?_
      refine g_getr (i := 183) (j := 0) (t := 5) (f := 0) (pc := 29) E dX5_needed_29 fl_X5_12 rfl (by decide) (by decide) rfl rfl ?_
      refine g_iload_n (pc := 32) E dX5_needed_32 (i := 1) rfl rfl ?_
      refine g_callVv (pc := 33) (As := [_, _]) E dX5_needed_33 ml_X5_129 (cv_assess hB hV (by omega) (by omega)) rfl rfl rfl rfl (by decide) (by decide) rfl (Nat.le_of_ble_eq_true rfl) (by decide) (fun M33 hM33 => ?_)
      have hB33 := hM33.b hB
      refine g_aload_n (pc := 36) E dX5_needed_36 (i := 0) rfl rfl ?_
      refine g_getr (i := 183) (j := 167) (t := 5) (f := 4) (pc := 37) E dX5_needed_37 fl_X5_33 rfl (by decide) (by decide) rfl rfl ?_
      refine g_geti (i := 167) (t := 4) (f := 10) (fz := 10) (pc := 40) E dX5_needed_40 fl_X5_257 rfl (by decide) (by decide) rfl rfl hM33.f10 (fun _ _ => ?_)
      refine g_callS (pc := 43) (As := [_]) E dX5_needed_43 ml_X5_308 (ct_rankOfClass (by omega)) rfl rfl (by decide) (by decide) rfl (Nat.le_of_ble_eq_true rfl) (by decide) (fun x43 M43 hM43 => ?_)
      obtain ⟨rfl, rfl⟩ := hM43
      refine g_istore_n (pc := 46) E dX5_needed_46 (i := 3) (ls' := [_, _, _, _, _, _]) rfl (Nat.le_of_ble_eq_true rfl) rfl ?_
      have hnb : neB S sn = if 1 ≤ grS S (lkM S sn (-1) 0) ∧ grS S (lkM S sn (-1) 0) ≤ 4 then grS S (lkM S sn (-1) 0) else 5 := rfl
      have hne : ∀ y, (1 ≤ y ∧ y ≤ 4 ∧ y < (if grS S (lkM S sn (-1) 0) = 0 then 6 else grS S (lkM S sn (-1) 0))) ↔ (0 < y ∧ y < neB S sn) := fun y => by rw [hnb]; (repeat' split) <;> omega
      refine g_iconst (pc := 47) E dX5_needed_47 rfl ?_
      refine g_istore (pc := 48) E dX5_needed_48 (ls' := [_, _, _, _, _, _]) (Nat.le_of_ble_eq_true rfl) rfl ?_
      have LP50 : ∀ (n : Nat) (N : Mem) (x : Int), 101 - x < (n : Int) → 0 ≤ x → x ≤ 101 → SC5 M N → (∀ q, 0 ≤ q → q < S 6 → ¬ q = p → N 168 q = mkS S sn q) → (∀ j, 0 ≤ j → j < x → ¬ neF S sn p (neB S sn) j = 1) → G cx Pg Lc Ev (rmD 6 0 0) s m args below meth c (MQ below (QI cx (fun rz M' => neS S sn p = rz ∧ SC5 M M')) args s 0 0 (cA0 cx)) 50 [some (rf cx 183), some (.int (oi sn)), some (.int (oi p)), some (.int (oi ((if grS S (lkM S sn (-1) 0) = 0 then 6 else grS S (lkM S sn (-1) 0))))), some (.int (oi x)), none] [] (N) 0 0 := by
        intro n
        induction n with
        | zero => intro N x hn hx0 hx1 hN hq hno; exact absurd hn (by omega)
        | succ n ih50 =>
          intro N x hn hx0 hx1 hN hq hno
          have hB := hN.b hB
          refine g_iload (pc := 50) E dX5_needed_50 rfl ?_
          refine g_bipush (pc := 52) E dX5_needed_52 rfl ?_
          refine g_icmp_gt (pc := 54) (tgt := 110) E dX5_needed_54 (by decide) (fun qh54 => ?_) (fun qh54 => ?_) 
          · refine g_bipush (pc := 110) E dX5_needed_110 rfl ?_
            refine g_iret (pc := 112) E hr dX5_needed_112 ?_
            have e := isF_u hfi (Or.inl ⟨rfl, fun j a b => hno j a (by omega)⟩)
            exact ⟨by rw [neS, if_neg (by omega), if_pos e], hN⟩
          · refine g_aload_n (pc := 57) E dX5_needed_57 (i := 0) rfl rfl ?_
            refine g_getr (i := 183) (j := 167) (t := 5) (f := 4) (pc := 58) E dX5_needed_58 fl_X5_33 rfl (by decide) (by decide) rfl rfl ?_
            refine g_aload_n (pc := 61) E dX5_needed_61 (i := 0) rfl rfl ?_
            refine g_getr (i := 183) (j := 0) (t := 5) (f := 0) (pc := 62) E dX5_needed_62 fl_X5_12 rfl (by decide) (by decide) rfl rfl ?_
            refine g_iload_n (pc := 65) E dX5_needed_65 (i := 2) rfl rfl ?_
            refine g_iload (pc := 66) E dX5_needed_66 rfl ?_
            refine g_callVv (pc := 68) (As := [_, _, _]) E dX5_needed_68 ml_X5_304 (cv_assume (sn := sn) hB hV (by omega) (by omega) (by omega) (by omega) (by omega) (by omega) hq) rfl rfl rfl rfl (by decide) (by decide) rfl (Nat.le_of_ble_eq_true rfl) (by decide) (fun M68 hM68 => ?_)
            have hgX := grS_R S (lkM S sn p x)
            have hbR := bi_R (1 ≤ grS S (lkM S sn p x) ∧ grS S (lkM S sn p x) ≤ 4)
            have hnx := hne (grS S (lkM S sn p x))
            refine g_aload_n (pc := 71) E dX5_needed_71 (i := 0) rfl rfl ?_
            refine g_getr (i := 183) (j := 167) (t := 5) (f := 4) (pc := 72) E dX5_needed_72 fl_X5_33 rfl (by decide) (by decide) rfl rfl ?_
            refine g_geti (i := 167) (t := 4) (f := 10) (fz := 10) (pc := 75) E dX5_needed_75 fl_X5_257 rfl (by decide) (by decide) rfl rfl hM68.f10 (fun _ _ => ?_)
            refine g_iconst (pc := 78) E dX5_needed_78 rfl ?_
            refine g_iconst (pc := 79) E dX5_needed_79 rfl ?_
            refine g_callS (pc := 80) (As := [_, _, _]) E dX5_needed_80 ml_X5_80 (ct_isWithin (by omega) (by omega) (by omega)) rfl rfl (by decide) (by decide) rfl (Nat.le_of_ble_eq_true rfl) (by decide) (fun x80 M80 hM80 => ?_)
            obtain ⟨rfl, rfl⟩ := hM80
            refine g_istore (pc := 83) E dX5_needed_83 (ls' := [_, _, _, _, _, _]) (Nat.le_of_ble_eq_true rfl) rfl ?_
            refine g_iload (pc := 85) E dX5_needed_85 rfl ?_
            refine g_if_eq (pc := 87) (tgt := 104) E dX5_needed_87 (by decide) (fun qh87 => ?_) (fun qh87 => ?_) 
            · replace qh87 := bi_0.mp qh87
              refine g_iinc (pc := 104) E dX5_needed_104 (ls' := [_, _, _, _, _, _]) rfl rfl rfl ?_
              refine g_goto (pc := 107) (tgt := 50) E dX5_needed_107 (by decide) ?_
              exact g_wk2 (ih50 M68 (x + 1) (by omega) (by omega) (by omega) (hN.tr hM68.sc) (fun q a b c => by rw [hM68.2.1 q a b]; exact if_neg c) (fun j a b => by
                by_cases z : j = x
                · rw [z, neF_iff]; exact fun w => qh87 ⟨(hnx.mpr w).1, (hnx.mpr w).2.1⟩
                · exact hno j a (by omega))) ⟨rfl, rfl, rfl, rfl, rfl, trivial⟩
            · replace qh87 := bi_n.mp qh87
              refine g_aload_n (pc := 90) E dX5_needed_90 (i := 0) rfl rfl ?_
              refine g_getr (i := 183) (j := 167) (t := 5) (f := 4) (pc := 91) E dX5_needed_91 fl_X5_33 rfl (by decide) (by decide) rfl rfl ?_
              refine g_geti (i := 167) (t := 4) (f := 10) (fz := 10) (pc := 94) E dX5_needed_94 fl_X5_257 rfl (by decide) (by decide) rfl rfl hM68.f10 (fun _ _ => ?_)
              refine g_iload_n (pc := 97) E dX5_needed_97 (i := 3) rfl rfl ?_
              refine g_icmp_ge (pc := 98) (tgt := 104) E dX5_needed_98 (by decide) (fun qh98 => ?_) (fun qh98 => ?_) (by omega) (by omega) (by split <;> omega) (by split <;> omega)
              · refine g_iinc (pc := 104) E dX5_needed_104 (ls' := [_, _, _, _, _, _]) rfl rfl rfl ?_
                refine g_goto (pc := 107) (tgt := 50) E dX5_needed_107 (by decide) ?_
                exact g_wk2 (ih50 M68 (x + 1) (by omega) (by omega) (by omega) (hN.tr hM68.sc) (fun q a b c => by rw [hM68.2.1 q a b]; exact if_neg c) (fun j a b => by
                  by_cases z : j = x
                  · rw [z, neF_iff]; exact fun w => by have := (hnx.mpr w).2.2; omega
                  · exact hno j a (by omega))) ⟨rfl, rfl, rfl, rfl, rfl, trivial⟩
              · refine g_iload (pc := 101) E dX5_needed_101 rfl ?_
                refine g_iret (pc := 103) E hr dX5_needed_103 ?_
                have e := isF_u hfi (Or.inr ⟨hx0, by omega, neF_iff.mpr (hnx.mp ⟨qh87.1, qh87.2, by omega⟩), hno⟩)
                exact ⟨by rw [neS, if_neg (by omega), e, if_neg (by omega)], hN.tr hM68.sc⟩
      exact g_wk2 (LP50 102 M33 0 (by omega) (by omega) (by omega) hM33.sc (fun q a b _ => by rw [hM33.2.1 q a b, lk_mk S sn a]) (fun j a b => absurd b (by omega))) ⟨rfl, rfl, rfl, rfl, rfl, trivial⟩
    · replace qh19 := bi_0.mp qh19
      refine g_iconst (pc := 22) E dX5_needed_22 rfl ?_
      refine g_iret (pc := 23) E hr dX5_needed_23 ?_
      exact ⟨by rw [neS, if_pos (by omega)], SC5.rf M⟩
