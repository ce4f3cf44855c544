/-! still more of what the reference answers -/
theorem SCm.e {M N : Mem} {S : Int → Int} (h : SCm M N) (e : M 185 = S) : N 185 = S := (h.1 185 (by decide) (by decide)).trans e
theorem SCm.tr {M N O : Mem} (h : SCm M N) (g : SCm N O) : SCm M O := ⟨fun i h1 h2 => (g.1 i h1 h2).trans (h.1 i h1 h2), fun f hf => (g.2 f hf).trans (h.2 f hf)⟩
def ocN (S : Int → Int) (g s : Int) : Int := if grS S (lkM S s (-1) 0) = g then 1 else 0
def ocB (S : Int → Int) (g s : Int) : Int := if grS S (lkM S s (-1) 0) = g ∧ whS S (lkM S s (-1) 0) = 3 then 1 else 0
def ocA (S : Int → Int) (g s : Int) : Int := if grS S (lkM S s (-1) 0) = g then avS S (lkM S s (-1) 0) else 0
def ocS (S : Int → Int) (g w : Int) : Int := if ¬ (0 ≤ g ∧ g ≤ 5) then -1 else if ¬ (0 ≤ w ∧ w ≤ 2) then -2 else if w = 0 then sz (ocN S g) (S 7) else if w = 1 then sz (ocB S g) (S 7) else if sz (ocN S g) (S 7) = 0 ∨ g = 0 then -5 else sz (ocA S g) (S 7) / sz (ocN S g) (S 7)
theorem grS_0 {S mk : Int → Int} (h : ¬ grS S mk = 0) : ¬ incS S mk := fun q => h (by rw [grS, if_pos q])
def smallW (S mk : Int → Int) : Prop := 1 ≤ whS S mk ∧ whS S mk ≤ 4
theorem whS_R (S mk : Int → Int) : 1 ≤ whS S mk ∧ whS S mk ≤ 4 := by
  unfold whS
  (repeat' split) <;> omega

theorem ct_ofClass {cx : Cx} {M : Mem} {S : Int → Int} (e5 : M 185 = S) {gn w : Int} (hV : SOK S) (hgn : -2147483648 ≤ gn ∧ gn ≤ 2147483647) (hw : -2147483648 ≤ w ∧ w ≤ 2147483647) : Ct cx yX6_ofClass cX6_ofClass 7 (some .int) 10 0 0 [rf cx 184, .int (oi gn), .int (oi w)] M (fun rz M' => ocS S gn w = rz ∧ SCm M M') := by
  refine ct_intro cd_X6_ofClass (by decide +kernel) (Nat.le_of_ble_eq_true rfl) rfl (fun Pg Lc Ev s m args below meth c E hr => ?_)
  refine g_ent (ls' := [some (rf cx 184), some (.int (oi gn)), some (.int (oi w)), none, none, none, none]) rfl ?_
  have hV0 := hV.1
  have e5M := e5
  have hf := LKf.rf M
  refine g_iload_n (pc := 0) E dX6_ofClass_0 (i := 1) rfl rfl ?_
  refine g_iconst (pc := 1) E dX6_ofClass_1 rfl ?_
  refine g_iconst (pc := 2) E dX6_ofClass_2 rfl ?_
  refine g_callS (pc := 3) (As := [_, _, _]) E dX6_ofClass_3 ml_X6_66 (ct_in (by omega) (by omega) (by omega)) rfl rfl (by decide) (by decide) rfl (Nat.le_of_ble_eq_true rfl) (by decide) (fun x3 M3 hM3 => ?_)
  obtain ⟨rfl, rfl⟩ := hM3
  refine g_if_ne (pc := 6) (tgt := 11) E dX6_ofClass_6 (by decide) (fun qh6 => ?_) (fun qh6 => ?_) (Int.le_trans (by decide) (bi_R _).1) (Int.le_trans (bi_R _).2 (by decide))
  · replace qh6 := bi_n.mp qh6
    refine g_iload_n (pc := 11) E dX6_ofClass_11 (i := 2) rfl rfl ?_
    refine g_iconst (pc := 12) E dX6_ofClass_12 rfl ?_
    refine g_iconst (pc := 13) E dX6_ofClass_13 rfl ?_
    refine g_callS (pc := 14) (As := [_, _, _]) E dX6_ofClass_14 ml_X6_66 (ct_in (by omega) (by omega) (by omega)) rfl rfl (by decide) (by decide) rfl (Nat.le_of_ble_eq_true rfl) (by decide) (fun x14 M14 hM14 => ?_)
    obtain ⟨rfl, rfl⟩ := hM14
    refine g_if_ne (pc := 17) (tgt := 23) E dX6_ofClass_17 (by decide) (fun qh17 => ?_) (fun qh17 => ?_) (Int.le_trans (by decide) (bi_R _).1) (Int.le_trans (bi_R _).2 (by decide))
    · replace qh17 := bi_n.mp qh17
      refine g_iconst (pc := 23) E dX6_ofClass_23 rfl ?_
      refine g_istore_n (pc := 24) E dX6_ofClass_24 (i := 3) (ls' := [_, _, _, _, _, _, _]) rfl (Nat.le_of_ble_eq_true rfl) rfl ?_
      refine g_iconst (pc := 25) E dX6_ofClass_25 rfl ?_
      refine g_istore (pc := 26) E dX6_ofClass_26 (ls' := [_, _, _, _, _, _, _]) (Nat.le_of_ble_eq_true rfl) rfl ?_
      refine g_iconst (pc := 28) E dX6_ofClass_28 rfl ?_
      refine g_istore (pc := 29) E dX6_ofClass_29 (ls' := [_, _, _, _, _, _, _]) (Nat.le_of_ble_eq_true rfl) rfl ?_
      refine g_iconst (pc := 31) E dX6_ofClass_31 rfl ?_
      refine g_istore (pc := 32) E dX6_ofClass_32 (ls' := [_, _, _, _, _, _, _]) (Nat.le_of_ble_eq_true rfl) rfl ?_
      have LP34 : ∀ (n : Nat) (N : Mem) (x a b q : Int), S 7 - x < (n : Int) → 0 ≤ x → x ≤ S 7 → LKf M N → a = sz (ocN S gn) x → b = sz (ocB S gn) x → q = sz (ocA S gn) x → G cx Pg Lc Ev (rmD 10 0 0) s m args below meth c (MQ below (QI cx (fun rz M' => ocS S gn w = rz ∧ SCm M M')) args s 0 0 (cA0 cx)) 34 [some (rf cx 184), some (.int (oi gn)), some (.int (oi w)), some (.int (oi a)), some (.int (oi b)), some (.int (oi q)), some (.int (oi x))] [] (N) 0 0 := by
        intro n
        induction n with
        | zero => intro N x a b q hn hx0 hx1 hf ha hb hq; exact absurd hn (by omega)
        | succ n ih34 =>
          intro N x a b q hn hx0 hx1 hf ha hb hq
          have e5 : N 185 = S := hf.e e5M
          have haR := sz_R (f := ocN S gn) (a := 0) (b := 1) hx0 (fun j _ _ => by unfold ocN; split <;> omega)
          have hbR := sz_R (f := ocB S gn) (a := 0) (b := 1) hx0 (fun j _ _ => by unfold ocB; split <;> omega)
          have hqR := sz_R (f := ocA S gn) (a := -1) (b := 10000) hx0 (fun j q0 q1 => by
            have := avS_R hV (lkM_ok hV (q := -1) (o := 0) q0 (show j < S 7 by omega) (by decide) (by decide))
            unfold ocA
            split <;> omega)
          refine g_iload (pc := 34) E dX6_ofClass_34 rfl ?_
          refine g_aload_n (pc := 36) E dX6_ofClass_36 (i := 0) rfl rfl ?_
          refine g_getr (i := 184) (j := 185) (t := 6) (f := 0) (pc := 37) E dX6_ofClass_37 fl_X6_9 rfl (by decide) (by decide) rfl rfl ?_
          refine g_bipush (pc := 40) E dX6_ofClass_40 rfl ?_
          refine g_iald (pc := 42) E dX6_ofClass_42 rfl (by omega) (by omega) (congrFun e5 _) (fun _ _ => ?_)
          refine g_icmp_ge (pc := 43) (tgt := 94) E dX6_ofClass_43 (by decide) (fun qh43 => ?_) (fun qh43 => ?_) 
          · obtain rfl : x = S 7 := by omega
            refine g_iload_n (pc := 94) E dX6_ofClass_94 (i := 2) rfl rfl ?_
            refine g_iconst (pc := 95) E dX6_ofClass_95 rfl ?_
            refine g_icmp_ge (pc := 96) (tgt := 110) E dX6_ofClass_96 (by decide) (fun qh96 => ?_) (fun qh96 => ?_) 
            · refine g_iload_n (pc := 110) E dX6_ofClass_110 (i := 3) rfl rfl ?_
              refine g_if_eq (pc := 111) (tgt := 118) E dX6_ofClass_111 (by decide) (fun qh111 => ?_) (fun qh111 => ?_) 
              · refine g_bipush (pc := 118) E dX6_ofClass_118 rfl ?_
                refine g_goto (pc := 120) (tgt := 127) E dX6_ofClass_120 (by decide) ?_
                refine g_iret (pc := 127) E hr dX6_ofClass_127 ?_
                exact ⟨by rw [ocS, if_neg (by omega), if_neg (by omega), if_neg (by omega), if_neg (by omega), if_pos (by omega)], hf.sc⟩
              · refine g_iload_n (pc := 114) E dX6_ofClass_114 (i := 1) rfl rfl ?_
                refine g_if_ne (pc := 115) (tgt := 123) E dX6_ofClass_115 (by decide) (fun qh115 => ?_) (fun qh115 => ?_) 
                · have hq0 : 0 ≤ q := by
                    rw [hq]
                    refine sz_pos (fun j q0 q1 => ?_)
                    have := avS_R hV (lkM_ok hV (q := -1) (o := 0) q0 q1 (by decide) (by decide))
                    unfold ocA
                    split
                    · next hg => exact this.2.2 (grS_0 (by omega))
                    · omega
                  refine g_iload (pc := 123) E dX6_ofClass_123 rfl ?_
                  refine g_iload_n (pc := 125) E dX6_ofClass_125 (i := 3) rfl rfl ?_
                  refine g_idiv (pc := 126) E dX6_ofClass_126 (by omega) (by omega) (by omega) (by omega) ?_
                  refine g_iret (pc := 127) E hr dX6_ofClass_127 ?_
                  exact ⟨by rw [ocS, if_neg (by omega), if_neg (by omega), if_neg (by omega), if_neg (by omega), if_neg (by omega), hq, ha], hf.sc⟩
                · refine g_bipush (pc := 118) E dX6_ofClass_118 rfl ?_
                  refine g_goto (pc := 120) (tgt := 127) E dX6_ofClass_120 (by decide) ?_
                  refine g_iret (pc := 127) E hr dX6_ofClass_127 ?_
                  exact ⟨by rw [ocS, if_neg (by omega), if_neg (by omega), if_neg (by omega), if_neg (by omega), if_pos (by omega)], hf.sc⟩
            · refine g_iload_n (pc := 99) E dX6_ofClass_99 (i := 2) rfl rfl ?_
              refine g_if_ne (pc := 100) (tgt := 107) E dX6_ofClass_100 (by decide) (fun qh100 => ?_) (fun qh100 => ?_) 
              · refine g_iload (pc := 107) E dX6_ofClass_107 rfl ?_
                refine g_iret (pc := 109) E hr dX6_ofClass_109 ?_
                exact ⟨by rw [ocS, if_neg (by omega), if_neg (by omega), if_neg (by omega), if_pos (by omega), hb], hf.sc⟩
              · refine g_iload_n (pc := 103) E dX6_ofClass_103 (i := 3) rfl rfl ?_
                refine g_goto (pc := 104) (tgt := 109) E dX6_ofClass_104 (by decide) ?_
                refine g_iret (pc := 109) E hr dX6_ofClass_109 ?_
                exact ⟨by rw [ocS, if_neg (by omega), if_neg (by omega), if_pos (by omega), ha], hf.sc⟩
          · refine g_aload_n (pc := 46) E dX6_ofClass_46 (i := 0) rfl rfl ?_
            refine g_iload (pc := 47) E dX6_ofClass_47 rfl ?_
            refine g_iconst (pc := 49) E dX6_ofClass_49 rfl ?_
            refine g_iconst (pc := 50) E dX6_ofClass_50 rfl ?_
            refine g_callVv (pc := 51) (As := [_, _, _]) E dX6_ofClass_51 ml_X6_90 (cv_looks e5 hV (by omega) (by omega) (by omega) (by omega)) rfl rfl rfl rfl (by decide) (by decide) rfl (Nat.le_of_ble_eq_true rfl) (by decide) (fun M51 hM51 => ?_)
            have hf51 := LKf.tr hf hM51.1
            have e5 : M51 185 = S := hf51.e e5M
            have hgR := grS_R S (lkM S x (-1) 0)
            have hwR := whS_R S (lkM S x (-1) 0)
            have havR := avS_R hV (lkM_ok hV (q := -1) (o := 0) hx0 (show x < S 7 by omega) (by decide) (by decide))
            refine g_aload_n (pc := 54) E dX6_ofClass_54 (i := 0) rfl rfl ?_
            refine g_geti (i := 184) (t := 6) (f := 21) (fz := 21) (pc := 55) E dX6_ofClass_55 fl_X6_134 rfl (by decide) (by decide) rfl rfl hM51.2.2.2.2.2.2.1 (fun _ _ => ?_)
            refine g_iload_n (pc := 58) E dX6_ofClass_58 (i := 1) rfl rfl ?_
            refine g_icmp_eq (pc := 59) (tgt := 65) E dX6_ofClass_59 (by decide) (fun qh59 => ?_) (fun qh59 => ?_) 
            · refine g_iinc (pc := 65) E dX6_ofClass_65 (ls' := [_, _, _, _, _, _, _]) rfl rfl rfl ?_
              refine g_aload_n (pc := 68) E dX6_ofClass_68 (i := 0) rfl rfl ?_
              refine g_geti (i := 184) (t := 6) (f := 22) (fz := 22) (pc := 69) E dX6_ofClass_69 fl_X6_137 rfl (by decide) (by decide) rfl rfl hM51.2.2.2.2.2.2.2.1 (fun _ _ => ?_)
              refine g_iconst (pc := 72) E dX6_ofClass_72 rfl ?_
              refine g_icmp_ne (pc := 73) (tgt := 79) E dX6_ofClass_73 (by decide) (fun qh73 => ?_) (fun qh73 => ?_) 
              · refine g_iload (pc := 79) E dX6_ofClass_79 rfl ?_
                refine g_aload_n (pc := 81) E dX6_ofClass_81 (i := 0) rfl rfl ?_
                refine g_geti (i := 184) (t := 6) (f := 20) (fz := 20) (pc := 82) E dX6_ofClass_82 fl_X6_150 rfl (by decide) (by decide) rfl rfl hM51.2.2.2.2.2.1 (fun _ _ => ?_)
                refine g_iadd (pc := 85) E dX6_ofClass_85 ?_
                refine g_istore (pc := 86) E dX6_ofClass_86 (ls' := [_, _, _, _, _, _, _]) (Nat.le_of_ble_eq_true rfl) rfl ?_
                refine g_iinc (pc := 88) E dX6_ofClass_88 (ls' := [_, _, _, _, _, _, _]) rfl rfl rfl ?_
                refine g_goto (pc := 91) (tgt := 34) E dX6_ofClass_91 (by decide) ?_
                exact g_wk2 (ih34 (M51) (x + 1) (a + 1) b (q + avS S (lkM S x (-1) 0)) (by omega) (by omega) (by omega) hf51 (by rw [sz_s hx0, ha, show ocN S gn x = 1 from if_pos (by omega)]) (by rw [sz_s hx0, hb, show ocB S gn x = 0 from if_neg (by omega)]; omega) (by rw [sz_s hx0, hq, show ocA S gn x = avS S (lkM S x (-1) 0) from if_pos (by omega)])) ⟨rfl, rfl, rfl, rfl, rfl, rfl, rfl, trivial⟩
              · refine g_iinc (pc := 76) E dX6_ofClass_76 (ls' := [_, _, _, _, _, _, _]) rfl rfl rfl ?_
                refine g_iload (pc := 79) E dX6_ofClass_79 rfl ?_
                refine g_aload_n (pc := 81) E dX6_ofClass_81 (i := 0) rfl rfl ?_
                refine g_geti (i := 184) (t := 6) (f := 20) (fz := 20) (pc := 82) E dX6_ofClass_82 fl_X6_150 rfl (by decide) (by decide) rfl rfl hM51.2.2.2.2.2.1 (fun _ _ => ?_)
                refine g_iadd (pc := 85) E dX6_ofClass_85 ?_
                refine g_istore (pc := 86) E dX6_ofClass_86 (ls' := [_, _, _, _, _, _, _]) (Nat.le_of_ble_eq_true rfl) rfl ?_
                refine g_iinc (pc := 88) E dX6_ofClass_88 (ls' := [_, _, _, _, _, _, _]) rfl rfl rfl ?_
                refine g_goto (pc := 91) (tgt := 34) E dX6_ofClass_91 (by decide) ?_
                exact g_wk2 (ih34 (M51) (x + 1) (a + 1) (b + 1) (q + avS S (lkM S x (-1) 0)) (by omega) (by omega) (by omega) hf51 (by rw [sz_s hx0, ha, show ocN S gn x = 1 from if_pos (by omega)]) (by rw [sz_s hx0, hb, show ocB S gn x = 1 from if_pos (by omega)]) (by rw [sz_s hx0, hq, show ocA S gn x = avS S (lkM S x (-1) 0) from if_pos (by omega)])) ⟨rfl, rfl, rfl, rfl, rfl, rfl, rfl, trivial⟩
            · refine g_goto (pc := 62) (tgt := 88) E dX6_ofClass_62 (by decide) ?_
              refine g_iinc (pc := 88) E dX6_ofClass_88 (ls' := [_, _, _, _, _, _, _]) rfl rfl rfl ?_
              refine g_goto (pc := 91) (tgt := 34) E dX6_ofClass_91 (by decide) ?_
              exact g_wk2 (ih34 (M51) (x + 1) a b q (by omega) (by omega) (by omega) hf51 (by rw [sz_s hx0, ha, show ocN S gn x = 0 from if_neg (by omega)]; omega) (by rw [sz_s hx0, hb, show ocB S gn x = 0 from if_neg (by omega)]; omega) (by rw [sz_s hx0, hq, show ocA S gn x = 0 from if_neg (by omega)]; omega)) ⟨rfl, rfl, rfl, rfl, rfl, rfl, rfl, trivial⟩
      exact g_wk2 (LP34 (S 7 + 1).toNat M 0 0 0 0 (by omega) (by omega) (by omega) hf rfl rfl rfl) ⟨rfl, rfl, rfl, rfl, rfl, rfl, rfl, trivial⟩
    · replace qh17 := bi_0.mp qh17
      refine g_bipush (pc := 20) E dX6_ofClass_20 rfl ?_
      refine g_iret (pc := 22) E hr dX6_ofClass_22 ?_
      exact ⟨by rw [ocS, if_neg (by omega), if_pos (by omega)], SCm.rf M⟩
  · replace qh6 := bi_0.mp qh6
    refine g_iconst (pc := 9) E dX6_ofClass_9 rfl ?_
    refine g_iret (pc := 10) E hr dX6_ofClass_10 ?_
    exact ⟨by rw [ocS, if_pos (by omega)], SCm.rf M⟩

def rfS (r e a w : Int) : Int := if ¬ (0 ≤ w ∧ w ≤ 2) then -2 else if r = 0 then -5 else if w = 0 then r else if w = 1 then e else a
def wrS (n : Int) (W : Int → Int) (i : Int) : Int := if 0 ≤ i ∧ i < n then W i else -1

theorem ct_refusal {cx : Cx} {M : Mem} {w : Int} (hw : -2147483648 ≤ w ∧ w ≤ 2147483647) : Ct cx yX6_refusal cX6_refusal 2 (some .int) 2 0 0 [rf cx 184, .int (oi w)] M (fun rz M' => rfS (M 184 11) (M 184 12) (M 184 13) w = rz ∧ M = M') := by
  refine ct_intro cd_X6_refusal (by decide +kernel) (Nat.le_of_ble_eq_true rfl) rfl (fun Pg Lc Ev s m args below meth c E hr => ?_)
  refine g_ent (ls' := [some (rf cx 184), some (.int (oi w))]) rfl ?_
  refine g_iload_n (pc := 0) E dX6_refusal_0 (i := 1) rfl rfl ?_
  refine g_iconst (pc := 1) E dX6_refusal_1 rfl ?_
  refine g_iconst (pc := 2) E dX6_refusal_2 rfl ?_
  refine g_callS (pc := 3) (As := [_, _, _]) E dX6_refusal_3 ml_X6_66 (ct_in (by omega) (by omega) (by omega)) rfl rfl (by decide) (by decide) rfl (Nat.le_of_ble_eq_true rfl) (by decide) (fun x3 M3 hM3 => ?_)
  obtain ⟨rfl, rfl⟩ := hM3
  refine g_if_ne (pc := 6) (tgt := 12) E dX6_refusal_6 (by decide) (fun qh6 => ?_) (fun qh6 => ?_) (Int.le_trans (by decide) (bi_R _).1) (Int.le_trans (bi_R _).2 (by decide))
  · replace qh6 := bi_n.mp qh6
    refine g_aload_n (pc := 12) E dX6_refusal_12 (i := 0) rfl rfl ?_
    refine g_geti (i := 184) (t := 6) (f := 11) (fz := 11) (pc := 13) E dX6_refusal_13 fl_X6_162 rfl (by decide) (by decide) rfl rfl rfl (fun _ _ => ?_)
    refine g_if_ne (pc := 16) (tgt := 22) E dX6_refusal_16 (by decide) (fun qh16 => ?_) (fun qh16 => ?_) 
    · refine g_iload_n (pc := 22) E dX6_refusal_22 (i := 1) rfl rfl ?_
      refine g_if_ne (pc := 23) (tgt := 33) E dX6_refusal_23 (by decide) (fun qh23 => ?_) (fun qh23 => ?_) 
      · refine g_iload_n (pc := 33) E dX6_refusal_33 (i := 1) rfl rfl ?_
        refine g_iconst (pc := 34) E dX6_refusal_34 rfl ?_
        refine g_icmp_ne (pc := 35) (tgt := 45) E dX6_refusal_35 (by decide) (fun qh35 => ?_) (fun qh35 => ?_) 
        · refine g_aload_n (pc := 45) E dX6_refusal_45 (i := 0) rfl rfl ?_
          refine g_geti (i := 184) (t := 6) (f := 13) (fz := 13) (pc := 46) E dX6_refusal_46 fl_X6_165 rfl (by decide) (by decide) rfl rfl rfl (fun _ _ => ?_)
          refine g_iret (pc := 49) E hr dX6_refusal_49 ?_
          exact ⟨by rw [rfS, if_neg (by omega), if_neg (by omega), if_neg (by omega), if_neg (by omega)], rfl⟩
        · refine g_aload_n (pc := 38) E dX6_refusal_38 (i := 0) rfl rfl ?_
          refine g_geti (i := 184) (t := 6) (f := 12) (fz := 12) (pc := 39) E dX6_refusal_39 fl_X6_174 rfl (by decide) (by decide) rfl rfl rfl (fun _ _ => ?_)
          refine g_goto (pc := 42) (tgt := 49) E dX6_refusal_42 (by decide) ?_
          refine g_iret (pc := 49) E hr dX6_refusal_49 ?_
          exact ⟨by rw [rfS, if_neg (by omega), if_neg (by omega), if_neg (by omega), if_pos (by omega)], rfl⟩
      · refine g_aload_n (pc := 26) E dX6_refusal_26 (i := 0) rfl rfl ?_
        refine g_geti (i := 184) (t := 6) (f := 11) (fz := 11) (pc := 27) E dX6_refusal_27 fl_X6_162 rfl (by decide) (by decide) rfl rfl rfl (fun _ _ => ?_)
        refine g_goto (pc := 30) (tgt := 49) E dX6_refusal_30 (by decide) ?_
        refine g_iret (pc := 49) E hr dX6_refusal_49 ?_
        exact ⟨by rw [rfS, if_neg (by omega), if_neg (by omega), if_pos (by omega)], rfl⟩
    · refine g_bipush (pc := 19) E dX6_refusal_19 rfl ?_
      refine g_iret (pc := 21) E hr dX6_refusal_21 ?_
      exact ⟨by rw [rfS, if_neg (by omega), if_pos (by omega)], rfl⟩
  · replace qh6 := bi_0.mp qh6
    refine g_bipush (pc := 9) E dX6_refusal_9 rfl ?_
    refine g_iret (pc := 11) E hr dX6_refusal_11 ?_
    exact ⟨by rw [rfS, if_pos (by omega)], rfl⟩

theorem ct_written {cx : Cx} {M : Mem} {i : Int} (hi : -2147483648 ≤ i ∧ i ≤ 2147483647) (h10 : 0 ≤ M 184 10) (h10b : M 184 10 ≤ 80) : Ct cx yX6_written cX6_written 2 (some .int) 2 0 0 [rf cx 184, .int (oi i)] M (fun rz M' => wrS (M 184 10) (M 190) i = rz ∧ M = M') := by
  refine ct_intro cd_X6_written (by decide +kernel) (Nat.le_of_ble_eq_true rfl) rfl (fun Pg Lc Ev s m args below meth c E hr => ?_)
  refine g_ent (ls' := [some (rf cx 184), some (.int (oi i))]) rfl ?_
  refine g_iload_n (pc := 0) E dX6_written_0 (i := 1) rfl rfl ?_
  refine g_iconst (pc := 1) E dX6_written_1 rfl ?_
  refine g_aload_n (pc := 2) E dX6_written_2 (i := 0) rfl rfl ?_
  refine g_geti (i := 184) (t := 6) (f := 10) (fz := 10) (pc := 3) E dX6_written_3 fl_X6_231 rfl (by decide) (by decide) rfl rfl rfl (fun _ _ => ?_)
  refine g_iconst (pc := 6) E dX6_written_6 rfl ?_
  refine g_isub (pc := 7) E dX6_written_7 ?_
  refine g_callS (pc := 8) (As := [_, _, _]) E dX6_written_8 ml_X6_66 (ct_in (by omega) (by omega) (by omega)) rfl rfl (by decide) (by decide) rfl (Nat.le_of_ble_eq_true rfl) (by decide) (fun x8 M8 hM8 => ?_)
  obtain ⟨rfl, rfl⟩ := hM8
  refine g_if_eq (pc := 11) (tgt := 23) E dX6_written_11 (by decide) (fun qh11 => ?_) (fun qh11 => ?_) (Int.le_trans (by decide) (bi_R _).1) (Int.le_trans (bi_R _).2 (by decide))
  · replace qh11 := bi_0.mp qh11
    refine g_iconst (pc := 23) E dX6_written_23 rfl ?_
    refine g_iret (pc := 24) E hr dX6_written_24 ?_
    exact ⟨by rw [wrS, if_neg (by omega)], rfl⟩
  · replace qh11 := bi_n.mp qh11
    refine g_aload_n (pc := 14) E dX6_written_14 (i := 0) rfl rfl ?_
    refine g_getr (i := 184) (j := 190) (t := 6) (f := 9) (pc := 15) E dX6_written_15 fl_X6_25 rfl (by decide) (by decide) rfl rfl ?_
    refine g_iload_n (pc := 18) E dX6_written_18 (i := 1) rfl rfl ?_
    refine g_iald (pc := 19) E dX6_written_19 rfl (by omega) (by omega) rfl (fun _ _ => ?_)
    refine g_goto (pc := 20) (tgt := 24) E dX6_written_20 (by decide) ?_
    refine g_iret (pc := 24) E hr dX6_written_24 ?_
    exact ⟨by rw [wrS, if_pos (by omega)], rfl⟩

theorem ct_append {cx : Cx} {M : Mem} {cd : Int} (hcd : -2147483648 ≤ cd ∧ cd ≤ 2147483647) (h7 : 0 ≤ M 184 7) (h7b : M 184 7 ≤ 80) : Ct cx yX6_append cX6_append 2 (some .int) 2 0 0 [rf cx 184, .int (oi cd)] M (fun rz M' => if ¬ (32 ≤ cd ∧ cd ≤ 126) then rz = -2 ∧ M = M' else if M 184 7 = 80 then rz = -3 ∧ M = M' else rz = M 184 7 + 1 ∧ st (st M 184 7 (M 184 7 + 1)) 189 (M 184 7) cd = M') := by
  refine ct_intro cd_X6_append (by decide +kernel) (Nat.le_of_ble_eq_true rfl) rfl (fun Pg Lc Ev s m args below meth c E hr => ?_)
  refine g_ent (ls' := [some (rf cx 184), some (.int (oi cd))]) rfl ?_
  refine g_iload_n (pc := 0) E dX6_append_0 (i := 1) rfl rfl ?_
  refine g_bipush (pc := 1) E dX6_append_1 rfl ?_
  refine g_bipush (pc := 3) E dX6_append_3 rfl ?_
  refine g_callS (pc := 5) (As := [_, _, _]) E dX6_append_5 ml_X6_66 (ct_in (by omega) (by omega) (by omega)) rfl rfl (by decide) (by decide) rfl (Nat.le_of_ble_eq_true rfl) (by decide) (fun x5 M5 hM5 => ?_)
  obtain ⟨rfl, rfl⟩ := hM5
  refine g_if_ne (pc := 8) (tgt := 14) E dX6_append_8 (by decide) (fun qh8 => ?_) (fun qh8 => ?_) (Int.le_trans (by decide) (bi_R _).1) (Int.le_trans (bi_R _).2 (by decide))
  · replace qh8 := bi_n.mp qh8
    refine g_aload_n (pc := 14) E dX6_append_14 (i := 0) rfl rfl ?_
    refine g_geti (i := 184) (t := 6) (f := 7) (fz := 7) (pc := 15) E dX6_append_15 fl_X6_206 rfl (by decide) (by decide) rfl rfl rfl (fun _ _ => ?_)
    refine g_bipush (pc := 18) E dX6_append_18 rfl ?_
    refine g_icmp_ne (pc := 20) (tgt := 26) E dX6_append_20 (by decide) (fun qh20 => ?_) (fun qh20 => ?_) 
    · refine g_aload_n (pc := 26) E dX6_append_26 (i := 0) rfl rfl ?_
      refine g_getr (i := 184) (j := 189) (t := 6) (f := 6) (pc := 27) E dX6_append_27 fl_X6_22 rfl (by decide) (by decide) rfl rfl ?_
      refine g_aload_n (pc := 30) E dX6_append_30 (i := 0) rfl rfl ?_
      refine g_dup (pc := 31) E dX6_append_31 rfl ?_
      refine g_geti (i := 184) (t := 6) (f := 7) (fz := 7) (pc := 32) E dX6_append_32 fl_X6_206 rfl (by decide) (by decide) rfl rfl rfl (fun _ _ => ?_)
      refine g_dup_x1 (pc := 35) E dX6_append_35 rfl rfl ?_
      refine g_iconst (pc := 36) E dX6_append_36 rfl ?_
      refine g_iadd (pc := 37) E dX6_append_37 ?_
      refine g_puti (i := 184) (t := 6) (f := 7) (fz := 7) (pc := 38) E dX6_append_38 fl_X6_206 rfl (by decide) (by decide) rfl rfl ?_ 
      refine g_iload_n (pc := 41) E dX6_append_41 (i := 1) rfl rfl ?_
      refine g_iast (pc := 42) E dX6_append_42 rfl (by omega) (by omega) ?_ 
      refine g_aload_n (pc := 43) E dX6_append_43 (i := 0) rfl rfl ?_
      refine g_geti (i := 184) (t := 6) (f := 7) (fz := 7) (pc := 44) E dX6_append_44 fl_X6_206 rfl (by decide) (by decide) rfl rfl (st_self M 184 7 (M 184 7 + 1)) (fun _ _ => ?_)
      refine g_iret (pc := 47) E hr dX6_append_47 ?_
      rw [if_neg (by omega), if_neg (by omega)]; exact ⟨rfl, rfl⟩
    · refine g_bipush (pc := 23) E dX6_append_23 rfl ?_
      refine g_iret (pc := 25) E hr dX6_append_25 ?_
      rw [if_neg (by omega), if_pos (by omega)]; exact ⟨rfl, rfl⟩
  · replace qh8 := bi_0.mp qh8
    refine g_bipush (pc := 11) E dX6_append_11 rfl ?_
    refine g_iret (pc := 13) E hr dX6_append_13 ?_
    rw [if_pos (by omega)]; exact ⟨rfl, rfl⟩
