/-! more of what the reference answers -/
theorem ct_module {cx : Cx} {M : Mem} {S : Int → Int} (e5 : M 185 = S) {sn mn w : Int} (hV : SOK S) (hsn : -2147483648 ≤ sn ∧ sn ≤ 2147483647) (hmn : -2147483648 ≤ mn ∧ mn ≤ 2147483647) (hw : -2147483648 ≤ w ∧ w ≤ 2147483647) : Ct cx yX6_module cX6_module 6 (some .int) 10 0 0 [rf cx 184, .int (oi sn), .int (oi mn), .int (oi w)] M (fun rz M' => moS S sn mn w = rz ∧ SCm M M') := by
  refine ct_intro cd_X6_module (by decide +kernel) (Nat.le_of_ble_eq_true rfl) rfl (fun Pg Lc Ev s m args below meth c E hr => ?_)
  refine g_ent (ls' := [some (rf cx 184), some (.int (oi sn)), some (.int (oi mn)), some (.int (oi w)), none, none]) rfl ?_
  have hV0 := hV.1
  have e5M := e5
  have hf := LKf.rf M
  refine g_aload_n (pc := 0) E dX6_module_0 (i := 0) rfl rfl ?_
  refine g_iload_n (pc := 1) E dX6_module_1 (i := 1) rfl rfl ?_
  refine g_callV (pc := 2) (As := [_]) E dX6_module_2 ml_X6_168 (ct_isStudent e5 hV (by omega)) rfl rfl rfl rfl (by decide) (by decide) rfl (Nat.le_of_ble_eq_true rfl) (by decide) (fun x2 M2 hM2 => ?_)
  obtain ⟨rfl, rfl⟩ := hM2
  refine g_if_eq (pc := 5) (tgt := 16) E dX6_module_5 (by decide) (fun qh5 => ?_) (fun qh5 => ?_) (Int.le_trans (by decide) (bi_R _).1) (Int.le_trans (bi_R _).2 (by decide))
  · replace qh5 := bi_0.mp qh5
    refine g_iconst (pc := 16) E dX6_module_16 rfl ?_
    refine g_iret (pc := 17) E hr dX6_module_17 ?_
    exact ⟨by rw [moS, if_pos (by omega)], SCm.rf M⟩
  · replace qh5 := bi_n.mp qh5
    refine g_aload_n (pc := 8) E dX6_module_8 (i := 0) rfl rfl ?_
    refine g_iload_n (pc := 9) E dX6_module_9 (i := 2) rfl rfl ?_
    refine g_callV (pc := 10) (As := [_]) E dX6_module_10 ml_X6_77 (ct_isModule e5 hV (by omega)) rfl rfl rfl rfl (by decide) (by decide) rfl (Nat.le_of_ble_eq_true rfl) (by decide) (fun x10 M10 hM10 => ?_)
    obtain ⟨rfl, rfl⟩ := hM10
    refine g_if_ne (pc := 13) (tgt := 18) E dX6_module_13 (by decide) (fun qh13 => ?_) (fun qh13 => ?_) (Int.le_trans (by decide) (bi_R _).1) (Int.le_trans (bi_R _).2 (by decide))
    · replace qh13 := bi_n.mp qh13
      refine g_iload_n (pc := 18) E dX6_module_18 (i := 3) rfl rfl ?_
      refine g_iconst (pc := 19) E dX6_module_19 rfl ?_
      refine g_iconst (pc := 20) E dX6_module_20 rfl ?_
      refine g_callS (pc := 21) (As := [_, _, _]) E dX6_module_21 ml_X6_66 (ct_in (by omega) (by omega) (by omega)) rfl rfl (by decide) (by decide) rfl (Nat.le_of_ble_eq_true rfl) (by decide) (fun x21 M21 hM21 => ?_)
      obtain ⟨rfl, rfl⟩ := hM21
      refine g_if_ne (pc := 24) (tgt := 30) E dX6_module_24 (by decide) (fun qh24 => ?_) (fun qh24 => ?_) (Int.le_trans (by decide) (bi_R _).1) (Int.le_trans (bi_R _).2 (by decide))
      · replace qh24 := bi_n.mp qh24
        refine g_aload_n (pc := 30) E dX6_module_30 (i := 0) rfl rfl ?_
        refine g_iload_n (pc := 31) E dX6_module_31 (i := 1) rfl rfl ?_
        refine g_iconst (pc := 32) E dX6_module_32 rfl ?_
        refine g_iconst (pc := 33) E dX6_module_33 rfl ?_
        refine g_callVv (pc := 34) (As := [_, _, _]) E dX6_module_34 ml_X6_90 (cv_looks e5 hV (by omega) (by omega) (by omega) (by omega)) rfl rfl rfl rfl (by decide) (by decide) rfl (Nat.le_of_ble_eq_true rfl) (by decide) (fun M34 hM34 => ?_)
        have hf34 := LKf.tr hf hM34.1
        have e5 : M34 185 = S := hf34.e e5M
        have hmo := lkM_ok hV (q := -1) (o := 0) (show 0 ≤ sn by omega) (show sn < S 7 by omega) (by decide) (by decide)
        have hiR := inS_R hV hmo mn
        have hbR := bi_R (psM S (lkM S sn (-1) 0) mn)
        refine g_iload_n (pc := 37) E dX6_module_37 (i := 3) rfl rfl ?_
        refine g_if_ne (pc := 38) (tgt := 62) E dX6_module_38 (by decide) (fun qh38 => ?_) (fun qh38 => ?_) 
        · refine g_iload_n (pc := 62) E dX6_module_62 (i := 3) rfl rfl ?_
          refine g_iconst (pc := 63) E dX6_module_63 rfl ?_
          refine g_icmp_ne (pc := 64) (tgt := 82) E dX6_module_64 (by decide) (fun qh64 => ?_) (fun qh64 => ?_) 
          · refine g_iconst (pc := 82) E dX6_module_82 rfl ?_
            refine g_istore (pc := 83) E dX6_module_83 (ls' := [_, _, _, _, _, _]) (Nat.le_of_ble_eq_true rfl) rfl ?_
            refine g_iconst (pc := 85) E dX6_module_85 rfl ?_
            refine g_istore (pc := 86) E dX6_module_86 (ls' := [_, _, _, _, _, _]) (Nat.le_of_ble_eq_true rfl) rfl ?_
            have LP88 : ∀ (n : Nat) (x a : Int), S 6 - x < (n : Int) → 0 ≤ x → x ≤ S 6 → a = sz (moF S sn mn w) x → G cx Pg Lc Ev (rmD 10 0 0) s m args below meth c (MQ below (QI cx (fun rz M' => moS S sn mn w = rz ∧ SCm M M')) args s 0 0 (cA0 cx)) 88 [some (rf cx 184), none, some (.int (oi mn)), some (.int (oi w)), some (.int (oi a)), some (.int (oi x))] [] (M34) 0 0 := by
              intro n
              induction n with
              | zero => intro x a hn hx0 hx1 ha; exact absurd hn (by omega)
              | succ n ih88 =>
                intro x a hn hx0 hx1 ha
                have haR := sz_R (f := moF S sn mn w) (a := 0) (b := 1) hx0 (fun j _ _ => by unfold moF; split <;> omega)
                refine g_iload (pc := 88) E dX6_module_88 rfl ?_
                refine g_aload_n (pc := 90) E dX6_module_90 (i := 0) rfl rfl ?_
                refine g_getr (i := 184) (j := 185) (t := 6) (f := 0) (pc := 91) E dX6_module_91 fl_X6_9 rfl (by decide) (by decide) rfl rfl ?_
                refine g_bipush (pc := 94) E dX6_module_94 rfl ?_
                refine g_iald (pc := 96) E dX6_module_96 rfl (by omega) (by omega) (congrFun e5 _) (fun _ _ => ?_)
                refine g_icmp_ge (pc := 97) (tgt := 159) E dX6_module_97 (by decide) (fun qh97 => ?_) (fun qh97 => ?_) 
                · refine g_iload (pc := 159) E dX6_module_159 rfl ?_
                  refine g_iret (pc := 161) E hr dX6_module_161 ?_
                  exact ⟨by rw [moS, if_neg (by omega), if_neg (by omega), if_neg (by omega), if_neg (by omega), ha, show x = S 6 by omega], hf34.sc⟩
                · have hVp := hV.2.2.1 x (by omega) (by omega)
                  refine g_aload_n (pc := 100) E dX6_module_100 (i := 0) rfl rfl ?_
                  refine g_iload (pc := 101) E dX6_module_101 rfl ?_
                  refine g_iconst (pc := 103) E dX6_module_103 rfl ?_
                  refine g_callV (pc := 104) (As := [_, _]) E dX6_module_104 ml_X6_87 (ct_of e5 (e := 13 + 3 * x) (by omega) (by omega) (by omega) (by omega) (by omega)) rfl rfl rfl rfl (by decide) (by decide) rfl (Nat.le_of_ble_eq_true rfl) (by decide) (fun x104 M104 hM104 => ?_)
                  obtain ⟨rfl, rfl⟩ := hM104
                  refine g_iload_n (pc := 107) E dX6_module_107 (i := 2) rfl rfl ?_
                  refine g_icmp_eq (pc := 108) (tgt := 114) E dX6_module_108 (by decide) (fun qh108 => ?_) (fun qh108 => ?_) 
                  · have hmx := hmo x (by omega) (by omega)
                    have hsR := stA_R S (lkM S sn (-1) 0) x
                    refine g_iload_n (pc := 114) E dX6_module_114 (i := 3) rfl rfl ?_
                    refine g_iconst (pc := 115) E dX6_module_115 rfl ?_
                    refine g_icmp_eq (pc := 116) (tgt := 150) E dX6_module_116 (by decide) (fun qh116 => ?_) (fun qh116 => ?_) 
                    · refine g_iinc (pc := 150) E dX6_module_150 (ls' := [_, _, _, _, _, _]) rfl rfl rfl ?_
                      refine g_iinc (pc := 153) E dX6_module_153 (ls' := [_, _, _, _, _, _]) rfl rfl rfl ?_
                      refine g_goto (pc := 156) (tgt := 88) E dX6_module_156 (by decide) ?_
                      exact g_wk2 (ih88 (x + 1) (a + 1) (by omega) (by omega) (by omega) (by rw [sz_s hx0, ha, show moF S sn mn w x = 1 from if_pos (by omega)])) ⟨rfl, rfl, rfl, rfl, rfl, trivial⟩
                    · refine g_iload_n (pc := 119) E dX6_module_119 (i := 3) rfl rfl ?_
                      refine g_iconst (pc := 120) E dX6_module_120 rfl ?_
                      refine g_icmp_ne (pc := 121) (tgt := 134) E dX6_module_121 (by decide) (fun qh121 => ?_) (fun qh121 => ?_) 
                      · refine g_iload_n (pc := 134) E dX6_module_134 (i := 3) rfl rfl ?_
                        refine g_iconst (pc := 135) E dX6_module_135 rfl ?_
                        refine g_icmp_ne (pc := 136) (tgt := 153) E dX6_module_136 (by decide) (fun qh136 => ?_) (fun qh136 => ?_) 
                        · refine g_iinc (pc := 153) E dX6_module_153 (ls' := [_, _, _, _, _, _]) rfl rfl rfl ?_
                          refine g_goto (pc := 156) (tgt := 88) E dX6_module_156 (by decide) ?_
                          exact g_wk2 (ih88 (x + 1) a (by omega) (by omega) (by omega) (by rw [sz_s hx0, ha, show moF S sn mn w x = 0 from if_neg (by omega)]; omega)) ⟨rfl, rfl, rfl, rfl, rfl, trivial⟩
                        · refine g_aload_n (pc := 139) E dX6_module_139 (i := 0) rfl rfl ?_
                          refine g_getr (i := 184) (j := 192) (t := 6) (f := 15) (pc := 140) E dX6_module_140 fl_X6_31 rfl (by decide) (by decide) rfl rfl ?_
                          refine g_iload (pc := 143) E dX6_module_143 rfl ?_
                          refine g_iald (pc := 145) E dX6_module_145 rfl (by omega) (by omega) (hM34.2.1 x (by omega) (by omega)).2 (fun _ _ => ?_)
                          refine g_iconst (pc := 146) E dX6_module_146 rfl ?_
                          refine g_icmp_ne (pc := 147) (tgt := 153) E dX6_module_147 (by decide) (fun qh147 => ?_) (fun qh147 => ?_) 
                          · refine g_iinc (pc := 153) E dX6_module_153 (ls' := [_, _, _, _, _, _]) rfl rfl rfl ?_
                            refine g_goto (pc := 156) (tgt := 88) E dX6_module_156 (by decide) ?_
                            exact g_wk2 (ih88 (x + 1) a (by omega) (by omega) (by omega) (by rw [sz_s hx0, ha, show moF S sn mn w x = 0 from if_neg (by omega)]; omega)) ⟨rfl, rfl, rfl, rfl, rfl, trivial⟩
                          · refine g_iinc (pc := 150) E dX6_module_150 (ls' := [_, _, _, _, _, _]) rfl rfl rfl ?_
                            refine g_iinc (pc := 153) E dX6_module_153 (ls' := [_, _, _, _, _, _]) rfl rfl rfl ?_
                            refine g_goto (pc := 156) (tgt := 88) E dX6_module_156 (by decide) ?_
                            exact g_wk2 (ih88 (x + 1) (a + 1) (by omega) (by omega) (by omega) (by rw [sz_s hx0, ha, show moF S sn mn w x = 1 from if_pos (by omega)])) ⟨rfl, rfl, rfl, rfl, rfl, trivial⟩
                      · refine g_aload_n (pc := 124) E dX6_module_124 (i := 0) rfl rfl ?_
                        refine g_getr (i := 184) (j := 191) (t := 6) (f := 14) (pc := 125) E dX6_module_125 fl_X6_28 rfl (by decide) (by decide) rfl rfl ?_
                        refine g_iload (pc := 128) E dX6_module_128 rfl ?_
                        refine g_iald (pc := 130) E dX6_module_130 rfl (by omega) (by omega) (hM34.2.1 x (by omega) (by omega)).1 (fun _ _ => ?_)
                        refine g_if_ge (pc := 131) (tgt := 150) E dX6_module_131 (by decide) (fun qh131 => ?_) (fun qh131 => ?_) 
                        · refine g_iinc (pc := 150) E dX6_module_150 (ls' := [_, _, _, _, _, _]) rfl rfl rfl ?_
                          refine g_iinc (pc := 153) E dX6_module_153 (ls' := [_, _, _, _, _, _]) rfl rfl rfl ?_
                          refine g_goto (pc := 156) (tgt := 88) E dX6_module_156 (by decide) ?_
                          exact g_wk2 (ih88 (x + 1) (a + 1) (by omega) (by omega) (by omega) (by rw [sz_s hx0, ha, show moF S sn mn w x = 1 from if_pos (by omega)])) ⟨rfl, rfl, rfl, rfl, rfl, trivial⟩
                        · refine g_iload_n (pc := 134) E dX6_module_134 (i := 3) rfl rfl ?_
                          refine g_iconst (pc := 135) E dX6_module_135 rfl ?_
                          refine g_icmp_ne (pc := 136) (tgt := 153) E dX6_module_136 (by decide) (fun qh136 => ?_) (fun qh136 => absurd qh136 (by omega)) 
                          refine g_iinc (pc := 153) E dX6_module_153 (ls' := [_, _, _, _, _, _]) rfl rfl rfl ?_
                          refine g_goto (pc := 156) (tgt := 88) E dX6_module_156 (by decide) ?_
                          exact g_wk2 (ih88 (x + 1) a (by omega) (by omega) (by omega) (by rw [sz_s hx0, ha, show moF S sn mn w x = 0 from if_neg (by omega)]; omega)) ⟨rfl, rfl, rfl, rfl, rfl, trivial⟩
                  · refine g_goto (pc := 111) (tgt := 153) E dX6_module_111 (by decide) ?_
                    refine g_iinc (pc := 153) E dX6_module_153 (ls' := [_, _, _, _, _, _]) rfl rfl rfl ?_
                    refine g_goto (pc := 156) (tgt := 88) E dX6_module_156 (by decide) ?_
                    exact g_wk2 (ih88 (x + 1) a (by omega) (by omega) (by omega) (by rw [sz_s hx0, ha, show moF S sn mn w x = 0 from if_neg (by omega)]; omega)) ⟨rfl, rfl, rfl, rfl, rfl, trivial⟩
            exact g_wk2 (LP88 (S 6 + 1).toNat 0 0 (by omega) (by omega) (by omega) rfl) ⟨rfl, rfl, rfl, rfl, rfl, trivial⟩
          · refine g_aload_n (pc := 67) E dX6_module_67 (i := 0) rfl rfl ?_
            refine g_getr (i := 184) (j := 194) (t := 6) (f := 17) (pc := 68) E dX6_module_68 fl_X6_37 rfl (by decide) (by decide) rfl rfl ?_
            refine g_iload_n (pc := 71) E dX6_module_71 (i := 2) rfl rfl ?_
            refine g_zald (pc := 72) E dX6_module_72 rfl (by omega) (by omega) (hM34.2.2.1 mn (by omega) (by omega)).2 (fun _ _ => ?_)
            refine g_if_eq (pc := 73) (tgt := 80) E dX6_module_73 (by decide) (fun qh73 => ?_) (fun qh73 => ?_) 
            · replace qh73 := bi_0.mp qh73
              refine g_iconst (pc := 80) E dX6_module_80 rfl ?_
              refine g_iret (pc := 81) E hr dX6_module_81 ?_
              exact ⟨by rw [moS, if_neg (by omega), if_neg (by omega), if_neg (by omega), if_pos (by omega)]; exact bi_f qh73, hf34.sc⟩
            · replace qh73 := bi_n.mp qh73
              refine g_iconst (pc := 76) E dX6_module_76 rfl ?_
              refine g_goto (pc := 77) (tgt := 81) E dX6_module_77 (by decide) ?_
              refine g_iret (pc := 81) E hr dX6_module_81 ?_
              exact ⟨by rw [moS, if_neg (by omega), if_neg (by omega), if_neg (by omega), if_pos (by omega)]; exact bi_t qh73, hf34.sc⟩
        · refine g_aload_n (pc := 41) E dX6_module_41 (i := 0) rfl rfl ?_
          refine g_getr (i := 184) (j := 193) (t := 6) (f := 16) (pc := 42) E dX6_module_42 fl_X6_34 rfl (by decide) (by decide) rfl rfl ?_
          refine g_iload_n (pc := 45) E dX6_module_45 (i := 2) rfl rfl ?_
          refine g_iald (pc := 46) E dX6_module_46 rfl (by omega) (by omega) (hM34.2.2.1 mn (by omega) (by omega)).1 (fun _ _ => ?_)
          refine g_if_ge (pc := 47) (tgt := 55) E dX6_module_47 (by decide) (fun qh47 => ?_) (fun qh47 => ?_) 
          · refine g_aload_n (pc := 55) E dX6_module_55 (i := 0) rfl rfl ?_
            refine g_getr (i := 184) (j := 193) (t := 6) (f := 16) (pc := 56) E dX6_module_56 fl_X6_34 rfl (by decide) (by decide) rfl rfl ?_
            refine g_iload_n (pc := 59) E dX6_module_59 (i := 2) rfl rfl ?_
            refine g_iald (pc := 60) E dX6_module_60 rfl (by omega) (by omega) (hM34.2.2.1 mn (by omega) (by omega)).1 (fun _ _ => ?_)
            refine g_iret (pc := 61) E hr dX6_module_61 ?_
            exact ⟨by rw [moS, if_neg (by omega), if_neg (by omega), if_pos (by omega), if_neg (by omega)], hf34.sc⟩
          · refine g_bipush (pc := 50) E dX6_module_50 rfl ?_
            refine g_goto (pc := 52) (tgt := 61) E dX6_module_52 (by decide) ?_
            refine g_iret (pc := 61) E hr dX6_module_61 ?_
            exact ⟨by rw [moS, if_neg (by omega), if_neg (by omega), if_pos (by omega), if_pos (by omega)], hf34.sc⟩
      · replace qh24 := bi_0.mp qh24
        refine g_bipush (pc := 27) E dX6_module_27 rfl ?_
        refine g_iret (pc := 29) E hr dX6_module_29 ?_
        exact ⟨by rw [moS, if_neg (by omega), if_pos (by omega)], SCm.rf M⟩
    · replace qh13 := bi_0.mp qh13
      refine g_iconst (pc := 16) E dX6_module_16 rfl ?_
      refine g_iret (pc := 17) E hr dX6_module_17 ?_
      exact ⟨by rw [moS, if_pos (by omega)], SCm.rf M⟩

theorem ct_needed {cx : Cx} {M : Mem} {S : Int → Int} (e5 : M 185 = S) {sn p : Int} (hV : SOK S) (hsn : -2147483648 ≤ sn ∧ sn ≤ 2147483647) (hp : -2147483648 ≤ p ∧ p ≤ 2147483647) : Ct cx yX6_needed cX6_needed 5 (some .int) 10 0 0 [rf cx 184, .int (oi sn), .int (oi p)] M (fun rz M' => neS S sn p = rz ∧ SCm M M') := by
  refine ct_intro cd_X6_needed (by decide +kernel) (Nat.le_of_ble_eq_true rfl) rfl (fun Pg Lc Ev s m args below meth c E hr => ?_)
  refine g_ent (ls' := [some (rf cx 184), some (.int (oi sn)), some (.int (oi p)), none, none]) rfl ?_
  have hV0 := hV.1
  have e5M := e5
  have hf := LKf.rf M
  refine g_aload_n (pc := 0) E dX6_needed_0 (i := 0) rfl rfl ?_
  refine g_iload_n (pc := 1) E dX6_needed_1 (i := 1) rfl rfl ?_
  refine g_callV (pc := 2) (As := [_]) E dX6_needed_2 ml_X6_168 (ct_isStudent e5 hV (by omega)) rfl rfl rfl rfl (by decide) (by decide) rfl (Nat.le_of_ble_eq_true rfl) (by decide) (fun x2 M2 hM2 => ?_)
  obtain ⟨rfl, rfl⟩ := hM2
  refine g_if_eq (pc := 5) (tgt := 16) E dX6_needed_5 (by decide) (fun qh5 => ?_) (fun qh5 => ?_) (Int.le_trans (by decide) (bi_R _).1) (Int.le_trans (bi_R _).2 (by decide))
  · replace qh5 := bi_0.mp qh5
    refine g_iconst (pc := 16) E dX6_needed_16 rfl ?_
    refine g_iret (pc := 17) E hr dX6_needed_17 ?_
    exact ⟨by rw [neS, if_pos (by omega)], SCm.rf M⟩
  · replace qh5 := bi_n.mp qh5
    refine g_aload_n (pc := 8) E dX6_needed_8 (i := 0) rfl rfl ?_
    refine g_iload_n (pc := 9) E dX6_needed_9 (i := 2) rfl rfl ?_
    refine g_callV (pc := 10) (As := [_]) E dX6_needed_10 ml_X6_84 (ct_isPaper e5 hV (by omega)) rfl rfl rfl rfl (by decide) (by decide) rfl (Nat.le_of_ble_eq_true rfl) (by decide) (fun x10 M10 hM10 => ?_)
    obtain ⟨rfl, rfl⟩ := hM10
    refine g_if_ne (pc := 13) (tgt := 18) E dX6_needed_13 (by decide) (fun qh13 => ?_) (fun qh13 => ?_) (Int.le_trans (by decide) (bi_R _).1) (Int.le_trans (bi_R _).2 (by decide))
    · replace qh13 := bi_n.mp qh13
      refine g_aload_n (pc := 18) E dX6_needed_18 (i := 0) rfl rfl ?_
      refine g_iload_n (pc := 19) E dX6_needed_19 (i := 1) rfl rfl ?_
      refine g_iconst (pc := 20) E dX6_needed_20 rfl ?_
      refine g_iconst (pc := 21) E dX6_needed_21 rfl ?_
      refine g_callVv (pc := 22) (As := [_, _, _]) E dX6_needed_22 ml_X6_90 (cv_looks e5 hV (by omega) (by omega) (by omega) (by omega)) rfl rfl rfl rfl (by decide) (by decide) rfl (Nat.le_of_ble_eq_true rfl) (by decide) (fun M22 hM22 => ?_)
      have hf22 := LKf.tr hf hM22.1
      have e5 : M22 185 = S := hf22.e e5M
      have hgR := grS_R S (lkM S sn (-1) 0)
      refine g_aload_n (pc := 25) E dX6_needed_25 (i := 0) rfl rfl ?_
      refine g_geti (i := 184) (t := 6) (f := 21) (fz := 21) (pc := 26) E dX6_needed_26 fl_X6_134 rfl (by decide) (by decide) rfl rfl hM22.2.2.2.2.2.2.1 (fun _ _ => ?_)
      refine g_iconst (pc := 29) E dX6_needed_29 rfl ?_
      refine g_iconst (pc := 30) E dX6_needed_30 rfl ?_
      refine g_callS (pc := 31) (As := [_, _, _]) E dX6_needed_31 ml_X6_66 (ct_in (by omega) (by omega) (by omega)) rfl rfl (by decide) (by decide) rfl (Nat.le_of_ble_eq_true rfl) (by decide) (fun x31 M31 hM31 => ?_)
      obtain ⟨rfl, rfl⟩ := hM31
      refine g_if_eq (pc := 34) (tgt := 44) E dX6_needed_34 (by decide) (fun qh34 => ?_) (fun qh34 => ?_) (Int.le_trans (by decide) (bi_R _).1) (Int.le_trans (bi_R _).2 (by decide))
      · replace qh34 := bi_0.mp qh34
        refine g_iconst (pc := 44) E dX6_needed_44 rfl ?_
        refine g_top (b := neB S sn) (by rw [neB, if_neg (by omega)]) ?_
        have hbR : 1 ≤ neB S sn ∧ neB S sn ≤ 5 := by unfold neB; split <;> omega
        refine g_istore_n (pc := 45) E dX6_needed_45 (i := 3) (ls' := [_, _, _, _, _]) rfl (Nat.le_of_ble_eq_true rfl) rfl ?_
        refine g_iconst (pc := 46) E dX6_needed_46 rfl ?_
        refine g_istore (pc := 47) E dX6_needed_47 (ls' := [_, _, _, _, _]) (Nat.le_of_ble_eq_true rfl) rfl ?_
        have LP49 : ∀ (n : Nat) (N : Mem) (x : Int), 101 - x < (n : Int) → 0 ≤ x → x ≤ 101 → LKf M N → fi (neF S sn p (neB S sn)) x = -1 → G cx Pg Lc Ev (rmD 10 0 0) s m args below meth c (MQ below (QI cx (fun rz M' => neS S sn p = rz ∧ SCm M M')) args s 0 0 (cA0 cx)) 49 [some (rf cx 184), some (.int (oi sn)), some (.int (oi p)), some (.int (oi (neB S sn))), some (.int (oi x))] [] (N) 0 0 := by
          intro n
          induction n with
          | zero => intro N x hn hx0 hx1 hf hfi; exact absurd hn (by omega)
          | succ n ih49 =>
            intro N x hn hx0 hx1 hf hfi
            have e5 : N 185 = S := hf.e e5M
            refine g_iload (pc := 49) E dX6_needed_49 rfl ?_
            refine g_bipush (pc := 51) E dX6_needed_51 rfl ?_
            refine g_icmp_gt (pc := 53) (tgt := 88) E dX6_needed_53 (by decide) (fun qh53 => ?_) (fun qh53 => ?_) 
            · refine g_bipush (pc := 88) E dX6_needed_88 rfl ?_
              refine g_iret (pc := 90) E hr dX6_needed_90 ?_
              exact ⟨by rw [neS, if_neg (by omega), show (101 : Int) = x by omega, hfi, if_pos rfl], hf.sc⟩
            · refine g_aload_n (pc := 56) E dX6_needed_56 (i := 0) rfl rfl ?_
              refine g_iload_n (pc := 57) E dX6_needed_57 (i := 1) rfl rfl ?_
              refine g_iload_n (pc := 58) E dX6_needed_58 (i := 2) rfl rfl ?_
              refine g_iload (pc := 59) E dX6_needed_59 rfl ?_
              refine g_callVv (pc := 61) (As := [_, _, _]) E dX6_needed_61 ml_X6_90 (cv_looks e5 hV (by omega) (by omega) (by omega) (by omega)) rfl rfl rfl rfl (by decide) (by decide) rfl (Nat.le_of_ble_eq_true rfl) (by decide) (fun M61 hM61 => ?_)
              have hf61 := LKf.tr hf hM61.1
              have e5 : M61 185 = S := hf61.e e5M
              have hgx := grS_R S (lkM S sn p x)
              refine g_aload_n (pc := 64) E dX6_needed_64 (i := 0) rfl rfl ?_
              refine g_geti (i := 184) (t := 6) (f := 21) (fz := 21) (pc := 65) E dX6_needed_65 fl_X6_134 rfl (by decide) (by decide) rfl rfl hM61.2.2.2.2.2.2.1 (fun _ _ => ?_)
              refine g_if_le (pc := 68) (tgt := 82) E dX6_needed_68 (by decide) (fun qh68 => ?_) (fun qh68 => ?_) 
              · refine g_iinc (pc := 82) E dX6_needed_82 (ls' := [_, _, _, _, _]) rfl rfl rfl ?_
                refine g_goto (pc := 85) (tgt := 49) E dX6_needed_85 (by decide) ?_
                exact g_wk2 (ih49 M61 (x + 1) (by omega) (by omega) (by omega) hf61 (by rw [fi_s hx0, hfi, show neF S sn p (neB S sn) x = 0 from if_neg (by omega), if_neg (by decide), if_neg (by decide)])) ⟨rfl, rfl, rfl, rfl, rfl, trivial⟩
              · refine g_aload_n (pc := 71) E dX6_needed_71 (i := 0) rfl rfl ?_
                refine g_geti (i := 184) (t := 6) (f := 21) (fz := 21) (pc := 72) E dX6_needed_72 fl_X6_134 rfl (by decide) (by decide) rfl rfl hM61.2.2.2.2.2.2.1 (fun _ _ => ?_)
                refine g_iload_n (pc := 75) E dX6_needed_75 (i := 3) rfl rfl ?_
                refine g_icmp_ge (pc := 76) (tgt := 82) E dX6_needed_76 (by decide) (fun qh76 => ?_) (fun qh76 => ?_) 
                · refine g_iinc (pc := 82) E dX6_needed_82 (ls' := [_, _, _, _, _]) rfl rfl rfl ?_
                  refine g_goto (pc := 85) (tgt := 49) E dX6_needed_85 (by decide) ?_
                  exact g_wk2 (ih49 M61 (x + 1) (by omega) (by omega) (by omega) hf61 (by rw [fi_s hx0, hfi, show neF S sn p (neB S sn) x = 0 from if_neg (by omega), if_neg (by decide), if_neg (by decide)])) ⟨rfl, rfl, rfl, rfl, rfl, trivial⟩
                · refine g_iload (pc := 79) E dX6_needed_79 rfl ?_
                  refine g_iret (pc := 81) E hr dX6_needed_81 ?_
                  have hfx : neF S sn p (neB S sn) x = 1 := if_pos (by omega)
                  have hfi2 : fi (neF S sn p (neB S sn)) 101 = x := isF_u (fi_is _ (by decide)) (Or.inr ⟨hx0, by omega, hfx, fun j q0 q1 => by
                    rcases fi_is (neF S sn p (neB S sn)) hx0 with ⟨-, h2⟩ | ⟨h2, -⟩
                    · exact h2 j q0 q1
                    · omega⟩)
                  exact ⟨by rw [neS, if_neg (by omega), hfi2, if_neg (by omega)], hf61.sc⟩
        exact g_wk2 (LP49 102 M22 0 (by omega) (by omega) (by omega) hf22 rfl) ⟨rfl, rfl, rfl, rfl, rfl, trivial⟩
      · replace qh34 := bi_n.mp qh34
        refine g_aload_n (pc := 37) E dX6_needed_37 (i := 0) rfl rfl ?_
        refine g_geti (i := 184) (t := 6) (f := 21) (fz := 21) (pc := 38) E dX6_needed_38 fl_X6_134 rfl (by decide) (by decide) rfl rfl hM22.2.2.2.2.2.2.1 (fun _ _ => ?_)
        refine g_goto (pc := 41) (tgt := 45) E dX6_needed_41 (by decide) ?_
        refine g_top (b := neB S sn) (by rw [neB, if_pos (by omega)]) ?_
        have hbR : 1 ≤ neB S sn ∧ neB S sn ≤ 5 := by unfold neB; split <;> omega
        refine g_istore_n (pc := 45) E dX6_needed_45 (i := 3) (ls' := [_, _, _, _, _]) rfl (Nat.le_of_ble_eq_true rfl) rfl ?_
        refine g_iconst (pc := 46) E dX6_needed_46 rfl ?_
        refine g_istore (pc := 47) E dX6_needed_47 (ls' := [_, _, _, _, _]) (Nat.le_of_ble_eq_true rfl) rfl ?_
        have LP49 : ∀ (n : Nat) (N : Mem) (x : Int), 101 - x < (n : Int) → 0 ≤ x → x ≤ 101 → LKf M N → fi (neF S sn p (neB S sn)) x = -1 → G cx Pg Lc Ev (rmD 10 0 0) s m args below meth c (MQ below (QI cx (fun rz M' => neS S sn p = rz ∧ SCm M M')) args s 0 0 (cA0 cx)) 49 [some (rf cx 184), some (.int (oi sn)), some (.int (oi p)), some (.int (oi (neB S sn))), some (.int (oi x))] [] (N) 0 0 := by
          intro n
          induction n with
          | zero => intro N x hn hx0 hx1 hf hfi; exact absurd hn (by omega)
          | succ n ih49 =>
            intro N x hn hx0 hx1 hf hfi
            have e5 : N 185 = S := hf.e e5M
            refine g_iload (pc := 49) E dX6_needed_49 rfl ?_
            refine g_bipush (pc := 51) E dX6_needed_51 rfl ?_
            refine g_icmp_gt (pc := 53) (tgt := 88) E dX6_needed_53 (by decide) (fun qh53 => ?_) (fun qh53 => ?_) 
            · refine g_bipush (pc := 88) E dX6_needed_88 rfl ?_
              refine g_iret (pc := 90) E hr dX6_needed_90 ?_
              exact ⟨by rw [neS, if_neg (by omega), show (101 : Int) = x by omega, hfi, if_pos rfl], hf.sc⟩
            · refine g_aload_n (pc := 56) E dX6_needed_56 (i := 0) rfl rfl ?_
              refine g_iload_n (pc := 57) E dX6_needed_57 (i := 1) rfl rfl ?_
              refine g_iload_n (pc := 58) E dX6_needed_58 (i := 2) rfl rfl ?_
              refine g_iload (pc := 59) E dX6_needed_59 rfl ?_
              refine g_callVv (pc := 61) (As := [_, _, _]) E dX6_needed_61 ml_X6_90 (cv_looks e5 hV (by omega) (by omega) (by omega) (by omega)) rfl rfl rfl rfl (by decide) (by decide) rfl (Nat.le_of_ble_eq_true rfl) (by decide) (fun M61 hM61 => ?_)
              have hf61 := LKf.tr hf hM61.1
              have e5 : M61 185 = S := hf61.e e5M
              have hgx := grS_R S (lkM S sn p x)
              refine g_aload_n (pc := 64) E dX6_needed_64 (i := 0) rfl rfl ?_
              refine g_geti (i := 184) (t := 6) (f := 21) (fz := 21) (pc := 65) E dX6_needed_65 fl_X6_134 rfl (by decide) (by decide) rfl rfl hM61.2.2.2.2.2.2.1 (fun _ _ => ?_)
              refine g_if_le (pc := 68) (tgt := 82) E dX6_needed_68 (by decide) (fun qh68 => ?_) (fun qh68 => ?_) 
              · refine g_iinc (pc := 82) E dX6_needed_82 (ls' := [_, _, _, _, _]) rfl rfl rfl ?_
                refine g_goto (pc := 85) (tgt := 49) E dX6_needed_85 (by decide) ?_
                exact g_wk2 (ih49 M61 (x + 1) (by omega) (by omega) (by omega) hf61 (by rw [fi_s hx0, hfi, show neF S sn p (neB S sn) x = 0 from if_neg (by omega), if_neg (by decide), if_neg (by decide)])) ⟨rfl, rfl, rfl, rfl, rfl, trivial⟩
              · refine g_aload_n (pc := 71) E dX6_needed_71 (i := 0) rfl rfl ?_
                refine g_geti (i := 184) (t := 6) (f := 21) (fz := 21) (pc := 72) E dX6_needed_72 fl_X6_134 rfl (by decide) (by decide) rfl rfl hM61.2.2.2.2.2.2.1 (fun _ _ => ?_)
                refine g_iload_n (pc := 75) E dX6_needed_75 (i := 3) rfl rfl ?_
                refine g_icmp_ge (pc := 76) (tgt := 82) E dX6_needed_76 (by decide) (fun qh76 => ?_) (fun qh76 => ?_) 
                · refine g_iinc (pc := 82) E dX6_needed_82 (ls' := [_, _, _, _, _]) rfl rfl rfl ?_
                  refine g_goto (pc := 85) (tgt := 49) E dX6_needed_85 (by decide) ?_
                  exact g_wk2 (ih49 M61 (x + 1) (by omega) (by omega) (by omega) hf61 (by rw [fi_s hx0, hfi, show neF S sn p (neB S sn) x = 0 from if_neg (by omega), if_neg (by decide), if_neg (by decide)])) ⟨rfl, rfl, rfl, rfl, rfl, trivial⟩
                · refine g_iload (pc := 79) E dX6_needed_79 rfl ?_
                  refine g_iret (pc := 81) E hr dX6_needed_81 ?_
                  have hfx : neF S sn p (neB S sn) x = 1 := if_pos (by omega)
                  have hfi2 : fi (neF S sn p (neB S sn)) 101 = x := isF_u (fi_is _ (by decide)) (Or.inr ⟨hx0, by omega, hfx, fun j q0 q1 => by
                    rcases fi_is (neF S sn p (neB S sn)) hx0 with ⟨-, h2⟩ | ⟨h2, -⟩
                    · exact h2 j q0 q1
                    · omega⟩)
                  exact ⟨by rw [neS, if_neg (by omega), hfi2, if_neg (by omega)], hf61.sc⟩
        exact g_wk2 (LP49 102 M22 0 (by omega) (by omega) (by omega) hf22 rfl) ⟨rfl, rfl, rfl, rfl, rfl, trivial⟩
    · replace qh13 := bi_0.mp qh13
      refine g_iconst (pc := 16) E dX6_needed_16 rfl ?_
      refine g_iret (pc := 17) E hr dX6_needed_17 ?_
      exact ⟨by rw [neS, if_pos (by omega)], SCm.rf M⟩
