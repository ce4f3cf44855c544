/-! boards copied; the history -/
theorem kk_b {k : Nat} (h : k < 11) : kk (15 * k) = (11, 18) := by
  unfold kk
  rw [if_pos (by omega), if_pos (by omega)]
theorem kk_a {k : Nat} (h : k < 11) (t : Nat) (h0 : 0 < t) (h1 : t < 15) : kk (15 * k + t) = (0, bln t) := by
  unfold kk
  rw [if_pos (by omega), if_neg (by omega), show (15 * k + t) % 15 = t by omega]
theorem rr_b {i f : Nat} (d : Nat) (h : i < 165) (hf : f = d + 3) : rr i f = i + d := by
  unfold rr
  rw [if_pos h, hf]
  rfl
theorem cpy_ne {M : Mem} {i j w r : Nat} (h : r ≠ j) : cpy M i j w r = M r := if_neg h
theorem cpy_in {M : Mem} {i j w : Nat} {x : Int} (h : 0 ≤ x ∧ x < w) : cpy M i j w j x = M i x := by
  have e : cpy M i j w j = fun x : Int => if 0 ≤ x ∧ x < w then M i x else M j x := if_pos rfl
  rw [e]
  exact if_pos h
def CPY (M : Mem) (j k : Nat) (N : Mem) : Prop := (∀ f : Int, 0 ≤ f → f < 4 → N (15 * k) f = M (15 * j) f) ∧ (∀ t : Nat, 0 < t → t < 15 → ∀ x : Int, 0 ≤ x → x < bln t → N (15 * k + t) x = M (15 * j + t) x) ∧ ∀ i, i < 15 * k ∨ 15 * k + 15 ≤ i → N i = M i

theorem cv_copyRow {cx : Cx} {M : Mem} {i j q : Nat} (hk1 : kk i = (0, q)) (hk2 : kk j = (0, q)) (hq : q ≤ 160) : Cv cx yX0_copyRow cX0_copyRow 2 2 0 0 [rf cx i, rf cx j] M (fun M' => cpy M i j q = M') := by
  refine cv_intro cd_X0_copyRow (by decide +kernel) (Nat.le_of_ble_eq_true rfl) rfl (fun Pg Lc Ev s m args below meth c E hr => ?_)
  refine g_ent (ls' := [some (rf cx i), some (rf cx j)]) rfl ?_
  refine g_aload_n (pc := 0) E dX0_copyRow_0 (i := 0) rfl rfl ?_
  refine g_iconst (pc := 1) E dX0_copyRow_1 rfl ?_
  refine g_aload_n (pc := 2) E dX0_copyRow_2 (i := 1) rfl rfl ?_
  refine g_iconst (pc := 3) E dX0_copyRow_3 rfl ?_
  refine g_aload_n (pc := 4) E dX0_copyRow_4 (i := 0) rfl rfl ?_
  refine g_alen (pc := 5) E dX0_copyRow_5 hk1 rfl ?_
  refine g_aload_n (pc := 6) E dX0_copyRow_6 (i := 1) rfl rfl ?_
  refine g_alen (pc := 7) E dX0_copyRow_7 hk2 rfl ?_
  refine g_min (pc := 8) E dX0_copyRow_8 (big_at 402 (by decide +kernel) (by decide +kernel)) rfl (by decide) (Nat.le_of_ble_eq_true rfl) (by decide) ?_ 
  refine g_acopy (pc := 11) (w := q) E dX0_copyRow_11 (big_at 405 (by decide +kernel) (by decide +kernel)) hk1 hk2 (Nat.le_refl _) (by omega) rfl (by decide) (Nat.le_of_ble_eq_true rfl) ?_
  refine g_vret (pc := 14) E hr dX0_copyRow_14 ?_
  rfl

theorem cv_copyFrom {cx : Cx} {M : Mem} {jb kb : Nat} (hj : jb < 11) (hk : kb < 11) (hne : jb ≠ kb) : Cv cx yX0_copyFrom cX0_copyFrom 2 3 0 0 [rf cx (15 * kb), rf cx (15 * jb)] M (fun M' => CPY M jb kb M') := by
  refine cv_intro cd_X0_copyFrom (by decide +kernel) (Nat.le_of_ble_eq_true rfl) rfl (fun Pg Lc Ev s m args below meth c E hr => ?_)
  refine g_ent (ls' := [some (rf cx (15 * kb)), some (rf cx (15 * jb))]) rfl ?_
  refine g_aload_n (pc := 0) E dX0_copyFrom_0 (i := 0) rfl rfl ?_
  refine g_aload_n (pc := 1) E dX0_copyFrom_1 (i := 1) rfl rfl ?_
  refine g_geti (i := 15 * jb) (t := 0) (f := 0) (fz := 0) (pc := 2) E dX0_copyFrom_2 fl_X0_9 (kk_b hj) (by omega) (by decide) rfl rfl (v := M (15 * jb) 0) (by rfl) (fun _ _ => ?_)
  refine g_puti (i := 15 * kb) (t := 0) (f := 0) (fz := 0) (pc := 5) E dX0_copyFrom_5 fl_X0_9 (kk_b hk) (by omega) (by decide) rfl rfl ?_ 
  refine g_aload_n (pc := 8) E dX0_copyFrom_8 (i := 0) rfl rfl ?_
  refine g_aload_n (pc := 9) E dX0_copyFrom_9 (i := 1) rfl rfl ?_
  refine g_geti (i := 15 * jb) (t := 0) (f := 1) (fz := 1) (pc := 10) E dX0_copyFrom_10 fl_X0_15 (kk_b hj) (by omega) (by decide) rfl rfl (v := M (15 * jb) 1) (by rw [st_ne (by omega)]) (fun _ _ => ?_)
  refine g_puti (i := 15 * kb) (t := 0) (f := 1) (fz := 1) (pc := 13) E dX0_copyFrom_13 fl_X0_15 (kk_b hk) (by omega) (by decide) rfl rfl ?_ 
  refine g_aload_n (pc := 16) E dX0_copyFrom_16 (i := 0) rfl rfl ?_
  refine g_aload_n (pc := 17) E dX0_copyFrom_17 (i := 1) rfl rfl ?_
  refine g_geti (i := 15 * jb) (t := 0) (f := 2) (fz := 2) (pc := 18) E dX0_copyFrom_18 fl_X0_18 (kk_b hj) (by omega) (by decide) rfl rfl (v := M (15 * jb) 2) (by rw [st_ne (by omega)]; rw [st_ne (by omega)]) (fun _ _ => ?_)
  refine g_puti (i := 15 * kb) (t := 0) (f := 2) (fz := 2) (pc := 21) E dX0_copyFrom_21 fl_X0_18 (kk_b hk) (by omega) (by decide) rfl rfl ?_ 
  refine g_aload_n (pc := 24) E dX0_copyFrom_24 (i := 0) rfl rfl ?_
  refine g_aload_n (pc := 25) E dX0_copyFrom_25 (i := 1) rfl rfl ?_
  refine g_geti (i := 15 * jb) (t := 0) (f := 3) (fz := 3) (pc := 26) E dX0_copyFrom_26 fl_X0_21 (kk_b hj) (by omega) (by decide) rfl rfl (v := M (15 * jb) 3) (by rw [st_ne (by omega)]; rw [st_ne (by omega)]; rw [st_ne (by omega)]) (fun _ _ => ?_)
  refine g_puti (i := 15 * kb) (t := 0) (f := 3) (fz := 3) (pc := 29) E dX0_copyFrom_29 fl_X0_21 (kk_b hk) (by omega) (by decide) rfl rfl ?_ 
  refine g_aload_n (pc := 32) E dX0_copyFrom_32 (i := 1) rfl rfl ?_
  refine g_getr (t := 0) (f := 4) (pc := 33) E dX0_copyFrom_33 fl_X0_24 (kk_b hj) (by omega) (by decide) rfl (rr_b 1 (by omega) rfl) ?_
  refine g_aload_n (pc := 36) E dX0_copyFrom_36 (i := 0) rfl rfl ?_
  refine g_getr (t := 0) (f := 4) (pc := 37) E dX0_copyFrom_37 fl_X0_24 (kk_b hk) (by omega) (by decide) rfl (rr_b 1 (by omega) rfl) ?_
  refine g_callSv (pc := 40) (As := [_, _]) E dX0_copyFrom_40 ml_X0_67 (cv_copyRow (kk_a hj 1 (by decide) (by decide)) (kk_a hk 1 (by decide) (by decide)) (by decide)) rfl rfl (by decide) (by decide) rfl (Nat.le_of_ble_eq_true rfl) (by decide) (fun M40 hM40 => ?_)
  obtain rfl := hM40
  refine g_aload_n (pc := 43) E dX0_copyFrom_43 (i := 1) rfl rfl ?_
  refine g_getr (t := 0) (f := 5) (pc := 44) E dX0_copyFrom_44 fl_X0_28 (kk_b hj) (by omega) (by decide) rfl (rr_b 2 (by omega) rfl) ?_
  refine g_aload_n (pc := 47) E dX0_copyFrom_47 (i := 0) rfl rfl ?_
  refine g_getr (t := 0) (f := 5) (pc := 48) E dX0_copyFrom_48 fl_X0_28 (kk_b hk) (by omega) (by decide) rfl (rr_b 2 (by omega) rfl) ?_
  refine g_callSv (pc := 51) (As := [_, _]) E dX0_copyFrom_51 ml_X0_67 (cv_copyRow (kk_a hj 2 (by decide) (by decide)) (kk_a hk 2 (by decide) (by decide)) (by decide)) rfl rfl (by decide) (by decide) rfl (Nat.le_of_ble_eq_true rfl) (by decide) (fun M51 hM51 => ?_)
  obtain rfl := hM51
  refine g_aload_n (pc := 54) E dX0_copyFrom_54 (i := 1) rfl rfl ?_
  refine g_getr (t := 0) (f := 6) (pc := 55) E dX0_copyFrom_55 fl_X0_31 (kk_b hj) (by omega) (by decide) rfl (rr_b 3 (by omega) rfl) ?_
  refine g_aload_n (pc := 58) E dX0_copyFrom_58 (i := 0) rfl rfl ?_
  refine g_getr (t := 0) (f := 6) (pc := 59) E dX0_copyFrom_59 fl_X0_31 (kk_b hk) (by omega) (by decide) rfl (rr_b 3 (by omega) rfl) ?_
  refine g_callSv (pc := 62) (As := [_, _]) E dX0_copyFrom_62 ml_X0_67 (cv_copyRow (kk_a hj 3 (by decide) (by decide)) (kk_a hk 3 (by decide) (by decide)) (by decide)) rfl rfl (by decide) (by decide) rfl (Nat.le_of_ble_eq_true rfl) (by decide) (fun M62 hM62 => ?_)
  obtain rfl := hM62
  refine g_aload_n (pc := 65) E dX0_copyFrom_65 (i := 1) rfl rfl ?_
  refine g_getr (t := 0) (f := 7) (pc := 66) E dX0_copyFrom_66 fl_X0_34 (kk_b hj) (by omega) (by decide) rfl (rr_b 4 (by omega) rfl) ?_
  refine g_aload_n (pc := 69) E dX0_copyFrom_69 (i := 0) rfl rfl ?_
  refine g_getr (t := 0) (f := 7) (pc := 70) E dX0_copyFrom_70 fl_X0_34 (kk_b hk) (by omega) (by decide) rfl (rr_b 4 (by omega) rfl) ?_
  refine g_callSv (pc := 73) (As := [_, _]) E dX0_copyFrom_73 ml_X0_67 (cv_copyRow (kk_a hj 4 (by decide) (by decide)) (kk_a hk 4 (by decide) (by decide)) (by decide)) rfl rfl (by decide) (by decide) rfl (Nat.le_of_ble_eq_true rfl) (by decide) (fun M73 hM73 => ?_)
  obtain rfl := hM73
  refine g_aload_n (pc := 76) E dX0_copyFrom_76 (i := 1) rfl rfl ?_
  refine g_getr (t := 0) (f := 8) (pc := 77) E dX0_copyFrom_77 fl_X0_37 (kk_b hj) (by omega) (by decide) rfl (rr_b 5 (by omega) rfl) ?_
  refine g_aload_n (pc := 80) E dX0_copyFrom_80 (i := 0) rfl rfl ?_
  refine g_getr (t := 0) (f := 8) (pc := 81) E dX0_copyFrom_81 fl_X0_37 (kk_b hk) (by omega) (by decide) rfl (rr_b 5 (by omega) rfl) ?_
  refine g_callSv (pc := 84) (As := [_, _]) E dX0_copyFrom_84 ml_X0_67 (cv_copyRow (kk_a hj 5 (by decide) (by decide)) (kk_a hk 5 (by decide) (by decide)) (by decide)) rfl rfl (by decide) (by decide) rfl (Nat.le_of_ble_eq_true rfl) (by decide) (fun M84 hM84 => ?_)
  obtain rfl := hM84
  refine g_aload_n (pc := 87) E dX0_copyFrom_87 (i := 1) rfl rfl ?_
  refine g_getr (t := 0) (f := 9) (pc := 88) E dX0_copyFrom_88 fl_X0_40 (kk_b hj) (by omega) (by decide) rfl (rr_b 6 (by omega) rfl) ?_
  refine g_aload_n (pc := 91) E dX0_copyFrom_91 (i := 0) rfl rfl ?_
  refine g_getr (t := 0) (f := 9) (pc := 92) E dX0_copyFrom_92 fl_X0_40 (kk_b hk) (by omega) (by decide) rfl (rr_b 6 (by omega) rfl) ?_
  refine g_callSv (pc := 95) (As := [_, _]) E dX0_copyFrom_95 ml_X0_67 (cv_copyRow (kk_a hj 6 (by decide) (by decide)) (kk_a hk 6 (by decide) (by decide)) (by decide)) rfl rfl (by decide) (by decide) rfl (Nat.le_of_ble_eq_true rfl) (by decide) (fun M95 hM95 => ?_)
  obtain rfl := hM95
  refine g_aload_n (pc := 98) E dX0_copyFrom_98 (i := 1) rfl rfl ?_
  refine g_getr (t := 0) (f := 10) (pc := 99) E dX0_copyFrom_99 fl_X0_43 (kk_b hj) (by omega) (by decide) rfl (rr_b 7 (by omega) rfl) ?_
  refine g_aload_n (pc := 102) E dX0_copyFrom_102 (i := 0) rfl rfl ?_
  refine g_getr (t := 0) (f := 10) (pc := 103) E dX0_copyFrom_103 fl_X0_43 (kk_b hk) (by omega) (by decide) rfl (rr_b 7 (by omega) rfl) ?_
  refine g_callSv (pc := 106) (As := [_, _]) E dX0_copyFrom_106 ml_X0_67 (cv_copyRow (kk_a hj 7 (by decide) (by decide)) (kk_a hk 7 (by decide) (by decide)) (by decide)) rfl rfl (by decide) (by decide) rfl (Nat.le_of_ble_eq_true rfl) (by decide) (fun M106 hM106 => ?_)
  obtain rfl := hM106
  refine g_aload_n (pc := 109) E dX0_copyFrom_109 (i := 1) rfl rfl ?_
  refine g_getr (t := 0) (f := 11) (pc := 110) E dX0_copyFrom_110 fl_X0_46 (kk_b hj) (by omega) (by decide) rfl (rr_b 8 (by omega) rfl) ?_
  refine g_aload_n (pc := 113) E dX0_copyFrom_113 (i := 0) rfl rfl ?_
  refine g_getr (t := 0) (f := 11) (pc := 114) E dX0_copyFrom_114 fl_X0_46 (kk_b hk) (by omega) (by decide) rfl (rr_b 8 (by omega) rfl) ?_
  refine g_callSv (pc := 117) (As := [_, _]) E dX0_copyFrom_117 ml_X0_67 (cv_copyRow (kk_a hj 8 (by decide) (by decide)) (kk_a hk 8 (by decide) (by decide)) (by decide)) rfl rfl (by decide) (by decide) rfl (Nat.le_of_ble_eq_true rfl) (by decide) (fun M117 hM117 => ?_)
  obtain rfl := hM117
  refine g_aload_n (pc := 120) E dX0_copyFrom_120 (i := 1) rfl rfl ?_
  refine g_getr (t := 0) (f := 12) (pc := 121) E dX0_copyFrom_121 fl_X0_49 (kk_b hj) (by omega) (by decide) rfl (rr_b 9 (by omega) rfl) ?_
  refine g_aload_n (pc := 124) E dX0_copyFrom_124 (i := 0) rfl rfl ?_
  refine g_getr (t := 0) (f := 12) (pc := 125) E dX0_copyFrom_125 fl_X0_49 (kk_b hk) (by omega) (by decide) rfl (rr_b 9 (by omega) rfl) ?_
  refine g_callSv (pc := 128) (As := [_, _]) E dX0_copyFrom_128 ml_X0_67 (cv_copyRow (kk_a hj 9 (by decide) (by decide)) (kk_a hk 9 (by decide) (by decide)) (by decide)) rfl rfl (by decide) (by decide) rfl (Nat.le_of_ble_eq_true rfl) (by decide) (fun M128 hM128 => ?_)
  obtain rfl := hM128
  refine g_aload_n (pc := 131) E dX0_copyFrom_131 (i := 1) rfl rfl ?_
  refine g_getr (t := 0) (f := 13) (pc := 132) E dX0_copyFrom_132 fl_X0_52 (kk_b hj) (by omega) (by decide) rfl (rr_b 10 (by omega) rfl) ?_
  refine g_aload_n (pc := 135) E dX0_copyFrom_135 (i := 0) rfl rfl ?_
  refine g_getr (t := 0) (f := 13) (pc := 136) E dX0_copyFrom_136 fl_X0_52 (kk_b hk) (by omega) (by decide) rfl (rr_b 10 (by omega) rfl) ?_
  refine g_callSv (pc := 139) (As := [_, _]) E dX0_copyFrom_139 ml_X0_67 (cv_copyRow (kk_a hj 10 (by decide) (by decide)) (kk_a hk 10 (by decide) (by decide)) (by decide)) rfl rfl (by decide) (by decide) rfl (Nat.le_of_ble_eq_true rfl) (by decide) (fun M139 hM139 => ?_)
  obtain rfl := hM139
  refine g_aload_n (pc := 142) E dX0_copyFrom_142 (i := 1) rfl rfl ?_
  refine g_getr (t := 0) (f := 14) (pc := 143) E dX0_copyFrom_143 fl_X0_55 (kk_b hj) (by omega) (by decide) rfl (rr_b 11 (by omega) rfl) ?_
  refine g_aload_n (pc := 146) E dX0_copyFrom_146 (i := 0) rfl rfl ?_
  refine g_getr (t := 0) (f := 14) (pc := 147) E dX0_copyFrom_147 fl_X0_55 (kk_b hk) (by omega) (by decide) rfl (rr_b 11 (by omega) rfl) ?_
  refine g_callSv (pc := 150) (As := [_, _]) E dX0_copyFrom_150 ml_X0_67 (cv_copyRow (kk_a hj 11 (by decide) (by decide)) (kk_a hk 11 (by decide) (by decide)) (by decide)) rfl rfl (by decide) (by decide) rfl (Nat.le_of_ble_eq_true rfl) (by decide) (fun M150 hM150 => ?_)
  obtain rfl := hM150
  refine g_aload_n (pc := 153) E dX0_copyFrom_153 (i := 1) rfl rfl ?_
  refine g_getr (t := 0) (f := 15) (pc := 154) E dX0_copyFrom_154 fl_X0_58 (kk_b hj) (by omega) (by decide) rfl (rr_b 12 (by omega) rfl) ?_
  refine g_aload_n (pc := 157) E dX0_copyFrom_157 (i := 0) rfl rfl ?_
  refine g_getr (t := 0) (f := 15) (pc := 158) E dX0_copyFrom_158 fl_X0_58 (kk_b hk) (by omega) (by decide) rfl (rr_b 12 (by omega) rfl) ?_
  refine g_callSv (pc := 161) (As := [_, _]) E dX0_copyFrom_161 ml_X0_67 (cv_copyRow (kk_a hj 12 (by decide) (by decide)) (kk_a hk 12 (by decide) (by decide)) (by decide)) rfl rfl (by decide) (by decide) rfl (Nat.le_of_ble_eq_true rfl) (by decide) (fun M161 hM161 => ?_)
  obtain rfl := hM161
  refine g_aload_n (pc := 164) E dX0_copyFrom_164 (i := 1) rfl rfl ?_
  refine g_getr (t := 0) (f := 16) (pc := 165) E dX0_copyFrom_165 fl_X0_61 (kk_b hj) (by omega) (by decide) rfl (rr_b 13 (by omega) rfl) ?_
  refine g_aload_n (pc := 168) E dX0_copyFrom_168 (i := 0) rfl rfl ?_
  refine g_getr (t := 0) (f := 16) (pc := 169) E dX0_copyFrom_169 fl_X0_61 (kk_b hk) (by omega) (by decide) rfl (rr_b 13 (by omega) rfl) ?_
  refine g_callSv (pc := 172) (As := [_, _]) E dX0_copyFrom_172 ml_X0_67 (cv_copyRow (kk_a hj 13 (by decide) (by decide)) (kk_a hk 13 (by decide) (by decide)) (by decide)) rfl rfl (by decide) (by decide) rfl (Nat.le_of_ble_eq_true rfl) (by decide) (fun M172 hM172 => ?_)
  obtain rfl := hM172
  refine g_aload_n (pc := 175) E dX0_copyFrom_175 (i := 1) rfl rfl ?_
  refine g_getr (t := 0) (f := 17) (pc := 176) E dX0_copyFrom_176 fl_X0_64 (kk_b hj) (by omega) (by decide) rfl (rr_b 14 (by omega) rfl) ?_
  refine g_aload_n (pc := 179) E dX0_copyFrom_179 (i := 0) rfl rfl ?_
  refine g_getr (t := 0) (f := 17) (pc := 180) E dX0_copyFrom_180 fl_X0_64 (kk_b hk) (by omega) (by decide) rfl (rr_b 14 (by omega) rfl) ?_
  refine g_callSv (pc := 183) (As := [_, _]) E dX0_copyFrom_183 ml_X0_67 (cv_copyRow (kk_a hj 14 (by decide) (by decide)) (kk_a hk 14 (by decide) (by decide)) (by decide)) rfl rfl (by decide) (by decide) rfl (Nat.le_of_ble_eq_true rfl) (by decide) (fun M183 hM183 => ?_)
  obtain rfl := hM183
  refine g_vret (pc := 186) E hr dX0_copyFrom_186 ?_
  refine ⟨fun f f0 f1 => ?_, fun t t0 t1 x x0 x1 => ?_, fun i hi => ?_⟩
  · rw [cpy_ne (by omega), cpy_ne (by omega), cpy_ne (by omega), cpy_ne (by omega), cpy_ne (by omega), cpy_ne (by omega), cpy_ne (by omega), cpy_ne (by omega), cpy_ne (by omega), cpy_ne (by omega), cpy_ne (by omega), cpy_ne (by omega), cpy_ne (by omega), cpy_ne (by omega)]
    have hf : f = 0 ∨ f = 1 ∨ f = 2 ∨ f = 3 := by omega
    rcases hf with rfl | rfl | rfl | rfl
    · rw [st_off (by decide), st_off (by decide), st_off (by decide), st_self]
    · rw [st_off (by decide), st_off (by decide), st_self]
    · rw [st_off (by decide), st_self]
    · rw [st_self]
  · have ht : t = 1 ∨ t = 2 ∨ t = 3 ∨ t = 4 ∨ t = 5 ∨ t = 6 ∨ t = 7 ∨ t = 8 ∨ t = 9 ∨ t = 10 ∨ t = 11 ∨ t = 12 ∨ t = 13 ∨ t = 14 := by omega
    rcases ht with rfl | rfl | rfl | rfl | rfl | rfl | rfl | rfl | rfl | rfl | rfl | rfl | rfl | rfl
    · rw [cpy_ne (by omega), cpy_ne (by omega), cpy_ne (by omega), cpy_ne (by omega), cpy_ne (by omega), cpy_ne (by omega), cpy_ne (by omega), cpy_ne (by omega), cpy_ne (by omega), cpy_ne (by omega), cpy_ne (by omega), cpy_ne (by omega), cpy_ne (by omega), cpy_in ⟨x0, x1⟩, st_ne (by omega), st_ne (by omega), st_ne (by omega), st_ne (by omega)]
    · rw [cpy_ne (by omega), cpy_ne (by omega), cpy_ne (by omega), cpy_ne (by omega), cpy_ne (by omega), cpy_ne (by omega), cpy_ne (by omega), cpy_ne (by omega), cpy_ne (by omega), cpy_ne (by omega), cpy_ne (by omega), cpy_ne (by omega), cpy_in ⟨x0, x1⟩, cpy_ne (by omega), st_ne (by omega), st_ne (by omega), st_ne (by omega), st_ne (by omega)]
    · rw [cpy_ne (by omega), cpy_ne (by omega), cpy_ne (by omega), cpy_ne (by omega), cpy_ne (by omega), cpy_ne (by omega), cpy_ne (by omega), cpy_ne (by omega), cpy_ne (by omega), cpy_ne (by omega), cpy_ne (by omega), cpy_in ⟨x0, x1⟩, cpy_ne (by omega), cpy_ne (by omega), st_ne (by omega), st_ne (by omega), st_ne (by omega), st_ne (by omega)]
    · rw [cpy_ne (by omega), cpy_ne (by omega), cpy_ne (by omega), cpy_ne (by omega), cpy_ne (by omega), cpy_ne (by omega), cpy_ne (by omega), cpy_ne (by omega), cpy_ne (by omega), cpy_ne (by omega), cpy_in ⟨x0, x1⟩, cpy_ne (by omega), cpy_ne (by omega), cpy_ne (by omega), st_ne (by omega), st_ne (by omega), st_ne (by omega), st_ne (by omega)]
    · rw [cpy_ne (by omega), cpy_ne (by omega), cpy_ne (by omega), cpy_ne (by omega), cpy_ne (by omega), cpy_ne (by omega), cpy_ne (by omega), cpy_ne (by omega), cpy_ne (by omega), cpy_in ⟨x0, x1⟩, cpy_ne (by omega), cpy_ne (by omega), cpy_ne (by omega), cpy_ne (by omega), st_ne (by omega), st_ne (by omega), st_ne (by omega), st_ne (by omega)]
    · rw [cpy_ne (by omega), cpy_ne (by omega), cpy_ne (by omega), cpy_ne (by omega), cpy_ne (by omega), cpy_ne (by omega), cpy_ne (by omega), cpy_ne (by omega), cpy_in ⟨x0, x1⟩, cpy_ne (by omega), cpy_ne (by omega), cpy_ne (by omega), cpy_ne (by omega), cpy_ne (by omega), st_ne (by omega), st_ne (by omega), st_ne (by omega), st_ne (by omega)]
    · rw [cpy_ne (by omega), cpy_ne (by omega), cpy_ne (by omega), cpy_ne (by omega), cpy_ne (by omega), cpy_ne (by omega), cpy_ne (by omega), cpy_in ⟨x0, x1⟩, cpy_ne (by omega), cpy_ne (by omega), cpy_ne (by omega), cpy_ne (by omega), cpy_ne (by omega), cpy_ne (by omega), st_ne (by omega), st_ne (by omega), st_ne (by omega), st_ne (by omega)]
    · rw [cpy_ne (by omega), cpy_ne (by omega), cpy_ne (by omega), cpy_ne (by omega), cpy_ne (by omega), cpy_ne (by omega), cpy_in ⟨x0, x1⟩, cpy_ne (by omega), cpy_ne (by omega), cpy_ne (by omega), cpy_ne (by omega), cpy_ne (by omega), cpy_ne (by omega), cpy_ne (by omega), st_ne (by omega), st_ne (by omega), st_ne (by omega), st_ne (by omega)]
    · rw [cpy_ne (by omega), cpy_ne (by omega), cpy_ne (by omega), cpy_ne (by omega), cpy_ne (by omega), cpy_in ⟨x0, x1⟩, cpy_ne (by omega), cpy_ne (by omega), cpy_ne (by omega), cpy_ne (by omega), cpy_ne (by omega), cpy_ne (by omega), cpy_ne (by omega), cpy_ne (by omega), st_ne (by omega), st_ne (by omega), st_ne (by omega), st_ne (by omega)]
    · rw [cpy_ne (by omega), cpy_ne (by omega), cpy_ne (by omega), cpy_ne (by omega), cpy_in ⟨x0, x1⟩, cpy_ne (by omega), cpy_ne (by omega), cpy_ne (by omega), cpy_ne (by omega), cpy_ne (by omega), cpy_ne (by omega), cpy_ne (by omega), cpy_ne (by omega), cpy_ne (by omega), st_ne (by omega), st_ne (by omega), st_ne (by omega), st_ne (by omega)]
    · rw [cpy_ne (by omega), cpy_ne (by omega), cpy_ne (by omega), cpy_in ⟨x0, x1⟩, cpy_ne (by omega), cpy_ne (by omega), cpy_ne (by omega), cpy_ne (by omega), cpy_ne (by omega), cpy_ne (by omega), cpy_ne (by omega), cpy_ne (by omega), cpy_ne (by omega), cpy_ne (by omega), st_ne (by omega), st_ne (by omega), st_ne (by omega), st_ne (by omega)]
    · rw [cpy_ne (by omega), cpy_ne (by omega), cpy_in ⟨x0, x1⟩, cpy_ne (by omega), cpy_ne (by omega), cpy_ne (by omega), cpy_ne (by omega), cpy_ne (by omega), cpy_ne (by omega), cpy_ne (by omega), cpy_ne (by omega), cpy_ne (by omega), cpy_ne (by omega), cpy_ne (by omega), st_ne (by omega), st_ne (by omega), st_ne (by omega), st_ne (by omega)]
    · rw [cpy_ne (by omega), cpy_in ⟨x0, x1⟩, cpy_ne (by omega), cpy_ne (by omega), cpy_ne (by omega), cpy_ne (by omega), cpy_ne (by omega), cpy_ne (by omega), cpy_ne (by omega), cpy_ne (by omega), cpy_ne (by omega), cpy_ne (by omega), cpy_ne (by omega), cpy_ne (by omega), st_ne (by omega), st_ne (by omega), st_ne (by omega), st_ne (by omega)]
    · rw [cpy_in ⟨x0, x1⟩, cpy_ne (by omega), cpy_ne (by omega), cpy_ne (by omega), cpy_ne (by omega), cpy_ne (by omega), cpy_ne (by omega), cpy_ne (by omega), cpy_ne (by omega), cpy_ne (by omega), cpy_ne (by omega), cpy_ne (by omega), cpy_ne (by omega), cpy_ne (by omega), st_ne (by omega), st_ne (by omega), st_ne (by omega), st_ne (by omega)]
  · rw [cpy_ne (by omega), cpy_ne (by omega), cpy_ne (by omega), cpy_ne (by omega), cpy_ne (by omega), cpy_ne (by omega), cpy_ne (by omega), cpy_ne (by omega), cpy_ne (by omega), cpy_ne (by omega), cpy_ne (by omega), cpy_ne (by omega), cpy_ne (by omega), cpy_ne (by omega), st_ne (by omega), st_ne (by omega), st_ne (by omega), st_ne (by omega)]

theorem cv_prepare {cx : Cx} {M : Mem} (h1 : 0 ≤ M 165 1 ∧ M 165 1 < 9) : Cv cx yX2_prepare cX2_prepare 2 4 0 0 [rf cx 165, rf cx 0] M (fun M' => CPY M 0 ((M 165 1).toNat + 2) M') := by
  refine cv_intro cd_X2_prepare (by decide +kernel) (Nat.le_of_ble_eq_true rfl) rfl (fun Pg Lc Ev s m args below meth c E hr => ?_)
  refine g_ent (ls' := [some (rf cx 165), some (rf cx 0)]) rfl ?_
  refine g_aload_n (pc := 0) E dX2_prepare_0 (i := 0) rfl rfl ?_
  refine g_getr (i := 165) (j := 166) (t := 2) (f := 0) (pc := 1) E dX2_prepare_1 fl_X2_11 rfl (by decide) (by decide) rfl rfl ?_
  refine g_aload_n (pc := 4) E dX2_prepare_4 (i := 0) rfl rfl ?_
  refine g_geti (i := 165) (t := 2) (f := 1) (fz := 1) (pc := 5) E dX2_prepare_5 fl_X2_17 rfl (by decide) (by decide) rfl rfl rfl (fun _ _ => ?_)
  refine g_aald (pc := 8) E dX2_prepare_8 rfl (by omega) (by omega) rfl ?_
  refine g_aload_n (pc := 9) E dX2_prepare_9 (i := 1) rfl rfl ?_
  refine g_callVv (pc := 10) (As := [_]) E dX2_prepare_10 ml_X2_32 (cv_copyFrom (jb := 0) (kb := (M 165 1).toNat + 2) (by omega) (by omega) (by omega)) rfl (kk_b (by omega)) rfl rfl (by decide) (by decide) rfl (Nat.le_of_ble_eq_true rfl) (by decide) (fun M10 hM10 => ?_)
  refine g_vret (pc := 13) E hr dX2_prepare_13 ?_
  exact hM10

theorem cv_takeBack {cx : Cx} {M : Mem} (h1 : 0 ≤ M 165 1 ∧ M 165 1 < 9) : Cv cx yX2_takeBack cX2_takeBack 2 4 0 0 [rf cx 165, rf cx 0] M (fun M' => CPY M ((M 165 1).toNat + 2) 0 M') := by
  refine cv_intro cd_X2_takeBack (by decide +kernel) (Nat.le_of_ble_eq_true rfl) rfl (fun Pg Lc Ev s m args below meth c E hr => ?_)
  refine g_ent (ls' := [some (rf cx 165), some (rf cx 0)]) rfl ?_
  refine g_aload_n (pc := 0) E dX2_takeBack_0 (i := 1) rfl rfl ?_
  refine g_aload_n (pc := 1) E dX2_takeBack_1 (i := 0) rfl rfl ?_
  refine g_getr (i := 165) (j := 166) (t := 2) (f := 0) (pc := 2) E dX2_takeBack_2 fl_X2_11 rfl (by decide) (by decide) rfl rfl ?_
  refine g_aload_n (pc := 5) E dX2_takeBack_5 (i := 0) rfl rfl ?_
  refine g_geti (i := 165) (t := 2) (f := 1) (fz := 1) (pc := 6) E dX2_takeBack_6 fl_X2_17 rfl (by decide) (by decide) rfl rfl rfl (fun _ _ => ?_)
  refine g_aald (pc := 9) E dX2_takeBack_9 rfl (by omega) (by omega) rfl ?_
  refine g_callVv (pc := 10) (As := [_]) E dX2_takeBack_10 ml_X2_32 (cv_copyFrom (jb := (M 165 1).toNat + 2) (kb := 0) (by omega) (by omega) (by omega)) rfl rfl rfl rfl (by decide) (by decide) rfl (Nat.le_of_ble_eq_true rfl) (by decide) (fun M10 hM10 => ?_)
  refine g_vret (pc := 13) E hr dX2_takeBack_13 ?_
  exact hM10

def cfm (M : Mem) : Mem := st (st M 165 1 ((M 165 1 + 1) % 9)) 165 2 (min (M 165 2 + 1) 8)

theorem cv_confirm {cx : Cx} {M : Mem} (h1 : 0 ≤ M 165 1 ∧ M 165 1 < 9) (h2 : 0 ≤ M 165 2 ∧ M 165 2 ≤ 8) : Cv cx yX2_confirm cX2_confirm 1 2 0 0 [rf cx 165] M (fun M' => cfm M = M') := by
  refine cv_intro cd_X2_confirm (by decide +kernel) (Nat.le_of_ble_eq_true rfl) rfl (fun Pg Lc Ev s m args below meth c E hr => ?_)
  refine g_ent (ls' := [some (rf cx 165)]) rfl ?_
  refine g_aload_n (pc := 0) E dX2_confirm_0 (i := 0) rfl rfl ?_
  refine g_aload_n (pc := 1) E dX2_confirm_1 (i := 0) rfl rfl ?_
  refine g_geti (i := 165) (t := 2) (f := 1) (fz := 1) (pc := 2) E dX2_confirm_2 fl_X2_17 rfl (by decide) (by decide) rfl rfl rfl (fun _ _ => ?_)
  refine g_iconst (pc := 5) E dX2_confirm_5 rfl ?_
  refine g_iadd (pc := 6) E dX2_confirm_6 ?_
  refine g_bipush (pc := 7) E dX2_confirm_7 rfl ?_
  refine g_irem (pc := 9) E dX2_confirm_9 (by omega) (by omega) (by omega) (by omega) ?_
  refine g_puti (i := 165) (t := 2) (f := 1) (fz := 1) (pc := 10) E dX2_confirm_10 fl_X2_17 rfl (by decide) (by decide) rfl rfl ?_ 
  refine g_aload_n (pc := 13) E dX2_confirm_13 (i := 0) rfl rfl ?_
  refine g_aload_n (pc := 14) E dX2_confirm_14 (i := 0) rfl rfl ?_
  refine g_geti (i := 165) (t := 2) (f := 2) (fz := 2) (pc := 15) E dX2_confirm_15 fl_X2_21 rfl (by decide) (by decide) rfl rfl (v := M 165 2) (by rw [st_off (by decide)]) (fun _ _ => ?_)
  refine g_iconst (pc := 18) E dX2_confirm_18 rfl ?_
  refine g_iadd (pc := 19) E dX2_confirm_19 ?_
  refine g_bipush (pc := 20) E dX2_confirm_20 rfl ?_
  refine g_min (pc := 22) E dX2_confirm_22 (big_at 412 (by decide +kernel) (by decide +kernel)) rfl (by decide) (Nat.le_of_ble_eq_true rfl) (by decide) ?_ 
  refine g_puti (i := 165) (t := 2) (f := 2) (fz := 2) (pc := 25) E dX2_confirm_25 fl_X2_21 rfl (by decide) (by decide) rfl rfl ?_ 
  refine g_vret (pc := 28) E hr dX2_confirm_28 ?_
  rfl

theorem CPY.e {M N : Mem} {j k : Nat} (h : CPY M j k N) {i : Nat} (hi : i < 15 * k ∨ 15 * k + 15 ≤ i) : N i = M i := h.2.2 i hi

theorem cv_keep {cx : Cx} {M : Mem} (h1 : 0 ≤ M 165 1 ∧ M 165 1 < 9) (h2 : 0 ≤ M 165 2 ∧ M 165 2 ≤ 8) : Cv cx yX2_keep cX2_keep 2 5 0 0 [rf cx 165, rf cx 0] M (fun M' => ∃ N, CPY M 0 ((M 165 1).toNat + 2) N ∧ cfm N = M') := by
  refine cv_intro cd_X2_keep (by decide +kernel) (Nat.le_of_ble_eq_true rfl) rfl (fun Pg Lc Ev s m args below meth c E hr => ?_)
  refine g_ent (ls' := [some (rf cx 165), some (rf cx 0)]) rfl ?_
  refine g_aload_n (pc := 0) E dX2_keep_0 (i := 0) rfl rfl ?_
  refine g_aload_n (pc := 1) E dX2_keep_1 (i := 1) rfl rfl ?_
  refine g_callVv (pc := 2) (As := [_]) E dX2_keep_2 ml_X2_25 (cv_prepare h1) rfl rfl rfl rfl (by decide) (by decide) rfl (Nat.le_of_ble_eq_true rfl) (by decide) (fun M2 hM2 => ?_)
  refine g_aload_n (pc := 5) E dX2_keep_5 (i := 0) rfl rfl ?_
  refine g_callVv (pc := 6) (As := []) E dX2_keep_6 ml_X2_29 (cv_confirm (by rw [hM2.e (by omega)]; exact h1) (by rw [hM2.e (by omega)]; exact h2)) rfl rfl rfl rfl (by decide) (by decide) rfl (Nat.le_of_ble_eq_true rfl) (by decide) (fun M6 hM6 => ?_)
  obtain rfl := hM6
  refine g_vret (pc := 9) E hr dX2_keep_9 ?_
  exact ⟨_, hM2, rfl⟩

theorem cv_stepBack {cx : Cx} {M : Mem} (h1 : 0 ≤ M 165 1 ∧ M 165 1 < 9) (h2 : 0 ≤ M 165 2 ∧ M 165 2 ≤ 8) (h3 : 0 < M 165 2) : Cv cx yX2_stepBack cX2_stepBack 2 5 0 0 [rf cx 165, rf cx 0] M (fun M' => CPY (st (st M 165 1 ((M 165 1 + 8) % 9)) 165 2 (M 165 2 - 1)) (((M 165 1 + 8) % 9).toNat + 2) 0 M') := by
  refine cv_intro cd_X2_stepBack (by decide +kernel) (Nat.le_of_ble_eq_true rfl) rfl (fun Pg Lc Ev s m args below meth c E hr => ?_)
  refine g_ent (ls' := [some (rf cx 165), some (rf cx 0)]) rfl ?_
  refine g_aload_n (pc := 0) E dX2_stepBack_0 (i := 0) rfl rfl ?_
  refine g_aload_n (pc := 1) E dX2_stepBack_1 (i := 0) rfl rfl ?_
  refine g_geti (i := 165) (t := 2) (f := 1) (fz := 1) (pc := 2) E dX2_stepBack_2 fl_X2_17 rfl (by decide) (by decide) rfl rfl rfl (fun _ _ => ?_)
  refine g_bipush (pc := 5) E dX2_stepBack_5 rfl ?_
  refine g_iadd (pc := 7) E dX2_stepBack_7 ?_
  refine g_bipush (pc := 8) E dX2_stepBack_8 rfl ?_
  refine g_irem (pc := 10) E dX2_stepBack_10 (by omega) (by omega) (by omega) (by omega) ?_
  refine g_puti (i := 165) (t := 2) (f := 1) (fz := 1) (pc := 11) E dX2_stepBack_11 fl_X2_17 rfl (by decide) (by decide) rfl rfl ?_ 
  refine g_aload_n (pc := 14) E dX2_stepBack_14 (i := 0) rfl rfl ?_
  refine g_dup (pc := 15) E dX2_stepBack_15 rfl ?_
  refine g_geti (i := 165) (t := 2) (f := 2) (fz := 2) (pc := 16) E dX2_stepBack_16 fl_X2_21 rfl (by decide) (by decide) rfl rfl (v := M 165 2) (by rw [st_off (by decide)]) (fun _ _ => ?_)
  refine g_iconst (pc := 19) E dX2_stepBack_19 rfl ?_
  refine g_isub (pc := 20) E dX2_stepBack_20 ?_
  refine g_puti (i := 165) (t := 2) (f := 2) (fz := 2) (pc := 21) E dX2_stepBack_21 fl_X2_21 rfl (by decide) (by decide) rfl rfl ?_ 
  have e1 : (st (st M 165 1 ((M 165 1 + 8) % 9)) 165 2 (M 165 2 - 1)) 165 1 = (M 165 1 + 8) % 9 := by rw [st_off (by decide), st_self]
  refine g_aload_n (pc := 24) E dX2_stepBack_24 (i := 0) rfl rfl ?_
  refine g_aload_n (pc := 25) E dX2_stepBack_25 (i := 1) rfl rfl ?_
  refine g_callVv (pc := 26) (As := [_]) E dX2_stepBack_26 ml_X2_41 (cv_takeBack (by rw [e1]; omega)) rfl rfl rfl rfl (by decide) (by decide) rfl (Nat.le_of_ble_eq_true rfl) (by decide) (fun M26 hM26 => ?_)
  rw [e1] at hM26
  refine g_vret (pc := 29) E hr dX2_stepBack_29 ?_
  exact hM26

/-- a board copied holds the same row -/
theorem CPY.bd {M N : Mem} {j k : Nat} {S : Int → Int} (h : CPY M j k N) (hV : SOK S) (hB : BDr (15 * j) M S) : BDr (15 * k) N S := by
  have h0 := hV.1
  obtain ⟨⟨a1, a2, a3, a4⟩, b1, b2, b3, b6, b7, b9, b10, b11, b13⟩ := hB
  obtain ⟨c1, c2, c3⟩ := h
  refine ⟨⟨(c1 0 (by decide) (by decide)).trans a1, (c1 1 (by decide) (by decide)).trans a2, (c1 2 (by decide) (by decide)).trans a3, (c1 3 (by decide) (by decide)).trans a4⟩, fun x u v => ?_, fun x u v => ?_, fun x u v => ?_, fun x u v => ?_, fun x u v => ?_, fun x u v => ?_, fun x u v => ?_, fun x u v => ?_, fun x y u v w z => ?_⟩
  · rw [c2 1 (by decide) (by decide) x u (by show x < ((5 : Nat) : Int); omega)]; exact b1 x u v
  · rw [c2 2 (by decide) (by decide) x u (by show x < ((4 : Nat) : Int); omega)]; exact b2 x u v
  · rw [c2 3 (by decide) (by decide) x u (by show x < ((8 : Nat) : Int); omega), c2 4 (by decide) (by decide) x u (by show x < ((8 : Nat) : Int); omega), c2 5 (by decide) (by decide) x u (by show x < ((8 : Nat) : Int); omega)]; exact b3 x u v
  · rw [c2 6 (by decide) (by decide) x u (by show x < ((20 : Nat) : Int); omega)]; exact b6 x u v
  · rw [c2 7 (by decide) (by decide) x u (by show x < ((160 : Nat) : Int); omega), c2 8 (by decide) (by decide) x u (by show x < ((160 : Nat) : Int); omega)]; exact b7 x u v
  · rw [c2 9 (by decide) (by decide) x u (by show x < ((160 : Nat) : Int); omega)]; exact b9 x u v
  · rw [c2 10 (by decide) (by decide) x u (by show x < ((160 : Nat) : Int); omega)]; exact b10 x u v
  · rw [c2 11 (by decide) (by decide) x u (by show x < ((24 : Nat) : Int); omega), c2 12 (by decide) (by decide) x u (by show x < ((24 : Nat) : Int); omega)]; exact b11 x u v
  · rw [c2 13 (by decide) (by decide) _ (by omega) (by show _ < ((24 : Nat) : Int); omega), c2 14 (by decide) (by decide) _ (by omega) (by show _ < ((24 : Nat) : Int); omega)]; exact b13 x y u v w z
