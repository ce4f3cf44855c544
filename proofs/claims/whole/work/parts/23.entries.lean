/-! entries of the reference: k is the letter: 109 m, 114 r, 101 e, 97 a, 120 x -/
def ru (S : Int → Int) (x v : Int) : Int → Int := fun y => if y = x then v else S y
theorem ru_self (S : Int → Int) (x v : Int) : ru S x v x = v := if_pos rfl
theorem ru_off {S : Int → Int} {x v y : Int} (h : y ≠ x) : ru S x v y = S y := if_neg h
def reS (S : Int → Int) (k s p raw : Int) : Int := if ¬ (0 ≤ s ∧ s < S 7) then 1 else if ¬ (0 ≤ p ∧ p < S 6) then 2 else if S (13 + 3 * p + 2) < raw then 3 else if k = 114 ∨ k = 120 then (if S (57 + 3 * (8 * s + p)) = 0 then 5 else if k = 120 then 0 else if 0 ≤ S (57 + 3 * (8 * s + p) + 2) then 6 else if S 0 ≤ scS S s p then 7 else 0) else (if S (57 + 3 * (8 * s + p)) = 0 then 0 else 4)
def abS (S : Int → Int) (s p r : Int) : Int := if r = 1 then s else if r = 3 then S (13 + 3 * p + 2) else if r = 7 then scS S s p else p
def oiF (S : Int → Int) (a i : Int) : Int := if S (585 + i) = a then 1 else 0
/-- where the pair a stands in the order -/
def remI (S : Int → Int) (a : Int) : Int := fi (oiF S a) (S 8)
def remS (S : Int → Int) (a : Int) : Int → Int := fun x => if x = 57 + 3 * a then 0 else if x = 57 + 3 * a + 1 then 0 else if x = 57 + 3 * a + 2 then -1 else if x = 8 then S 8 - 1 else if 585 + remI S a ≤ x ∧ x < 585 + (S 8 - 1) then S (x + 1) else S x
def enS (S : Int → Int) (k s p raw : Int) : Int → Int := if k = 114 then ru S (57 + 3 * (8 * s + p) + 2) raw else if k = 120 then remS S (8 * s + p) else ru (ru (ru (ru (ru S (57 + 3 * (8 * s + p)) (if k = 109 then 1 else if k = 97 then 2 else 3)) (57 + 3 * (8 * s + p) + 1) raw) (57 + 3 * (8 * s + p) + 2) (-1)) 8 (S 8 + 1)) (585 + S 8) (8 * s + p)
/-- an entry: done, or refused with its reason -/
def ENT (S : Int → Int) (k s p raw : Int) (M M' : Mem) (r : Int) : Prop := reS S k s p raw = r ∧ (∀ i, i ≠ 184 → i ≠ 185 → M' i = M i) ∧ (r = 0 → M' 185 = enS S k s p raw ∧ M' 184 = M 184) ∧ (¬ r = 0 → M' 185 = S ∧ M' 184 = ru (ru (M 184) 11 r) 13 (abS S s p r))
theorem ent_no {S : Int → Int} {M : Mem} (e5 : M 185 = S) {k s p raw r b : Int} (h1 : reS S k s p raw = r) (h2 : ¬ r = 0) (h3 : abS S s p r = b) : ENT S k s p raw M (st (st M 184 11 r) 184 13 b) r :=
  ⟨h1, fun i q1 q2 => by rw [st_ne q1, st_ne q1], fun q => absurd q h2, fun _ => ⟨e5, by rw [h3, st_row, st_row]; rfl⟩⟩
theorem rem_row {S : Int → Int} {M : Mem} (e5 : M 185 = S) {a w t : Int} (ha : 0 ≤ a) (ha2 : a < 160) (hw : w = remI S a) (ht : t = S 8 - 1 - w) (h0 : 0 ≤ w) (h1 : w < S 8) (h2 : S 8 ≤ 160) : cpo (st (st (st (st M 185 (57 + 3 * a) 0) 185 (57 + 3 * a + 1) 0) 185 (57 + 3 * a + 2) (-1)) 185 8 (S 8 - 1)) 185 (585 + w + 1) 185 (585 + w) t 185 = remS S a := by
  subst e5; subst ht
  funext x
  unfold remS
  rw [← hw]
  by_cases hx : 585 + w ≤ x ∧ x < 585 + w + (M 185 8 - 1 - w)
  · rw [cpo_in hx, if_neg (by omega), if_neg (by omega), if_neg (by omega), if_neg (by omega), if_pos (by omega), st_off (by omega), st_off (by omega), st_off (by omega), st_off (by omega), show 585 + w + 1 + (x - (585 + w)) = x + 1 by omega]
  · rw [cpo_out hx]
    by_cases q1 : x = 57 + 3 * a
    · subst q1; rw [if_pos rfl, st_off (by omega), st_off (by omega), st_off (by omega), st_self]
    · rw [if_neg q1]
      by_cases q2 : x = 57 + 3 * a + 1
      · subst q2; rw [if_pos rfl, st_off (by omega), st_off (by omega), st_self]
      · rw [if_neg q2]
        by_cases q3 : x = 57 + 3 * a + 2
        · subst q3; rw [if_pos rfl, st_off (by omega), st_self]
        · rw [if_neg q3]
          by_cases q4 : x = 8
          · subst q4; rw [if_pos rfl, st_self]
          · rw [if_neg q4, if_neg (by omega), st_off q4, st_off q3, st_off q2, st_off q1]

theorem ct_enters {cx : Cx} {M : Mem} {S : Int → Int} (e5 : M 185 = S) {sn p raw : Int} (hsn : -2147483648 ≤ sn ∧ sn ≤ 2147483647) (hp : -2147483648 ≤ p ∧ p ≤ 2147483647) (hraw : -2147483648 ≤ raw ∧ raw ≤ 2147483647) {k kd : Int} (hV : SOK S) (hk : (k = 109 ∧ kd = 1) ∨ (k = 97 ∧ kd = 2 ∧ raw = 0) ∨ (k = 101 ∧ kd = 3 ∧ raw = 0)) (hr0 : 0 ≤ raw) (h8 : 0 ≤ sn → sn < S 7 → 0 ≤ p → p < S 6 → S (57 + 3 * (8 * sn + p)) = 0 → S 8 < 160) : Ct cx yX6_enters cX6_enters 6 (some .int) 3 0 0 [rf cx 184, .int (oi sn), .int (oi p), .int (oi kd), .int (oi raw)] M (fun rz M' => ENT S k sn p raw M M' rz) := by
  refine ct_intro cd_X6_enters (by decide +kernel) (Nat.le_of_ble_eq_true rfl) rfl (fun Pg Lc Ev s m args below meth c E hr => ?_)
  refine g_ent (ls' := [some (rf cx 184), some (.int (oi sn)), some (.int (oi p)), some (.int (oi kd)), some (.int (oi raw)), none]) rfl ?_
  have hV0 := hV.1
  have hkd : (if k = 109 then (1 : Int) else if k = 97 then 2 else 3) = kd := by (repeat' split) <;> omega
  refine g_aload_n (pc := 0) E dX6_enters_0 (i := 0) rfl rfl ?_
  refine g_iload_n (pc := 1) E dX6_enters_1 (i := 1) rfl rfl ?_
  refine g_callV (pc := 2) (As := [_]) E dX6_enters_2 ml_X6_168 (ct_isStudent e5 hV (by omega)) rfl rfl rfl rfl (by decide) (by decide) rfl (Nat.le_of_ble_eq_true rfl) (by decide) (fun x2 M2 hM2 => ?_)
  obtain ⟨rfl, rfl⟩ := hM2
  refine g_if_ne (pc := 5) (tgt := 15) E dX6_enters_5 (by decide) (fun qh5 => ?_) (fun qh5 => ?_) (Int.le_trans (by decide) (bi_R _).1) (Int.le_trans (bi_R _).2 (by decide))
  · replace qh5 := bi_n.mp qh5
    refine g_aload_n (pc := 15) E dX6_enters_15 (i := 0) rfl rfl ?_
    refine g_iload_n (pc := 16) E dX6_enters_16 (i := 2) rfl rfl ?_
    refine g_callV (pc := 17) (As := [_]) E dX6_enters_17 ml_X6_84 (ct_isPaper e5 hV (by omega)) rfl rfl rfl rfl (by decide) (by decide) rfl (Nat.le_of_ble_eq_true rfl) (by decide) (fun x17 M17 hM17 => ?_)
    obtain ⟨rfl, rfl⟩ := hM17
    refine g_if_ne (pc := 20) (tgt := 30) E dX6_enters_20 (by decide) (fun qh20 => ?_) (fun qh20 => ?_) (Int.le_trans (by decide) (bi_R _).1) (Int.le_trans (bi_R _).2 (by decide))
    · replace qh20 := bi_n.mp qh20
      have hVp := hV.2.2.1 p (by omega) (by omega)
      have hVa := hV.2.2.2.2.1 sn p (by omega) (by omega) (by omega) (by omega)
      refine g_iload_n (pc := 30) E dX6_enters_30 (i := 3) rfl rfl ?_
      refine g_iconst (pc := 31) E dX6_enters_31 rfl ?_
      refine g_icmp_ne (pc := 32) (tgt := 58) E dX6_enters_32 (by decide) (fun qh32 => ?_) (fun qh32 => ?_) 
      · refine g_iload_n (pc := 58) E dX6_enters_58 (i := 1) rfl rfl ?_
        refine g_iload_n (pc := 59) E dX6_enters_59 (i := 2) rfl rfl ?_
        refine g_callS (pc := 60) (As := [_, _]) E dX6_enters_60 ml_X6_81 ct_attemptAt rfl rfl (by decide) (by decide) rfl (Nat.le_of_ble_eq_true rfl) (by decide) (fun x60 M60 hM60 => ?_)
        obtain ⟨rfl, rfl⟩ := hM60
        refine g_istore (pc := 63) E dX6_enters_63 (ls' := [_, _, _, _, _, _]) (Nat.le_of_ble_eq_true rfl) rfl ?_
        refine g_aload_n (pc := 65) E dX6_enters_65 (i := 0) rfl rfl ?_
        refine g_getr (i := 184) (j := 185) (t := 6) (f := 0) (pc := 66) E dX6_enters_66 fl_X6_9 rfl (by decide) (by decide) rfl rfl ?_
        refine g_iload (pc := 69) E dX6_enters_69 rfl ?_
        refine g_iald (pc := 71) E dX6_enters_71 rfl (by omega) (by omega) (congrFun e5 _) (fun _ _ => ?_)
        refine g_if_le (pc := 72) (tgt := 82) E dX6_enters_72 (by decide) (fun qh72 => ?_) (fun qh72 => ?_) 
        · have h8 := h8 (by omega) (by omega) (by omega) (by omega) (by omega)
          refine g_aload_n (pc := 82) E dX6_enters_82 (i := 0) rfl rfl ?_
          refine g_getr (i := 184) (j := 185) (t := 6) (f := 0) (pc := 83) E dX6_enters_83 fl_X6_9 rfl (by decide) (by decide) rfl rfl ?_
          refine g_iload (pc := 86) E dX6_enters_86 rfl ?_
          refine g_iload_n (pc := 88) E dX6_enters_88 (i := 3) rfl rfl ?_
          refine g_iast (pc := 89) E dX6_enters_89 rfl (by omega) (by omega) ?_ 
          refine g_aload_n (pc := 90) E dX6_enters_90 (i := 0) rfl rfl ?_
          refine g_getr (i := 184) (j := 185) (t := 6) (f := 0) (pc := 91) E dX6_enters_91 fl_X6_9 rfl (by decide) (by decide) rfl rfl ?_
          refine g_iload (pc := 94) E dX6_enters_94 rfl ?_
          refine g_iconst (pc := 96) E dX6_enters_96 rfl ?_
          refine g_iadd (pc := 97) E dX6_enters_97 ?_
          refine g_iload (pc := 98) E dX6_enters_98 rfl ?_
          refine g_iast (pc := 100) E dX6_enters_100 rfl (by omega) (by omega) ?_ 
          refine g_aload_n (pc := 101) E dX6_enters_101 (i := 0) rfl rfl ?_
          refine g_getr (i := 184) (j := 185) (t := 6) (f := 0) (pc := 102) E dX6_enters_102 fl_X6_9 rfl (by decide) (by decide) rfl rfl ?_
          refine g_iload (pc := 105) E dX6_enters_105 rfl ?_
          refine g_iconst (pc := 107) E dX6_enters_107 rfl ?_
          refine g_iadd (pc := 108) E dX6_enters_108 ?_
          refine g_iconst (pc := 109) E dX6_enters_109 rfl ?_
          refine g_iast (pc := 110) E dX6_enters_110 rfl (by omega) (by omega) ?_ 
          refine g_aload_n (pc := 111) E dX6_enters_111 (i := 0) rfl rfl ?_
          refine g_getr (i := 184) (j := 185) (t := 6) (f := 0) (pc := 112) E dX6_enters_112 fl_X6_9 rfl (by decide) (by decide) rfl rfl ?_
          refine g_sipush (pc := 115) E dX6_enters_115 rfl ?_
          refine g_aload_n (pc := 118) E dX6_enters_118 (i := 0) rfl rfl ?_
          refine g_getr (i := 184) (j := 185) (t := 6) (f := 0) (pc := 119) E dX6_enters_119 fl_X6_9 rfl (by decide) (by decide) rfl rfl ?_
          refine g_bipush (pc := 122) E dX6_enters_122 rfl ?_
          refine g_dup2 (pc := 124) E dX6_enters_124 rfl rfl ?_
          refine g_iald (pc := 125) E dX6_enters_125 rfl (by omega) (by omega) (v := S 8) (by rw [st_off (by omega), st_off (by omega), st_off (by omega)]; exact congrFun e5 _) (fun _ _ => ?_)
          refine g_dup_x2 (pc := 126) E dX6_enters_126 rfl rfl rfl ?_
          refine g_iconst (pc := 127) E dX6_enters_127 rfl ?_
          refine g_iadd (pc := 128) E dX6_enters_128 ?_
          refine g_iast (pc := 129) E dX6_enters_129 rfl (by omega) (by omega) ?_ 
          refine g_iadd (pc := 130) E dX6_enters_130 ?_
          refine g_bipush (pc := 131) E dX6_enters_131 rfl ?_
          refine g_iload_n (pc := 133) E dX6_enters_133 (i := 1) rfl rfl ?_
          refine g_imul (pc := 134) E dX6_enters_134 ?_
          refine g_iload_n (pc := 135) E dX6_enters_135 (i := 2) rfl rfl ?_
          refine g_iadd (pc := 136) E dX6_enters_136 ?_
          refine g_iast (pc := 137) E dX6_enters_137 rfl (by omega) (by omega) ?_ 
          refine g_iconst (pc := 138) E dX6_enters_138 rfl ?_
          refine g_iret (pc := 139) E hr dX6_enters_139 ?_
          refine ⟨by rw [reS, if_neg (by omega), if_neg (by omega), if_neg (by omega), if_neg (by omega), if_pos (by omega)], fun i q1 q2 => by rw [st_ne q2, st_ne q2, st_ne q2, st_ne q2, st_ne q2], fun _ => ⟨?_, rfl⟩, fun q => absurd rfl q⟩
          rw [enS, if_neg (by omega), if_neg (by omega), hkd]
          subst e5
          rfl
        · refine g_aload_n (pc := 75) E dX6_enters_75 (i := 0) rfl rfl ?_
          refine g_iconst (pc := 76) E dX6_enters_76 rfl ?_
          refine g_iload_n (pc := 77) E dX6_enters_77 (i := 2) rfl rfl ?_
          refine g_callV (pc := 78) (As := [_, _]) E dX6_enters_78 ml_X6_171 (ct_refuses (by omega) (by omega)) rfl rfl rfl rfl (by decide) (by decide) rfl (Nat.le_of_ble_eq_true rfl) (by decide) (fun x78 M78 hM78 => ?_)
          obtain ⟨rfl, rfl⟩ := hM78
          refine g_iret (pc := 81) E hr dX6_enters_81 ?_
          exact ent_no e5 (by rw [reS, if_neg (by omega), if_neg (by omega), if_neg (by omega), if_neg (by omega), if_neg (by omega)]) (by decide) (by rw [abS, if_neg (by decide), if_neg (by decide), if_neg (by decide)])
      · refine g_iload (pc := 35) E dX6_enters_35 rfl ?_
        refine g_aload_n (pc := 37) E dX6_enters_37 (i := 0) rfl rfl ?_
        refine g_iload_n (pc := 38) E dX6_enters_38 (i := 2) rfl rfl ?_
        refine g_iconst (pc := 39) E dX6_enters_39 rfl ?_
        refine g_callV (pc := 40) (As := [_, _]) E dX6_enters_40 ml_X6_87 (ct_of e5 (e := 13 + 3 * p + 2) (by omega) (by omega) (by omega) (by omega) (by omega)) rfl rfl rfl rfl (by decide) (by decide) rfl (Nat.le_of_ble_eq_true rfl) (by decide) (fun x40 M40 hM40 => ?_)
        obtain ⟨rfl, rfl⟩ := hM40
        refine g_icmp_le (pc := 43) (tgt := 58) E dX6_enters_43 (by decide) (fun qh43 => ?_) (fun qh43 => ?_) 
        · refine g_iload_n (pc := 58) E dX6_enters_58 (i := 1) rfl rfl ?_
          refine g_iload_n (pc := 59) E dX6_enters_59 (i := 2) rfl rfl ?_
          refine g_callS (pc := 60) (As := [_, _]) E dX6_enters_60 ml_X6_81 ct_attemptAt rfl rfl (by decide) (by decide) rfl (Nat.le_of_ble_eq_true rfl) (by decide) (fun x60 M60 hM60 => ?_)
          obtain ⟨rfl, rfl⟩ := hM60
          refine g_istore (pc := 63) E dX6_enters_63 (ls' := [_, _, _, _, _, _]) (Nat.le_of_ble_eq_true rfl) rfl ?_
          refine g_aload_n (pc := 65) E dX6_enters_65 (i := 0) rfl rfl ?_
          refine g_getr (i := 184) (j := 185) (t := 6) (f := 0) (pc := 66) E dX6_enters_66 fl_X6_9 rfl (by decide) (by decide) rfl rfl ?_
          refine g_iload (pc := 69) E dX6_enters_69 rfl ?_
          refine g_iald (pc := 71) E dX6_enters_71 rfl (by omega) (by omega) (congrFun e5 _) (fun _ _ => ?_)
          refine g_if_le (pc := 72) (tgt := 82) E dX6_enters_72 (by decide) (fun qh72 => ?_) (fun qh72 => ?_) 
          · have h8 := h8 (by omega) (by omega) (by omega) (by omega) (by omega)
            refine g_aload_n (pc := 82) E dX6_enters_82 (i := 0) rfl rfl ?_
            refine g_getr (i := 184) (j := 185) (t := 6) (f := 0) (pc := 83) E dX6_enters_83 fl_X6_9 rfl (by decide) (by decide) rfl rfl ?_
            refine g_iload (pc := 86) E dX6_enters_86 rfl ?_
            refine g_iload_n (pc := 88) E dX6_enters_88 (i := 3) rfl rfl ?_
            refine g_iast (pc := 89) E dX6_enters_89 rfl (by omega) (by omega) ?_ 
            refine g_aload_n (pc := 90) E dX6_enters_90 (i := 0) rfl rfl ?_
            refine g_getr (i := 184) (j := 185) (t := 6) (f := 0) (pc := 91) E dX6_enters_91 fl_X6_9 rfl (by decide) (by decide) rfl rfl ?_
            refine g_iload (pc := 94) E dX6_enters_94 rfl ?_
            refine g_iconst (pc := 96) E dX6_enters_96 rfl ?_
            refine g_iadd (pc := 97) E dX6_enters_97 ?_
            refine g_iload (pc := 98) E dX6_enters_98 rfl ?_
            refine g_iast (pc := 100) E dX6_enters_100 rfl (by omega) (by omega) ?_ 
            refine g_aload_n (pc := 101) E dX6_enters_101 (i := 0) rfl rfl ?_
            refine g_getr (i := 184) (j := 185) (t := 6) (f := 0) (pc := 102) E dX6_enters_102 fl_X6_9 rfl (by decide) (by decide) rfl rfl ?_
            refine g_iload (pc := 105) E dX6_enters_105 rfl ?_
            refine g_iconst (pc := 107) E dX6_enters_107 rfl ?_
            refine g_iadd (pc := 108) E dX6_enters_108 ?_
            refine g_iconst (pc := 109) E dX6_enters_109 rfl ?_
            refine g_iast (pc := 110) E dX6_enters_110 rfl (by omega) (by omega) ?_ 
            refine g_aload_n (pc := 111) E dX6_enters_111 (i := 0) rfl rfl ?_
            refine g_getr (i := 184) (j := 185) (t := 6) (f := 0) (pc := 112) E dX6_enters_112 fl_X6_9 rfl (by decide) (by decide) rfl rfl ?_
            refine g_sipush (pc := 115) E dX6_enters_115 rfl ?_
            refine g_aload_n (pc := 118) E dX6_enters_118 (i := 0) rfl rfl ?_
            refine g_getr (i := 184) (j := 185) (t := 6) (f := 0) (pc := 119) E dX6_enters_119 fl_X6_9 rfl (by decide) (by decide) rfl rfl ?_
            refine g_bipush (pc := 122) E dX6_enters_122 rfl ?_
            refine g_dup2 (pc := 124) E dX6_enters_124 rfl rfl ?_
            refine g_iald (pc := 125) E dX6_enters_125 rfl (by omega) (by omega) (v := S 8) (by rw [st_off (by omega), st_off (by omega), st_off (by omega)]; exact congrFun e5 _) (fun _ _ => ?_)
            refine g_dup_x2 (pc := 126) E dX6_enters_126 rfl rfl rfl ?_
            refine g_iconst (pc := 127) E dX6_enters_127 rfl ?_
            refine g_iadd (pc := 128) E dX6_enters_128 ?_
            refine g_iast (pc := 129) E dX6_enters_129 rfl (by omega) (by omega) ?_ 
            refine g_iadd (pc := 130) E dX6_enters_130 ?_
            refine g_bipush (pc := 131) E dX6_enters_131 rfl ?_
            refine g_iload_n (pc := 133) E dX6_enters_133 (i := 1) rfl rfl ?_
            refine g_imul (pc := 134) E dX6_enters_134 ?_
            refine g_iload_n (pc := 135) E dX6_enters_135 (i := 2) rfl rfl ?_
            refine g_iadd (pc := 136) E dX6_enters_136 ?_
            refine g_iast (pc := 137) E dX6_enters_137 rfl (by omega) (by omega) ?_ 
            refine g_iconst (pc := 138) E dX6_enters_138 rfl ?_
            refine g_iret (pc := 139) E hr dX6_enters_139 ?_
            refine ⟨by rw [reS, if_neg (by omega), if_neg (by omega), if_neg (by omega), if_neg (by omega), if_pos (by omega)], fun i q1 q2 => by rw [st_ne q2, st_ne q2, st_ne q2, st_ne q2, st_ne q2], fun _ => ⟨?_, rfl⟩, fun q => absurd rfl q⟩
            rw [enS, if_neg (by omega), if_neg (by omega), hkd]
            subst e5
            rfl
          · refine g_aload_n (pc := 75) E dX6_enters_75 (i := 0) rfl rfl ?_
            refine g_iconst (pc := 76) E dX6_enters_76 rfl ?_
            refine g_iload_n (pc := 77) E dX6_enters_77 (i := 2) rfl rfl ?_
            refine g_callV (pc := 78) (As := [_, _]) E dX6_enters_78 ml_X6_171 (ct_refuses (by omega) (by omega)) rfl rfl rfl rfl (by decide) (by decide) rfl (Nat.le_of_ble_eq_true rfl) (by decide) (fun x78 M78 hM78 => ?_)
            obtain ⟨rfl, rfl⟩ := hM78
            refine g_iret (pc := 81) E hr dX6_enters_81 ?_
            exact ent_no e5 (by rw [reS, if_neg (by omega), if_neg (by omega), if_neg (by omega), if_neg (by omega), if_neg (by omega)]) (by decide) (by rw [abS, if_neg (by decide), if_neg (by decide), if_neg (by decide)])
        · refine g_aload_n (pc := 46) E dX6_enters_46 (i := 0) rfl rfl ?_
          refine g_iconst (pc := 47) E dX6_enters_47 rfl ?_
          refine g_aload_n (pc := 48) E dX6_enters_48 (i := 0) rfl rfl ?_
          refine g_iload_n (pc := 49) E dX6_enters_49 (i := 2) rfl rfl ?_
          refine g_iconst (pc := 50) E dX6_enters_50 rfl ?_
          refine g_callV (pc := 51) (As := [_, _]) E dX6_enters_51 ml_X6_87 (ct_of e5 (e := 13 + 3 * p + 2) (by omega) (by omega) (by omega) (by omega) (by omega)) rfl rfl rfl rfl (by decide) (by decide) rfl (Nat.le_of_ble_eq_true rfl) (by decide) (fun x51 M51 hM51 => ?_)
          obtain ⟨rfl, rfl⟩ := hM51
          refine g_callV (pc := 54) (As := [_, _]) E dX6_enters_54 ml_X6_171 (ct_refuses (by omega) (by omega)) rfl rfl rfl rfl (by decide) (by decide) rfl (Nat.le_of_ble_eq_true rfl) (by decide) (fun x54 M54 hM54 => ?_)
          obtain ⟨rfl, rfl⟩ := hM54
          refine g_iret (pc := 57) E hr dX6_enters_57 ?_
          exact ent_no e5 (by rw [reS, if_neg (by omega), if_neg (by omega), if_pos (by omega)]) (by decide) (by rw [abS, if_neg (by decide), if_pos rfl])
    · replace qh20 := bi_0.mp qh20
      refine g_aload_n (pc := 23) E dX6_enters_23 (i := 0) rfl rfl ?_
      refine g_iconst (pc := 24) E dX6_enters_24 rfl ?_
      refine g_iload_n (pc := 25) E dX6_enters_25 (i := 2) rfl rfl ?_
      refine g_callV (pc := 26) (As := [_, _]) E dX6_enters_26 ml_X6_171 (ct_refuses (by omega) (by omega)) rfl rfl rfl rfl (by decide) (by decide) rfl (Nat.le_of_ble_eq_true rfl) (by decide) (fun x26 M26 hM26 => ?_)
      obtain ⟨rfl, rfl⟩ := hM26
      refine g_iret (pc := 29) E hr dX6_enters_29 ?_
      exact ent_no e5 (by rw [reS, if_neg (by omega), if_pos (by omega)]) (by decide) (by rw [abS, if_neg (by decide), if_neg (by decide), if_neg (by decide)])
  · replace qh5 := bi_0.mp qh5
    refine g_aload_n (pc := 8) E dX6_enters_8 (i := 0) rfl rfl ?_
    refine g_iconst (pc := 9) E dX6_enters_9 rfl ?_
    refine g_iload_n (pc := 10) E dX6_enters_10 (i := 1) rfl rfl ?_
    refine g_callV (pc := 11) (As := [_, _]) E dX6_enters_11 ml_X6_171 (ct_refuses (by omega) (by omega)) rfl rfl rfl rfl (by decide) (by decide) rfl (Nat.le_of_ble_eq_true rfl) (by decide) (fun x11 M11 hM11 => ?_)
    obtain ⟨rfl, rfl⟩ := hM11
    refine g_iret (pc := 14) E hr dX6_enters_14 ?_
    exact ent_no e5 (by rw [reS, if_pos (by omega)]) (by decide) (by rw [abS, if_pos rfl])

theorem ct_sits {cx : Cx} {M : Mem} {S : Int → Int} (e5 : M 185 = S) {sn p raw : Int} (hsn : -2147483648 ≤ sn ∧ sn ≤ 2147483647) (hp : -2147483648 ≤ p ∧ p ≤ 2147483647) (hraw : -2147483648 ≤ raw ∧ raw ≤ 2147483647) (hV : SOK S) (hr0 : 0 ≤ raw) : Ct cx yX6_sits cX6_sits 5 (some .int) 8 0 0 [rf cx 184, .int (oi sn), .int (oi p), .int (oi raw)] M (fun rz M' => ENT S 114 sn p raw M M' rz) := by
  refine ct_intro cd_X6_sits (by decide +kernel) (Nat.le_of_ble_eq_true rfl) rfl (fun Pg Lc Ev s m args below meth c E hr => ?_)
  refine g_ent (ls' := [some (rf cx 184), some (.int (oi sn)), some (.int (oi p)), some (.int (oi raw)), none]) rfl ?_
  have hV0 := hV.1
  refine g_aload_n (pc := 0) E dX6_sits_0 (i := 0) rfl rfl ?_
  refine g_iload_n (pc := 1) E dX6_sits_1 (i := 1) rfl rfl ?_
  refine g_callV (pc := 2) (As := [_]) E dX6_sits_2 ml_X6_168 (ct_isStudent e5 hV (by omega)) rfl rfl rfl rfl (by decide) (by decide) rfl (Nat.le_of_ble_eq_true rfl) (by decide) (fun x2 M2 hM2 => ?_)
  obtain ⟨rfl, rfl⟩ := hM2
  refine g_if_ne (pc := 5) (tgt := 15) E dX6_sits_5 (by decide) (fun qh5 => ?_) (fun qh5 => ?_) (Int.le_trans (by decide) (bi_R _).1) (Int.le_trans (bi_R _).2 (by decide))
  · replace qh5 := bi_n.mp qh5
    refine g_aload_n (pc := 15) E dX6_sits_15 (i := 0) rfl rfl ?_
    refine g_iload_n (pc := 16) E dX6_sits_16 (i := 2) rfl rfl ?_
    refine g_callV (pc := 17) (As := [_]) E dX6_sits_17 ml_X6_84 (ct_isPaper e5 hV (by omega)) rfl rfl rfl rfl (by decide) (by decide) rfl (Nat.le_of_ble_eq_true rfl) (by decide) (fun x17 M17 hM17 => ?_)
    obtain ⟨rfl, rfl⟩ := hM17
    refine g_if_ne (pc := 20) (tgt := 30) E dX6_sits_20 (by decide) (fun qh20 => ?_) (fun qh20 => ?_) (Int.le_trans (by decide) (bi_R _).1) (Int.le_trans (bi_R _).2 (by decide))
    · replace qh20 := bi_n.mp qh20
      have hVp := hV.2.2.1 p (by omega) (by omega)
      have hVa := hV.2.2.2.2.1 sn p (by omega) (by omega) (by omega) (by omega)
      have hsR := scS_R S sn p
      refine g_iload_n (pc := 30) E dX6_sits_30 (i := 3) rfl rfl ?_
      refine g_aload_n (pc := 31) E dX6_sits_31 (i := 0) rfl rfl ?_
      refine g_iload_n (pc := 32) E dX6_sits_32 (i := 2) rfl rfl ?_
      refine g_iconst (pc := 33) E dX6_sits_33 rfl ?_
      refine g_callV (pc := 34) (As := [_, _]) E dX6_sits_34 ml_X6_87 (ct_of e5 (e := 13 + 3 * p + 2) (by omega) (by omega) (by omega) (by omega) (by omega)) rfl rfl rfl rfl (by decide) (by decide) rfl (Nat.le_of_ble_eq_true rfl) (by decide) (fun x34 M34 hM34 => ?_)
      obtain ⟨rfl, rfl⟩ := hM34
      refine g_icmp_le (pc := 37) (tgt := 52) E dX6_sits_37 (by decide) (fun qh37 => ?_) (fun qh37 => ?_) 
      · refine g_iload_n (pc := 52) E dX6_sits_52 (i := 1) rfl rfl ?_
        refine g_iload_n (pc := 53) E dX6_sits_53 (i := 2) rfl rfl ?_
        refine g_callS (pc := 54) (As := [_, _]) E dX6_sits_54 ml_X6_81 ct_attemptAt rfl rfl (by decide) (by decide) rfl (Nat.le_of_ble_eq_true rfl) (by decide) (fun x54 M54 hM54 => ?_)
        obtain ⟨rfl, rfl⟩ := hM54
        refine g_istore (pc := 57) E dX6_sits_57 (ls' := [_, _, _, _, _]) (Nat.le_of_ble_eq_true rfl) rfl ?_
        refine g_aload_n (pc := 59) E dX6_sits_59 (i := 0) rfl rfl ?_
        refine g_getr (i := 184) (j := 185) (t := 6) (f := 0) (pc := 60) E dX6_sits_60 fl_X6_9 rfl (by decide) (by decide) rfl rfl ?_
        refine g_iload (pc := 63) E dX6_sits_63 rfl ?_
        refine g_iald (pc := 65) E dX6_sits_65 rfl (by omega) (by omega) (congrFun e5 _) (fun _ _ => ?_)
        refine g_if_ne (pc := 66) (tgt := 76) E dX6_sits_66 (by decide) (fun qh66 => ?_) (fun qh66 => ?_) 
        · refine g_aload_n (pc := 76) E dX6_sits_76 (i := 0) rfl rfl ?_
          refine g_getr (i := 184) (j := 185) (t := 6) (f := 0) (pc := 77) E dX6_sits_77 fl_X6_9 rfl (by decide) (by decide) rfl rfl ?_
          refine g_iload (pc := 80) E dX6_sits_80 rfl ?_
          refine g_iconst (pc := 82) E dX6_sits_82 rfl ?_
          refine g_iadd (pc := 83) E dX6_sits_83 ?_
          refine g_iald (pc := 84) E dX6_sits_84 rfl (by omega) (by omega) (congrFun e5 _) (fun _ _ => ?_)
          refine g_if_lt (pc := 85) (tgt := 96) E dX6_sits_85 (by decide) (fun qh85 => ?_) (fun qh85 => ?_) 
          · refine g_aload_n (pc := 96) E dX6_sits_96 (i := 0) rfl rfl ?_
            refine g_iload_n (pc := 97) E dX6_sits_97 (i := 1) rfl rfl ?_
            refine g_iload_n (pc := 98) E dX6_sits_98 (i := 2) rfl rfl ?_
            refine g_callV (pc := 99) (As := [_, _]) E dX6_sits_99 ml_X6_117 (ct_scaledOf e5 hV (by omega) (by omega) (by omega) (by omega)) rfl rfl rfl rfl (by decide) (by decide) rfl (Nat.le_of_ble_eq_true rfl) (by decide) (fun x99 M99 hM99 => ?_)
            obtain ⟨rfl, rfl⟩ := hM99
            refine g_aload_n (pc := 102) E dX6_sits_102 (i := 0) rfl rfl ?_
            refine g_getr (i := 184) (j := 185) (t := 6) (f := 0) (pc := 103) E dX6_sits_103 fl_X6_9 rfl (by decide) (by decide) rfl rfl ?_
            refine g_iconst (pc := 106) E dX6_sits_106 rfl ?_
            refine g_iald (pc := 107) E dX6_sits_107 rfl (by omega) (by omega) (congrFun e5 _) (fun _ _ => ?_)
            refine g_icmp_lt (pc := 108) (tgt := 124) E dX6_sits_108 (by decide) (fun qh108 => ?_) (fun qh108 => ?_) 
            · refine g_aload_n (pc := 124) E dX6_sits_124 (i := 0) rfl rfl ?_
              refine g_getr (i := 184) (j := 185) (t := 6) (f := 0) (pc := 125) E dX6_sits_125 fl_X6_9 rfl (by decide) (by decide) rfl rfl ?_
              refine g_iload (pc := 128) E dX6_sits_128 rfl ?_
              refine g_iconst (pc := 130) E dX6_sits_130 rfl ?_
              refine g_iadd (pc := 131) E dX6_sits_131 ?_
              refine g_iload_n (pc := 132) E dX6_sits_132 (i := 3) rfl rfl ?_
              refine g_iast (pc := 133) E dX6_sits_133 rfl (by omega) (by omega) ?_ 
              refine g_iconst (pc := 134) E dX6_sits_134 rfl ?_
              refine g_iret (pc := 135) E hr dX6_sits_135 ?_
              refine ⟨by rw [reS, if_neg (by omega), if_neg (by omega), if_neg (by omega), if_pos (by omega), if_neg (by omega), if_neg (by omega), if_neg (by omega), if_neg (by omega)], fun i q1 q2 => by rw [st_ne q2], fun _ => ⟨?_, rfl⟩, fun q => absurd rfl q⟩
              rw [enS, if_pos rfl]
              subst e5
              rfl
            · refine g_aload_n (pc := 111) E dX6_sits_111 (i := 0) rfl rfl ?_
              refine g_bipush (pc := 112) E dX6_sits_112 rfl ?_
              refine g_aload_n (pc := 114) E dX6_sits_114 (i := 0) rfl rfl ?_
              refine g_iload_n (pc := 115) E dX6_sits_115 (i := 1) rfl rfl ?_
              refine g_iload_n (pc := 116) E dX6_sits_116 (i := 2) rfl rfl ?_
              refine g_callV (pc := 117) (As := [_, _]) E dX6_sits_117 ml_X6_117 (ct_scaledOf e5 hV (by omega) (by omega) (by omega) (by omega)) rfl rfl rfl rfl (by decide) (by decide) rfl (Nat.le_of_ble_eq_true rfl) (by decide) (fun x117 M117 hM117 => ?_)
              obtain ⟨rfl, rfl⟩ := hM117
              refine g_callV (pc := 120) (As := [_, _]) E dX6_sits_120 ml_X6_171 (ct_refuses (by omega) (by omega)) rfl rfl rfl rfl (by decide) (by decide) rfl (Nat.le_of_ble_eq_true rfl) (by decide) (fun x120 M120 hM120 => ?_)
              obtain ⟨rfl, rfl⟩ := hM120
              refine g_iret (pc := 123) E hr dX6_sits_123 ?_
              exact ent_no e5 (by rw [reS, if_neg (by omega), if_neg (by omega), if_neg (by omega), if_pos (by omega), if_neg (by omega), if_neg (by omega), if_neg (by omega), if_pos (by omega)]) (by decide) (by rw [abS, if_neg (by decide), if_neg (by decide), if_pos rfl])
          · refine g_aload_n (pc := 88) E dX6_sits_88 (i := 0) rfl rfl ?_
            refine g_bipush (pc := 89) E dX6_sits_89 rfl ?_
            refine g_iload_n (pc := 91) E dX6_sits_91 (i := 2) rfl rfl ?_
            refine g_callV (pc := 92) (As := [_, _]) E dX6_sits_92 ml_X6_171 (ct_refuses (by omega) (by omega)) rfl rfl rfl rfl (by decide) (by decide) rfl (Nat.le_of_ble_eq_true rfl) (by decide) (fun x92 M92 hM92 => ?_)
            obtain ⟨rfl, rfl⟩ := hM92
            refine g_iret (pc := 95) E hr dX6_sits_95 ?_
            exact ent_no e5 (by rw [reS, if_neg (by omega), if_neg (by omega), if_neg (by omega), if_pos (by omega), if_neg (by omega), if_neg (by omega), if_pos (by omega)]) (by decide) (by rw [abS, if_neg (by decide), if_neg (by decide), if_neg (by decide)])
        · refine g_aload_n (pc := 69) E dX6_sits_69 (i := 0) rfl rfl ?_
          refine g_iconst (pc := 70) E dX6_sits_70 rfl ?_
          refine g_iload_n (pc := 71) E dX6_sits_71 (i := 2) rfl rfl ?_
          refine g_callV (pc := 72) (As := [_, _]) E dX6_sits_72 ml_X6_171 (ct_refuses (by omega) (by omega)) rfl rfl rfl rfl (by decide) (by decide) rfl (Nat.le_of_ble_eq_true rfl) (by decide) (fun x72 M72 hM72 => ?_)
          obtain ⟨rfl, rfl⟩ := hM72
          refine g_iret (pc := 75) E hr dX6_sits_75 ?_
          exact ent_no e5 (by rw [reS, if_neg (by omega), if_neg (by omega), if_neg (by omega), if_pos (by omega), if_pos (by omega)]) (by decide) (by rw [abS, if_neg (by decide), if_neg (by decide), if_neg (by decide)])
      · refine g_aload_n (pc := 40) E dX6_sits_40 (i := 0) rfl rfl ?_
        refine g_iconst (pc := 41) E dX6_sits_41 rfl ?_
        refine g_aload_n (pc := 42) E dX6_sits_42 (i := 0) rfl rfl ?_
        refine g_iload_n (pc := 43) E dX6_sits_43 (i := 2) rfl rfl ?_
        refine g_iconst (pc := 44) E dX6_sits_44 rfl ?_
        refine g_callV (pc := 45) (As := [_, _]) E dX6_sits_45 ml_X6_87 (ct_of e5 (e := 13 + 3 * p + 2) (by omega) (by omega) (by omega) (by omega) (by omega)) rfl rfl rfl rfl (by decide) (by decide) rfl (Nat.le_of_ble_eq_true rfl) (by decide) (fun x45 M45 hM45 => ?_)
        obtain ⟨rfl, rfl⟩ := hM45
        refine g_callV (pc := 48) (As := [_, _]) E dX6_sits_48 ml_X6_171 (ct_refuses (by omega) (by omega)) rfl rfl rfl rfl (by decide) (by decide) rfl (Nat.le_of_ble_eq_true rfl) (by decide) (fun x48 M48 hM48 => ?_)
        obtain ⟨rfl, rfl⟩ := hM48
        refine g_iret (pc := 51) E hr dX6_sits_51 ?_
        exact ent_no e5 (by rw [reS, if_neg (by omega), if_neg (by omega), if_pos (by omega)]) (by decide) (by rw [abS, if_neg (by decide), if_pos rfl])
    · replace qh20 := bi_0.mp qh20
      refine g_aload_n (pc := 23) E dX6_sits_23 (i := 0) rfl rfl ?_
      refine g_iconst (pc := 24) E dX6_sits_24 rfl ?_
      refine g_iload_n (pc := 25) E dX6_sits_25 (i := 2) rfl rfl ?_
      refine g_callV (pc := 26) (As := [_, _]) E dX6_sits_26 ml_X6_171 (ct_refuses (by omega) (by omega)) rfl rfl rfl rfl (by decide) (by decide) rfl (Nat.le_of_ble_eq_true rfl) (by decide) (fun x26 M26 hM26 => ?_)
      obtain ⟨rfl, rfl⟩ := hM26
      refine g_iret (pc := 29) E hr dX6_sits_29 ?_
      exact ent_no e5 (by rw [reS, if_neg (by omega), if_pos (by omega)]) (by decide) (by rw [abS, if_neg (by decide), if_neg (by decide), if_neg (by decide)])
  · replace qh5 := bi_0.mp qh5
    refine g_aload_n (pc := 8) E dX6_sits_8 (i := 0) rfl rfl ?_
    refine g_iconst (pc := 9) E dX6_sits_9 rfl ?_
    refine g_iload_n (pc := 10) E dX6_sits_10 (i := 1) rfl rfl ?_
    refine g_callV (pc := 11) (As := [_, _]) E dX6_sits_11 ml_X6_171 (ct_refuses (by omega) (by omega)) rfl rfl rfl rfl (by decide) (by decide) rfl (Nat.le_of_ble_eq_true rfl) (by decide) (fun x11 M11 hM11 => ?_)
    obtain ⟨rfl, rfl⟩ := hM11
    refine g_iret (pc := 14) E hr dX6_sits_14 ?_
    exact ent_no e5 (by rw [reS, if_pos (by omega)]) (by decide) (by rw [abS, if_pos rfl])

theorem ct_removes {cx : Cx} {M : Mem} {S : Int → Int} (e5 : M 185 = S) {sn p : Int} (hsn : -2147483648 ≤ sn ∧ sn ≤ 2147483647) (hp : -2147483648 ≤ p ∧ p ≤ 2147483647) (hV : SOK S) (hex : 0 ≤ sn → sn < S 7 → 0 ≤ p → p < S 6 → ¬ S (57 + 3 * (8 * sn + p)) = 0 → ∃ i, 0 ≤ i ∧ i < S 8 ∧ S (585 + i) = 8 * sn + p) : Ct cx yX6_removes cX6_removes 5 (some .int) 3 0 0 [rf cx 184, .int (oi sn), .int (oi p)] M (fun rz M' => ENT S 120 sn p 0 M M' rz) := by
  refine ct_intro cd_X6_removes (by decide +kernel) (Nat.le_of_ble_eq_true rfl) rfl (fun Pg Lc Ev s m args below meth c E hr => ?_)
  refine g_ent (ls' := [some (rf cx 184), some (.int (oi sn)), some (.int (oi p)), none, none]) rfl ?_
  have hV0 := hV.1
  refine g_aload_n (pc := 0) E dX6_removes_0 (i := 0) rfl rfl ?_
  refine g_iload_n (pc := 1) E dX6_removes_1 (i := 1) rfl rfl ?_
  refine g_callV (pc := 2) (As := [_]) E dX6_removes_2 ml_X6_168 (ct_isStudent e5 hV (by omega)) rfl rfl rfl rfl (by decide) (by decide) rfl (Nat.le_of_ble_eq_true rfl) (by decide) (fun x2 M2 hM2 => ?_)
  obtain ⟨rfl, rfl⟩ := hM2
  refine g_if_ne (pc := 5) (tgt := 15) E dX6_removes_5 (by decide) (fun qh5 => ?_) (fun qh5 => ?_) (Int.le_trans (by decide) (bi_R _).1) (Int.le_trans (bi_R _).2 (by decide))
  · replace qh5 := bi_n.mp qh5
    refine g_aload_n (pc := 15) E dX6_removes_15 (i := 0) rfl rfl ?_
    refine g_iload_n (pc := 16) E dX6_removes_16 (i := 2) rfl rfl ?_
    refine g_callV (pc := 17) (As := [_]) E dX6_removes_17 ml_X6_84 (ct_isPaper e5 hV (by omega)) rfl rfl rfl rfl (by decide) (by decide) rfl (Nat.le_of_ble_eq_true rfl) (by decide) (fun x17 M17 hM17 => ?_)
    obtain ⟨rfl, rfl⟩ := hM17
    refine g_if_ne (pc := 20) (tgt := 30) E dX6_removes_20 (by decide) (fun qh20 => ?_) (fun qh20 => ?_) (Int.le_trans (by decide) (bi_R _).1) (Int.le_trans (bi_R _).2 (by decide))
    · replace qh20 := bi_n.mp qh20
      have hVp := hV.2.2.1 p (by omega) (by omega)
      have hVa := hV.2.2.2.2.1 sn p (by omega) (by omega) (by omega) (by omega)
      refine g_iload_n (pc := 30) E dX6_removes_30 (i := 1) rfl rfl ?_
      refine g_iload_n (pc := 31) E dX6_removes_31 (i := 2) rfl rfl ?_
      refine g_callS (pc := 32) (As := [_, _]) E dX6_removes_32 ml_X6_81 ct_attemptAt rfl rfl (by decide) (by decide) rfl (Nat.le_of_ble_eq_true rfl) (by decide) (fun x32 M32 hM32 => ?_)
      obtain ⟨rfl, rfl⟩ := hM32
      refine g_istore_n (pc := 35) E dX6_removes_35 (i := 3) (ls' := [_, _, _, _, _]) rfl (Nat.le_of_ble_eq_true rfl) rfl ?_
      refine g_aload_n (pc := 36) E dX6_removes_36 (i := 0) rfl rfl ?_
      refine g_getr (i := 184) (j := 185) (t := 6) (f := 0) (pc := 37) E dX6_removes_37 fl_X6_9 rfl (by decide) (by decide) rfl rfl ?_
      refine g_iload_n (pc := 40) E dX6_removes_40 (i := 3) rfl rfl ?_
      refine g_iald (pc := 41) E dX6_removes_41 rfl (by omega) (by omega) (congrFun e5 _) (fun _ _ => ?_)
      refine g_if_ne (pc := 42) (tgt := 52) E dX6_removes_42 (by decide) (fun qh42 => ?_) (fun qh42 => ?_) 
      · obtain ⟨i0, hi0, hi1, hi2⟩ := hex (by omega) (by omega) (by omega) (by omega) (by omega)
        have hwF : isF (oiF S (8 * sn + p)) (S 8) (remI S (8 * sn + p)) := fi_is _ (by omega)
        have hwF2 : 0 ≤ (remI S (8 * sn + p)) ∧ (remI S (8 * sn + p)) < S 8 ∧ S (585 + (remI S (8 * sn + p))) = 8 * sn + p ∧ ∀ j, 0 ≤ j → j < (remI S (8 * sn + p)) → ¬ S (585 + j) = 8 * sn + p := by
          rcases hwF with ⟨-, h2⟩ | ⟨h1, h2, h3, h4⟩
          · exact absurd (if_pos hi2) (h2 i0 hi0 hi1)
          · refine ⟨h1, h2, ?_, fun j q0 q1 q2 => h4 j q0 q1 (if_pos q2)⟩
            unfold oiF at h3
            split at h3
            · assumption
            · omega
        obtain ⟨hw0, hw1, hw2, hw3⟩ := hwF2
        refine g_aload_n (pc := 52) E dX6_removes_52 (i := 0) rfl rfl ?_
        refine g_getr (i := 184) (j := 185) (t := 6) (f := 0) (pc := 53) E dX6_removes_53 fl_X6_9 rfl (by decide) (by decide) rfl rfl ?_
        refine g_iload_n (pc := 56) E dX6_removes_56 (i := 3) rfl rfl ?_
        refine g_iconst (pc := 57) E dX6_removes_57 rfl ?_
        refine g_iast (pc := 58) E dX6_removes_58 rfl (by omega) (by omega) ?_ 
        refine g_aload_n (pc := 59) E dX6_removes_59 (i := 0) rfl rfl ?_
        refine g_getr (i := 184) (j := 185) (t := 6) (f := 0) (pc := 60) E dX6_removes_60 fl_X6_9 rfl (by decide) (by decide) rfl rfl ?_
        refine g_iload_n (pc := 63) E dX6_removes_63 (i := 3) rfl rfl ?_
        refine g_iconst (pc := 64) E dX6_removes_64 rfl ?_
        refine g_iadd (pc := 65) E dX6_removes_65 ?_
        refine g_iconst (pc := 66) E dX6_removes_66 rfl ?_
        refine g_iast (pc := 67) E dX6_removes_67 rfl (by omega) (by omega) ?_ 
        refine g_aload_n (pc := 68) E dX6_removes_68 (i := 0) rfl rfl ?_
        refine g_getr (i := 184) (j := 185) (t := 6) (f := 0) (pc := 69) E dX6_removes_69 fl_X6_9 rfl (by decide) (by decide) rfl rfl ?_
        refine g_iload_n (pc := 72) E dX6_removes_72 (i := 3) rfl rfl ?_
        refine g_iconst (pc := 73) E dX6_removes_73 rfl ?_
        refine g_iadd (pc := 74) E dX6_removes_74 ?_
        refine g_iconst (pc := 75) E dX6_removes_75 rfl ?_
        refine g_iast (pc := 76) E dX6_removes_76 rfl (by omega) (by omega) ?_ 
        refine g_iconst (pc := 77) E dX6_removes_77 rfl ?_
        refine g_istore (pc := 78) E dX6_removes_78 (ls' := [_, _, _, _, _]) (Nat.le_of_ble_eq_true rfl) rfl ?_
        have LP80 : ∀ (n : Nat) (x : Int), (remI S (8 * sn + p)) - x < (n : Int) → 0 ≤ x → x ≤ (remI S (8 * sn + p)) → G cx Pg Lc Ev (rmD 3 0 0) s m args below meth c (MQ below (QI cx (fun rz M' => ENT S 120 sn p 0 M M' rz)) args s 0 0 (cA0 cx)) 80 [some (rf cx 184), some (.int (oi sn)), some (.int (oi p)), none, some (.int (oi x))] [] (st (st (st M 185 (57 + 3 * (8 * sn + p)) 0) 185 (57 + 3 * (8 * sn + p) + 1) 0) 185 (57 + 3 * (8 * sn + p) + 2) (-1)) 0 0 := by
          intro n
          induction n with
          | zero => intro x hn hx0 hx1; exact absurd hn (by omega)
          | succ n ih80 =>
            intro x hn hx0 hx1
            refine g_aload_n (pc := 80) E dX6_removes_80 (i := 0) rfl rfl ?_
            refine g_getr (i := 184) (j := 185) (t := 6) (f := 0) (pc := 81) E dX6_removes_81 fl_X6_9 rfl (by decide) (by decide) rfl rfl ?_
            refine g_sipush (pc := 84) E dX6_removes_84 rfl ?_
            refine g_iload (pc := 87) E dX6_removes_87 rfl ?_
            refine g_iadd (pc := 89) E dX6_removes_89 ?_
            refine g_iald (pc := 90) E dX6_removes_90 rfl (by omega) (by omega) (v := S (585 + x)) (by rw [st_off (by omega), st_off (by omega), st_off (by omega)]; exact congrFun e5 _) (fun _ _ => ?_)
            refine g_bipush (pc := 91) E dX6_removes_91 rfl ?_
            refine g_iload_n (pc := 93) E dX6_removes_93 (i := 1) rfl rfl ?_
            refine g_imul (pc := 94) E dX6_removes_94 ?_
            refine g_iload_n (pc := 95) E dX6_removes_95 (i := 2) rfl rfl ?_
            refine g_iadd (pc := 96) E dX6_removes_96 ?_
            refine g_icmp_eq (pc := 97) (tgt := 106) E dX6_removes_97 (by decide) (fun qh97 => ?_) (fun qh97 => ?_) 
            · obtain rfl : x = (remI S (8 * sn + p)) := by
                rcases Int.lt_or_le x (remI S (8 * sn + p)) with h | h
                · exact absurd qh97 (hw3 x hx0 h)
                · omega
              refine g_aload_n (pc := 106) E dX6_removes_106 (i := 0) rfl rfl ?_
              refine g_getr (i := 184) (j := 185) (t := 6) (f := 0) (pc := 107) E dX6_removes_107 fl_X6_9 rfl (by decide) (by decide) rfl rfl ?_
              refine g_bipush (pc := 110) E dX6_removes_110 rfl ?_
              refine g_dup2 (pc := 112) E dX6_removes_112 rfl rfl ?_
              refine g_iald (pc := 113) E dX6_removes_113 rfl (by omega) (by omega) (v := S 8) (by rw [st_off (by omega), st_off (by omega), st_off (by omega)]; exact congrFun e5 _) (fun _ _ => ?_)
              refine g_iconst (pc := 114) E dX6_removes_114 rfl ?_
              refine g_isub (pc := 115) E dX6_removes_115 ?_
              refine g_iast (pc := 116) E dX6_removes_116 rfl (by omega) (by omega) ?_ 
              have LP117 : ∀ (n : Nat) (x t : Int), S 8 - 1 - x < (n : Int) → 0 ≤ t → x = (remI S (8 * sn + p)) + t → x ≤ S 8 - 1 → G cx Pg Lc Ev (rmD 3 0 0) s m args below meth c (MQ below (QI cx (fun rz M' => ENT S 120 sn p 0 M M' rz)) args s 0 0 (cA0 cx)) 117 [some (rf cx 184), none, none, none, some (.int (oi x))] [] (cpo (st (st (st (st M 185 (57 + 3 * (8 * sn + p)) 0) 185 (57 + 3 * (8 * sn + p) + 1) 0) 185 (57 + 3 * (8 * sn + p) + 2) (-1)) 185 8 (S 8 - 1)) 185 (585 + (remI S (8 * sn + p)) + 1) 185 (585 + (remI S (8 * sn + p))) t) 0 0 := by
                intro n
                induction n with
                | zero => intro x t hn ht0 hx0 hx1; exact absurd hn (by omega)
                | succ n ih117 =>
                  intro x t hn ht0 hx0 hx1
                  refine g_iload (pc := 117) E dX6_removes_117 rfl ?_
                  refine g_aload_n (pc := 119) E dX6_removes_119 (i := 0) rfl rfl ?_
                  refine g_getr (i := 184) (j := 185) (t := 6) (f := 0) (pc := 120) E dX6_removes_120 fl_X6_9 rfl (by decide) (by decide) rfl rfl ?_
                  refine g_bipush (pc := 123) E dX6_removes_123 rfl ?_
                  refine g_iald (pc := 125) E dX6_removes_125 rfl (by omega) (by omega) (v := S 8 - 1) (by rw [cpo_out (by omega)]; exact st_self _ _ _ _) (fun _ _ => ?_)
                  refine g_icmp_ge (pc := 126) (tgt := 159) E dX6_removes_126 (by decide) (fun qh126 => ?_) (fun qh126 => ?_) 
                  · refine g_iconst (pc := 159) E dX6_removes_159 rfl ?_
                    refine g_iret (pc := 160) E hr dX6_removes_160 ?_
                    refine ⟨by rw [reS, if_neg (by omega), if_neg (by omega), if_neg (by omega), if_pos (by omega), if_neg (by omega), if_pos rfl], fun i q1 q2 => by rw [cpo_ne q2, st_ne q2, st_ne q2, st_ne q2, st_ne q2], fun _ => ⟨?_, rfl⟩, fun q => absurd rfl q⟩
                    rw [enS, if_neg (by decide), if_pos rfl]
                    exact rem_row e5 (by omega) (by omega) rfl (by omega) hw0 hw1 (by omega)
                  · refine g_aload_n (pc := 129) E dX6_removes_129 (i := 0) rfl rfl ?_
                    refine g_getr (i := 184) (j := 185) (t := 6) (f := 0) (pc := 130) E dX6_removes_130 fl_X6_9 rfl (by decide) (by decide) rfl rfl ?_
                    refine g_sipush (pc := 133) E dX6_removes_133 rfl ?_
                    refine g_iload (pc := 136) E dX6_removes_136 rfl ?_
                    refine g_iadd (pc := 138) E dX6_removes_138 ?_
                    refine g_aload_n (pc := 139) E dX6_removes_139 (i := 0) rfl rfl ?_
                    refine g_getr (i := 184) (j := 185) (t := 6) (f := 0) (pc := 140) E dX6_removes_140 fl_X6_9 rfl (by decide) (by decide) rfl rfl ?_
                    refine g_sipush (pc := 143) E dX6_removes_143 rfl ?_
                    refine g_iload (pc := 146) E dX6_removes_146 rfl ?_
                    refine g_iadd (pc := 148) E dX6_removes_148 ?_
                    refine g_iconst (pc := 149) E dX6_removes_149 rfl ?_
                    refine g_iadd (pc := 150) E dX6_removes_150 ?_
                    refine g_iald (pc := 151) E dX6_removes_151 rfl (by omega) (by omega) (v := (st (st (st (st M 185 (57 + 3 * (8 * sn + p)) 0) 185 (57 + 3 * (8 * sn + p) + 1) 0) 185 (57 + 3 * (8 * sn + p) + 2) (-1)) 185 8 (S 8 - 1)) 185 (585 + (remI S (8 * sn + p)) + 1 + t)) (by rw [cpo_out (by omega), show 585 + x + 1 = 585 + (remI S (8 * sn + p)) + 1 + t by omega]) (fun _ _ => ?_)
                    refine g_iast (pc := 152) E dX6_removes_152 rfl (by omega) (by omega) ?_ 
                    refine g_mem (cpo_s ht0 rfl (by omega)) ?_
                    refine g_iinc (pc := 153) E dX6_removes_153 (ls' := [_, _, _, _, _]) rfl rfl rfl ?_
                    refine g_goto (pc := 156) (tgt := 117) E dX6_removes_156 (by decide) ?_
                    exact g_wk2 (ih117 (x + 1) (t + 1) (by omega) (by omega) (by omega) (by omega)) ⟨rfl, rfl, trivial⟩
              refine g_mem (cpo_0 _ 185 (585 + (remI S (8 * sn + p)) + 1) 185 (585 + (remI S (8 * sn + p)))) ?_
              exact g_wk2 (LP117 (S 8).toNat _ 0 (by omega) (by omega) (by omega) (by omega)) ⟨rfl, rfl, trivial⟩
            · have hne : ¬ x = (remI S (8 * sn + p)) := fun h => qh97 (by rw [h]; exact hw2)
              refine g_iinc (pc := 100) E dX6_removes_100 (ls' := [_, _, _, _, _]) rfl rfl rfl ?_
              refine g_goto (pc := 103) (tgt := 80) E dX6_removes_103 (by decide) ?_
              exact g_wk2 (ih80 (x + 1) (by omega) (by omega) (by omega)) ⟨rfl, rfl, rfl, rfl, trivial⟩
        exact g_wk2 (LP80 ((remI S (8 * sn + p)) + 1).toNat 0 (by omega) (by omega) (by omega)) ⟨rfl, rfl, rfl, rfl, trivial⟩
      · refine g_aload_n (pc := 45) E dX6_removes_45 (i := 0) rfl rfl ?_
        refine g_iconst (pc := 46) E dX6_removes_46 rfl ?_
        refine g_iload_n (pc := 47) E dX6_removes_47 (i := 2) rfl rfl ?_
        refine g_callV (pc := 48) (As := [_, _]) E dX6_removes_48 ml_X6_171 (ct_refuses (by omega) (by omega)) rfl rfl rfl rfl (by decide) (by decide) rfl (Nat.le_of_ble_eq_true rfl) (by decide) (fun x48 M48 hM48 => ?_)
        obtain ⟨rfl, rfl⟩ := hM48
        refine g_iret (pc := 51) E hr dX6_removes_51 ?_
        exact ent_no e5 (by rw [reS, if_neg (by omega), if_neg (by omega), if_neg (by omega), if_pos (by omega), if_pos (by omega)]) (by decide) (by rw [abS, if_neg (by decide), if_neg (by decide), if_neg (by decide)])
    · replace qh20 := bi_0.mp qh20
      refine g_aload_n (pc := 23) E dX6_removes_23 (i := 0) rfl rfl ?_
      refine g_iconst (pc := 24) E dX6_removes_24 rfl ?_
      refine g_iload_n (pc := 25) E dX6_removes_25 (i := 2) rfl rfl ?_
      refine g_callV (pc := 26) (As := [_, _]) E dX6_removes_26 ml_X6_171 (ct_refuses (by omega) (by omega)) rfl rfl rfl rfl (by decide) (by decide) rfl (Nat.le_of_ble_eq_true rfl) (by decide) (fun x26 M26 hM26 => ?_)
      obtain ⟨rfl, rfl⟩ := hM26
      refine g_iret (pc := 29) E hr dX6_removes_29 ?_
      exact ent_no e5 (by rw [reS, if_neg (by omega), if_pos (by omega)]) (by decide) (by rw [abS, if_neg (by decide), if_neg (by decide), if_neg (by decide)])
  · replace qh5 := bi_0.mp qh5
    refine g_aload_n (pc := 8) E dX6_removes_8 (i := 0) rfl rfl ?_
    refine g_iconst (pc := 9) E dX6_removes_9 rfl ?_
    refine g_iload_n (pc := 10) E dX6_removes_10 (i := 1) rfl rfl ?_
    refine g_callV (pc := 11) (As := [_, _]) E dX6_removes_11 ml_X6_171 (ct_refuses (by omega) (by omega)) rfl rfl rfl rfl (by decide) (by decide) rfl (Nat.le_of_ble_eq_true rfl) (by decide) (fun x11 M11 hM11 => ?_)
    obtain ⟨rfl, rfl⟩ := hM11
    refine g_iret (pc := 14) E hr dX6_removes_14 ?_
    exact ent_no e5 (by rw [reS, if_pos (by omega)]) (by decide) (by rw [abS, if_pos rfl])

theorem ct_isDone {cx : Cx} {M : Mem} {w : Int} (hw : -2147483648 ≤ w ∧ w ≤ 2147483647) (hu0 : 0 ≤ M 184 2) (hu1 : M 184 2 ≤ 8) : Ct cx yX6_isDone cX6_isDone 2 (some .boolean) 2 0 0 [rf cx 184, .int (oi w)] M (fun rz M' => bi (w = 0) = rz ∧ (if w = 0 then kepM M else st M 184 12 (-5)) = M') := by
  refine ct_intro cd_X6_isDone (by decide +kernel) (Nat.le_of_ble_eq_true rfl) rfl (fun Pg Lc Ev s m args below meth c E hr => ?_)
  refine g_ent (ls' := [some (rf cx 184), some (.int (oi w))]) rfl ?_
  refine g_iload_n (pc := 0) E dX6_isDone_0 (i := 1) rfl rfl ?_
  refine g_if_ne (pc := 1) (tgt := 10) E dX6_isDone_1 (by decide) (fun qh1 => ?_) (fun qh1 => ?_) 
  · refine g_aload_n (pc := 10) E dX6_isDone_10 (i := 0) rfl rfl ?_
    refine g_bipush (pc := 11) E dX6_isDone_11 rfl ?_
    refine g_puti (i := 184) (t := 6) (f := 12) (fz := 12) (pc := 13) E dX6_isDone_13 fl_X6_174 rfl (by decide) (by decide) rfl rfl ?_ 
    refine g_iconst (pc := 16) E dX6_isDone_16 rfl ?_
    refine g_zret (pc := 17) E hr dX6_isDone_17 (by first | exact Or.inl rfl | exact Or.inr rfl | exact bi_in _ | omega) ?_
    exact ⟨bi_f (by omega), if_neg (by omega)⟩
  · refine g_aload_n (pc := 4) E dX6_isDone_4 (i := 0) rfl rfl ?_
    refine g_callVv (pc := 5) (As := []) E dX6_isDone_5 ml_X6_57 (cv_keeps (by omega) (by omega)) rfl rfl rfl rfl (by decide) (by decide) rfl (Nat.le_of_ble_eq_true rfl) (by decide) (fun M5 hM5 => ?_)
    obtain rfl := hM5
    refine g_iconst (pc := 8) E dX6_isDone_8 rfl ?_
    refine g_zret (pc := 9) E hr dX6_isDone_9 (by first | exact Or.inl rfl | exact Or.inr rfl | exact bi_in _ | omega) ?_
    exact ⟨bi_t (by omega), if_pos (by omega)⟩
