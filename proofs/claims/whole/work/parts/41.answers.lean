/-! what the class's standing answers -/
def vcF (S mk : Int → Int) (v p : Int) : Int := if stA S mk p = v then 1 else 0
theorem vc2 (S mk : Int → Int) : ∀ k : Nat, sz (vcF S mk 2) k = cmpS S mk k
  | 0 => rfl
  | k + 1 => by
    have e : ((k + 1 : Nat) : Int) = (k : Int) + 1 := rfl
    rw [e, sz_s (by omega), cmpS_s (by omega), vc2 S mk k]
    rfl
theorem pv_mo {S : Int → Int} (s m : Int) : ∀ k : Nat, sz (moF S s m 2) k = sz (pcF S m) k - sz (pvF S (lkM S s (-1) 0) m 0) k
  | 0 => rfl
  | k + 1 => by
    have e : ((k + 1 : Nat) : Int) = (k : Int) + 1 := rfl
    rw [e, sz_s (by omega), sz_s (by omega), sz_s (by omega), pv_mo s m k]
    have h : moF S s m 2 k = pcF S m k - pvF S (lkM S s (-1) 0) m 0 k := by
      unfold moF pcF pvF
      have hs : stA S (lkM S s (-1) 0) k = 0 ↔ lkM S s (-1) 0 k < 0 := by
        unfold stA stS
        (repeat' split) <;> omega
      by_cases q : S (13 + 3 * (k : Int)) = m
      · by_cases q2 : 0 ≤ lkM S s (-1) 0 (k : Int)
        · rw [if_pos ⟨q, Or.inr (Or.inl ⟨rfl, q2⟩)⟩, if_pos q, if_neg (fun z => by have := hs.mp z.2; omega)]; rfl
        · rw [if_neg (fun z => by rcases z.2 with w | w | w <;> omega), if_pos q, if_pos ⟨q, hs.mpr (by omega)⟩]; rfl
      · rw [if_neg (fun z => q z.1), if_neg q, if_neg (fun z => q z.1)]; rfl
    rw [h]
    omega
theorem moF_pv (S : Int → Int) (s m : Int) : moF S s m 3 = pvF S (lkM S s (-1) 0) m 2 := by
  funext p
  unfold moF pvF
  by_cases q : S (13 + 3 * p) = m ∧ stA S (lkM S s (-1) 0) p = 2
  · rw [if_pos q, if_pos ⟨q.1, Or.inr (Or.inr ⟨rfl, q.2⟩)⟩]
  · rw [if_neg q, if_neg (fun z => q ⟨z.1, by rcases z.2 with w | w | w <;> omega⟩)]
theorem moF_pc (S : Int → Int) (s m : Int) : moF S s m 4 = pcF S m := by
  funext p
  unfold moF pcF
  by_cases q : S (13 + 3 * p) = m
  · rw [if_pos q, if_pos ⟨q, Or.inl rfl⟩]
  · rw [if_neg q, if_neg (fun z => q z.1)]

theorem ct_papersMarked {cx : Cx} {M : Mem} {S : Int → Int} (hB : BD M S) (hV : SOK S) {mk : Int → Int} (hst : ∀ p, 0 ≤ p → p < S 6 → M 169 p = stA S mk p) {mn : Int} (hmn : -2147483648 ≤ mn ∧ mn ≤ 2147483647) : Ct cx yX4_papersMarked cX4_papersMarked 3 (some .int) 2 0 0 [rf cx 167, rf cx 0, .int (oi mn)] M (fun rz M' => pcnt S mn - sz (pvF S mk mn 0) (S 6) = rz ∧ M = M') := by
  refine ct_intro cd_X4_papersMarked (by decide +kernel) (Nat.le_of_ble_eq_true rfl) rfl (fun Pg Lc Ev s m args below meth c E hr => ?_)
  refine g_ent (ls' := [some (rf cx 167), some (rf cx 0), some (.int (oi mn))]) rfl ?_
  refine g_aload_n (pc := 0) E dX4_papersMarked_0 (i := 1) rfl rfl ?_
  refine g_iload_n (pc := 1) E dX4_papersMarked_1 (i := 2) rfl rfl ?_
  refine g_callV (pc := 2) (As := [_]) E dX4_papersMarked_2 ml_X4_123 (ct_papersOf hB hV (by omega)) rfl rfl rfl rfl (by decide) (by decide) rfl (Nat.le_of_ble_eq_true rfl) (by decide) (fun x2 M2 hM2 => ?_)
  obtain ⟨rfl, rfl⟩ := hM2
  refine g_aload_n (pc := 5) E dX4_papersMarked_5 (i := 0) rfl rfl ?_
  refine g_aload_n (pc := 6) E dX4_papersMarked_6 (i := 1) rfl rfl ?_
  refine g_iload_n (pc := 7) E dX4_papersMarked_7 (i := 2) rfl rfl ?_
  refine g_iconst (pc := 8) E dX4_papersMarked_8 rfl ?_
  refine g_callV (pc := 9) (As := [_, _, _]) E dX4_papersMarked_9 ml_X4_119 (ct_papersWith hB hV hst (by omega) (by omega)) rfl rfl rfl rfl (by decide) (by decide) rfl (Nat.le_of_ble_eq_true rfl) (by decide) (fun x9 M9 hM9 => ?_)
  obtain ⟨rfl, rfl⟩ := hM9
  refine g_isub (pc := 12) E dX4_papersMarked_12 ?_
  refine g_iret (pc := 13) E hr dX4_papersMarked_13 ?_
  exact ⟨rfl, rfl⟩

theorem ct_verdictCount {cx : Cx} {M : Mem} {S : Int → Int} (hB : BD M S) (hV : SOK S) {mk : Int → Int} (hst : ∀ p, 0 ≤ p → p < S 6 → M 169 p = stA S mk p) {v : Int} (hv : -2147483648 ≤ v ∧ v ≤ 2147483647) : Ct cx yX4_verdictCount cX4_verdictCount 5 (some .int) 1 0 0 [rf cx 167, rf cx 0, .int (oi v)] M (fun rz M' => sz (vcF S mk v) (S 6) = rz ∧ M = M') := by
  refine ct_intro cd_X4_verdictCount (by decide +kernel) (Nat.le_of_ble_eq_true rfl) rfl (fun Pg Lc Ev s m args below meth c E hr => ?_)
  refine g_ent (ls' := [some (rf cx 167), some (rf cx 0), some (.int (oi v)), none, none]) rfl ?_
  have hV0 := hV.1
  have hB0 := hB.c0
  have hB1 := hB.c1
  have hB2 := hB.c2
  have hB3 := hB.c3
  refine g_iconst (pc := 0) E dX4_verdictCount_0 rfl ?_
  refine g_istore_n (pc := 1) E dX4_verdictCount_1 (i := 3) (ls' := [_, _, _, _, _]) rfl (Nat.le_of_ble_eq_true rfl) rfl ?_
  refine g_iconst (pc := 2) E dX4_verdictCount_2 rfl ?_
  refine g_istore (pc := 3) E dX4_verdictCount_3 (ls' := [_, _, _, _, _]) (Nat.le_of_ble_eq_true rfl) rfl ?_
  have LP5 : ∀ (n : Nat) (x a : Int), S 6 - x < (n : Int) → 0 ≤ x → x ≤ S 6 → a = sz (vcF S mk v) x → G cx Pg Lc Ev (rmD 1 0 0) s m args below meth c (MQ below (QI cx (fun rz M' => sz (vcF S mk v) (S 6) = rz ∧ M = M')) args s 0 0 (cA0 cx)) 5 [some (rf cx 167), some (rf cx 0), some (.int (oi v)), some (.int (oi a)), some (.int (oi x))] [] (M) 0 0 := by
    intro n
    induction n with
    | zero => intro x a hn hx0 hx1 ha; exact absurd hn (by omega)
    | succ n ih5 =>
      intro x a hn hx0 hx1 ha
      refine g_iload (pc := 5) E dX4_verdictCount_5 rfl ?_
      refine g_aload_n (pc := 7) E dX4_verdictCount_7 (i := 1) rfl rfl ?_
      refine g_geti (i := 0) (t := 0) (f := 1) (fz := 1) (pc := 8) E dX4_verdictCount_8 fl_X4_51 rfl (by decide) (by decide) rfl rfl hB.c1 (fun _ _ => ?_)
      refine g_icmp_ge (pc := 11) (tgt := 34) E dX4_verdictCount_11 (by decide) (fun qh11 => ?_) (fun qh11 => ?_) 
      · refine g_iload_n (pc := 34) E dX4_verdictCount_34 (i := 3) rfl rfl ?_
        refine g_iret (pc := 35) E hr dX4_verdictCount_35 ?_
        exact ⟨by rw [ha, show x = S 6 by omega], rfl⟩
      · have hsR := stA_R S mk x
        refine g_aload_n (pc := 14) E dX4_verdictCount_14 (i := 0) rfl rfl ?_
        refine g_getr (i := 167) (j := 169) (t := 4) (f := 1) (pc := 15) E dX4_verdictCount_15 fl_X4_15 rfl (by decide) (by decide) rfl rfl ?_
        refine g_iload (pc := 18) E dX4_verdictCount_18 rfl ?_
        refine g_iald (pc := 20) E dX4_verdictCount_20 rfl (by omega) (by omega) (hst _ (by omega) (by omega)) (fun _ _ => ?_)
        refine g_iload_n (pc := 21) E dX4_verdictCount_21 (i := 2) rfl rfl ?_
        refine g_icmp_ne (pc := 22) (tgt := 28) E dX4_verdictCount_22 (by decide) (fun qh22 => ?_) (fun qh22 => ?_) 
        · refine g_iinc (pc := 28) E dX4_verdictCount_28 (ls' := [_, _, _, _, _]) rfl rfl rfl ?_
          refine g_goto (pc := 31) (tgt := 5) E dX4_verdictCount_31 (by decide) ?_
          exact g_wk2 (ih5 (x + 1) a (by omega) (by omega) (by omega) (by rw [sz_s hx0, ha, show vcF S mk v x = 0 from if_neg (by omega)]; omega)) ⟨rfl, rfl, rfl, rfl, rfl, trivial⟩
        · refine g_iinc (pc := 25) E dX4_verdictCount_25 (ls' := [_, _, _, _, _]) rfl rfl rfl ?_
          refine g_iinc (pc := 28) E dX4_verdictCount_28 (ls' := [_, _, _, _, _]) rfl rfl rfl ?_
          refine g_goto (pc := 31) (tgt := 5) E dX4_verdictCount_31 (by decide) ?_
          exact g_wk2 (ih5 (x + 1) (a + 1) (by omega) (by omega) (by omega) (by rw [sz_s hx0, ha, show vcF S mk v x = 1 from if_pos (by omega)])) ⟨rfl, rfl, rfl, rfl, rfl, trivial⟩
  exact g_wk2 (LP5 (S 6 + 1).toNat 0 0 (by omega) (by omega) (by omega) rfl) ⟨rfl, rfl, rfl, rfl, rfl, trivial⟩

theorem ct_reason {cx : Cx} {M : Mem} {S : Int → Int} (hB : BD M S) (hV : SOK S) {mk : Int → Int} (h7 : M 167 7 = bi (¬ incS S mk)) (h8 : M 167 8 = bi (sz (apF S mk) (S 5) = 0)) (h11 : M 167 11 = bi (whS S mk = 3)) : Ct cx yX4_reason cX4_reason 1 (some .int) 1 0 0 [rf cx 167] M (fun rz M' => whS S mk = rz ∧ M = M') := by
  refine ct_intro cd_X4_reason (by decide +kernel) (Nat.le_of_ble_eq_true rfl) rfl (fun Pg Lc Ev s m args below meth c E hr => ?_)
  refine g_ent (ls' := [some (rf cx 167)]) rfl ?_
  have hbR := bi_R (¬ incS S mk)
  have hbR2 := bi_R (sz (apF S mk) (S 5) = 0)
  have hbR3 := bi_R (whS S mk = 3)
  have hwR := whS_R S mk
  refine g_aload_n (pc := 0) E dX4_reason_0 (i := 0) rfl rfl ?_
  refine g_geti (i := 167) (t := 4) (f := 7) (fz := 7) (pc := 1) E dX4_reason_1 fl_X4_35 rfl (by decide) (by decide) rfl rfl h7 (fun _ _ => ?_)
  refine g_if_ne (pc := 4) (tgt := 9) E dX4_reason_4 (by decide) (fun qh4 => ?_) (fun qh4 => ?_) 
  · have hi0 : ¬ incS S mk := bi_n.mp qh4
    have hal := ap_lost hV hi0
    refine g_aload_n (pc := 9) E dX4_reason_9 (i := 0) rfl rfl ?_
    refine g_geti (i := 167) (t := 4) (f := 8) (fz := 8) (pc := 10) E dX4_reason_10 fl_X4_39 rfl (by decide) (by decide) rfl rfl h8 (fun _ _ => ?_)
    refine g_if_ne (pc := 13) (tgt := 18) E dX4_reason_13 (by decide) (fun qh13 => ?_) (fun qh13 => ?_) 
    · have hl0 : ¬ 0 ≤ lostS S mk := by have := hal.mp (bi_n.mp qh13); omega
      refine g_aload_n (pc := 18) E dX4_reason_18 (i := 0) rfl rfl ?_
      refine g_geti (i := 167) (t := 4) (f := 11) (fz := 11) (pc := 19) E dX4_reason_19 fl_X4_48 rfl (by decide) (by decide) rfl rfl h11 (fun _ _ => ?_)
      refine g_if_eq (pc := 22) (tgt := 29) E dX4_reason_22 (by decide) (fun qh22 => ?_) (fun qh22 => ?_) 
      · refine g_iconst (pc := 29) E dX4_reason_29 rfl ?_
        refine g_iret (pc := 30) E hr dX4_reason_30 ?_
        have h3 := bi_0.mp qh22
        exact ⟨(gr_no hi0 hl0 (fun z => h3 (gr_lf hi0 hl0 z).2)).2, rfl⟩
      · refine g_iconst (pc := 25) E dX4_reason_25 rfl ?_
        refine g_goto (pc := 26) (tgt := 30) E dX4_reason_26 (by decide) ?_
        refine g_iret (pc := 30) E hr dX4_reason_30 ?_
        exact ⟨bi_n.mp qh22, rfl⟩
    · have hl0 : 0 ≤ lostS S mk := by have := mt hal.mpr (bi_0.mp qh13); omega
      refine g_iconst (pc := 16) E dX4_reason_16 rfl ?_
      refine g_iret (pc := 17) E hr dX4_reason_17 ?_
      exact ⟨(gr_lost hi0 hl0).2, rfl⟩
  · have hi0 : incS S mk := Classical.not_not.mp (bi_0.mp qh4)
    refine g_iconst (pc := 7) E dX4_reason_7 rfl ?_
    refine g_iret (pc := 8) E hr dX4_reason_8 ?_
    exact ⟨(gr_inc hi0).2, rfl⟩

theorem ct_firstIncomplete {cx : Cx} {M : Mem} {S : Int → Int} (hB : BD M S) (hV : SOK S) {mk : Int → Int} (hm : mkOK S mk) (hin : ∀ m, 0 ≤ m → m < S 5 → M 170 m = inS S mk m) (hct : ∀ m, 0 ≤ m → m < S 5 → M 171 m = bi (0 < pcnt S m))  : Ct cx yX4_firstIncomplete cX4_firstIncomplete 3 (some .int) 2 0 0 [rf cx 167, rf cx 0] M (fun rz M' => (if misS S mk < 0 then -5 else misS S mk) = rz ∧ M = M') := by
  refine ct_intro cd_X4_firstIncomplete (by decide +kernel) (Nat.le_of_ble_eq_true rfl) rfl (fun Pg Lc Ev s m args below meth c E hr => ?_)
  refine g_ent (ls' := [some (rf cx 167), some (rf cx 0), none]) rfl ?_
  have hV0 := hV.1
  have hB0 := hB.c0
  have hB1 := hB.c1
  have hB2 := hB.c2
  have hB3 := hB.c3
  have em : misS S mk = fi (misF S mk) (S 5) := rfl
  have hfi := fi_is (misF S mk) (n := S 5) (by omega)
  refine g_iconst (pc := 0) E dX4_firstIncomplete_0 rfl ?_
  refine g_istore_n (pc := 1) E dX4_firstIncomplete_1 (i := 2) (ls' := [_, _, _]) rfl (Nat.le_of_ble_eq_true rfl) rfl ?_
  have LP2 : ∀ (n : Nat) (x : Int), S 5 - x < (n : Int) → 0 ≤ x → x ≤ S 5 → (∀ j, 0 ≤ j → j < x → ¬ misF S mk j = 1) → G cx Pg Lc Ev (rmD 2 0 0) s m args below meth c (MQ below (QI cx (fun rz M' => (if misS S mk < 0 then -5 else misS S mk) = rz ∧ M = M')) args s 0 0 (cA0 cx)) 2 [some (rf cx 167), some (rf cx 0), some (.int (oi x))] [] (M) 0 0 := by
    intro n
    induction n with
    | zero => intro x hn hx0 hx1 hno; exact absurd hn (by omega)
    | succ n ih2 =>
      intro x hn hx0 hx1 hno
      refine g_iload_n (pc := 2) E dX4_firstIncomplete_2 (i := 2) rfl rfl ?_
      refine g_aload_n (pc := 3) E dX4_firstIncomplete_3 (i := 1) rfl rfl ?_
      refine g_geti (i := 0) (t := 0) (f := 0) (fz := 0) (pc := 4) E dX4_firstIncomplete_4 fl_X4_64 rfl (by decide) (by decide) rfl rfl hB.c0 (fun _ _ => ?_)
      refine g_icmp_ge (pc := 7) (tgt := 35) E dX4_firstIncomplete_7 (by decide) (fun qh7 => ?_) (fun qh7 => ?_) 
      · refine g_bipush (pc := 35) E dX4_firstIncomplete_35 rfl ?_
        refine g_iret (pc := 37) E hr dX4_firstIncomplete_37 ?_
        have e := isF_u hfi (Or.inl ⟨rfl, fun j a b => hno j a (by omega)⟩)
        exact ⟨by rw [em, e, if_pos (by decide)], rfl⟩
      · refine g_aload_n (pc := 10) E dX4_firstIncomplete_10 (i := 0) rfl rfl ?_
        refine g_getr (i := 167) (j := 171) (t := 4) (f := 3) (pc := 11) E dX4_firstIncomplete_11 fl_X4_21 rfl (by decide) (by decide) rfl rfl ?_
        refine g_iload_n (pc := 14) E dX4_firstIncomplete_14 (i := 2) rfl rfl ?_
        refine g_zald (pc := 15) E dX4_firstIncomplete_15 rfl (by omega) (by omega) (hct _ (by omega) (by omega)) (fun _ _ => ?_)
        refine g_if_eq (pc := 16) (tgt := 29) E dX4_firstIncomplete_16 (by decide) (fun qh16 => ?_) (fun qh16 => ?_) 
        · replace qh16 : ¬ 0 < pcnt S x := bi_0.mp qh16
          refine g_iinc (pc := 29) E dX4_firstIncomplete_29 (ls' := [_, _, _]) rfl rfl rfl ?_
          refine g_goto (pc := 32) (tgt := 2) E dX4_firstIncomplete_32 (by decide) ?_
          exact g_wk2 (ih2 (x + 1) (by omega) (by omega) (by omega) (fun j a b => by
            by_cases q : j = x
            · rw [q]; unfold misF; rw [if_neg (by omega)]; decide
            · exact hno j a (by omega))) ⟨rfl, rfl, rfl, trivial⟩
        · replace qh16 : 0 < pcnt S x := bi_n.mp qh16
          refine g_aload_n (pc := 19) E dX4_firstIncomplete_19 (i := 0) rfl rfl ?_
          refine g_iload_n (pc := 20) E dX4_firstIncomplete_20 (i := 2) rfl rfl ?_
          refine g_callV (pc := 21) (As := [_]) E dX4_firstIncomplete_21 ml_X4_99 (ct_isWhole hB hV hm hin (by omega) (by omega)) rfl rfl rfl rfl (by decide) (by decide) rfl (Nat.le_of_ble_eq_true rfl) (by decide) (fun x21 M21 hM21 => ?_)
          obtain ⟨rfl, rfl⟩ := hM21
          refine g_if_ne (pc := 24) (tgt := 29) E dX4_firstIncomplete_24 (by decide) (fun qh24 => ?_) (fun qh24 => ?_) (Int.le_trans (by decide) (bi_R _).1) (Int.le_trans (bi_R _).2 (by decide))
          · replace qh24 := bi_n.mp qh24
            refine g_iinc (pc := 29) E dX4_firstIncomplete_29 (ls' := [_, _, _]) rfl rfl rfl ?_
            refine g_goto (pc := 32) (tgt := 2) E dX4_firstIncomplete_32 (by decide) ?_
            exact g_wk2 (ih2 (x + 1) (by omega) (by omega) (by omega) (fun j a b => by
              by_cases q : j = x
              · rw [q]; unfold misF; rw [if_neg (by omega)]; decide
              · exact hno j a (by omega))) ⟨rfl, rfl, rfl, trivial⟩
          · replace qh24 := bi_0.mp qh24
            refine g_iload_n (pc := 27) E dX4_firstIncomplete_27 (i := 2) rfl rfl ?_
            refine g_iret (pc := 28) E hr dX4_firstIncomplete_28 ?_
            have e := isF_u hfi (Or.inr ⟨hx0, by omega, if_pos ⟨qh16, by omega⟩, hno⟩)
            exact ⟨by rw [em, e, if_neg (by omega)], rfl⟩
  exact g_wk2 (LP2 (S 5 + 1).toNat 0 (by omega) (by omega) (by omega) (fun j a b => absurd b (by omega))) ⟨rfl, rfl, rfl, trivial⟩

theorem ct_firstFailed {cx : Cx} {M : Mem} {S : Int → Int} (hB : BD M S) (hV : SOK S) {mk : Int → Int} (hst : ∀ p, 0 ≤ p → p < S 6 → M 169 p = stA S mk p)  : Ct cx yX4_firstFailed cX4_firstFailed 3 (some .int) 1 0 0 [rf cx 167, rf cx 0] M (fun rz M' => (if lostS S mk < 0 then -5 else lostS S mk) = rz ∧ M = M') := by
  refine ct_intro cd_X4_firstFailed (by decide +kernel) (Nat.le_of_ble_eq_true rfl) rfl (fun Pg Lc Ev s m args below meth c E hr => ?_)
  refine g_ent (ls' := [some (rf cx 167), some (rf cx 0), none]) rfl ?_
  have hV0 := hV.1
  have hB0 := hB.c0
  have hB1 := hB.c1
  have hB2 := hB.c2
  have hB3 := hB.c3
  have em : lostS S mk = fi (f3 S mk) (S 6) := rfl
  have hfi := fi_is (f3 S mk) (n := S 6) (by omega)
  refine g_iconst (pc := 0) E dX4_firstFailed_0 rfl ?_
  refine g_istore_n (pc := 1) E dX4_firstFailed_1 (i := 2) (ls' := [_, _, _]) rfl (Nat.le_of_ble_eq_true rfl) rfl ?_
  have LP2 : ∀ (n : Nat) (x : Int), S 6 - x < (n : Int) → 0 ≤ x → x ≤ S 6 → (∀ j, 0 ≤ j → j < x → ¬ f3 S mk j = 1) → G cx Pg Lc Ev (rmD 1 0 0) s m args below meth c (MQ below (QI cx (fun rz M' => (if lostS S mk < 0 then -5 else lostS S mk) = rz ∧ M = M')) args s 0 0 (cA0 cx)) 2 [some (rf cx 167), some (rf cx 0), some (.int (oi x))] [] (M) 0 0 := by
    intro n
    induction n with
    | zero => intro x hn hx0 hx1 hno; exact absurd hn (by omega)
    | succ n ih2 =>
      intro x hn hx0 hx1 hno
      refine g_iload_n (pc := 2) E dX4_firstFailed_2 (i := 2) rfl rfl ?_
      refine g_aload_n (pc := 3) E dX4_firstFailed_3 (i := 1) rfl rfl ?_
      refine g_geti (i := 0) (t := 0) (f := 1) (fz := 1) (pc := 4) E dX4_firstFailed_4 fl_X4_51 rfl (by decide) (by decide) rfl rfl hB.c1 (fun _ _ => ?_)
      refine g_icmp_ge (pc := 7) (tgt := 28) E dX4_firstFailed_7 (by decide) (fun qh7 => ?_) (fun qh7 => ?_) 
      · refine g_bipush (pc := 28) E dX4_firstFailed_28 rfl ?_
        refine g_iret (pc := 30) E hr dX4_firstFailed_30 ?_
        have e := isF_u hfi (Or.inl ⟨rfl, fun j a b => hno j a (by omega)⟩)
        exact ⟨by rw [em, e, if_pos (by decide)], rfl⟩
      · have hsR := stA_R S mk x
        refine g_aload_n (pc := 10) E dX4_firstFailed_10 (i := 0) rfl rfl ?_
        refine g_getr (i := 167) (j := 169) (t := 4) (f := 1) (pc := 11) E dX4_firstFailed_11 fl_X4_15 rfl (by decide) (by decide) rfl rfl ?_
        refine g_iload_n (pc := 14) E dX4_firstFailed_14 (i := 2) rfl rfl ?_
        refine g_iald (pc := 15) E dX4_firstFailed_15 rfl (by omega) (by omega) (hst _ (by omega) (by omega)) (fun _ _ => ?_)
        refine g_iconst (pc := 16) E dX4_firstFailed_16 rfl ?_
        refine g_icmp_ne (pc := 17) (tgt := 22) E dX4_firstFailed_17 (by decide) (fun qh17 => ?_) (fun qh17 => ?_) 
        · refine g_iinc (pc := 22) E dX4_firstFailed_22 (ls' := [_, _, _]) rfl rfl rfl ?_
          refine g_goto (pc := 25) (tgt := 2) E dX4_firstFailed_25 (by decide) ?_
          exact g_wk2 (ih2 (x + 1) (by omega) (by omega) (by omega) (fun j a b => by
            by_cases q : j = x
            · rw [q]; unfold f3; rw [if_neg (by omega)]; decide
            · exact hno j a (by omega))) ⟨rfl, rfl, rfl, trivial⟩
        · refine g_iload_n (pc := 20) E dX4_firstFailed_20 (i := 2) rfl rfl ?_
          refine g_iret (pc := 21) E hr dX4_firstFailed_21 ?_
          have e := isF_u hfi (Or.inr ⟨hx0, by omega, if_pos (by omega), hno⟩)
          exact ⟨by rw [em, e, if_neg (by omega)], rfl⟩
  exact g_wk2 (LP2 (S 6 + 1).toNat 0 (by omega) (by omega) (by omega) (fun j a b => absurd b (by omega))) ⟨rfl, rfl, rfl, trivial⟩

theorem ct_gradeBySums {cx : Cx} {M : Mem} {S : Int → Int} (hB : BD M S) (hV : SOK S) {mk : Int → Int} (hm : mkOK S mk) (hin : ∀ m, 0 ≤ m → m < S 5 → M 170 m = inS S mk m) (hct : ∀ m, 0 ≤ m → m < S 5 → M 171 m = bi (0 < pcnt S m)) (h4 : M 167 4 = allS S) (h5 : M 167 5 = pwS S mk) (h7 : M 167 7 = bi (¬ incS S mk)) (h8 : M 167 8 = bi (sz (apF S mk) (S 5) = 0))  : Ct cx yX4_gradeBySums cX4_gradeBySums 5 (some .int) 2 0 0 [rf cx 167, rf cx 0] M (fun rz M' => grS S mk = rz ∧ M = M') := by
  refine ct_intro cd_X4_gradeBySums (by decide +kernel) (Nat.le_of_ble_eq_true rfl) rfl (fun Pg Lc Ev s m args below meth c E hr => ?_)
  refine g_ent (ls' := [some (rf cx 167), some (rf cx 0), none, none, none]) rfl ?_
  have hV0 := hV.1
  have hB0 := hB.c0
  have hB1 := hB.c1
  have hB2 := hB.c2
  have hB3 := hB.c3
  have haR := allS_R hV (show 0 ≤ S 5 by omega) (Int.le_refl _)
  have eall : allS S = sz (aF S) (S 5) := rfl
  have epw : pwS S mk = sz (pwF S mk) (S 5) := rfl
  have hpR := pwS_R hV hm (show 0 ≤ S 5 by omega) (Int.le_refl _)
  have havR := avS_R hV hm
  have hii := inc_iff (mk := mk) hV
  have hbR := bi_R (¬ incS S mk)
  have hbR2 := bi_R (sz (apF S mk) (S 5) = 0)
  have hcl := clA_R (avS S mk)
  have JP48 : ∀ (x : Int), ¬ incS S mk → ¬ 0 ≤ lostS S mk → x = clA (avS S mk) → G cx Pg Lc Ev (rmD 2 0 0) s m args below meth c (MQ below (QI cx (fun rz M' => grS S mk = rz ∧ M = M')) args s 0 0 (cA0 cx)) 48 [some (rf cx 167), some (rf cx 0), some (.int (oi x)), none, none] [] (M) 0 0 := by
    intro x hi0 hl0 hx9
    have hi1 := hii.mp hi0
    have eav : 100 * pwS S mk / allS S = avS S mk := by rw [avS, if_neg hi0, pw_pt hV hi0]
    have hlR1 := limS_R (x - 1)
    have hav2 := av_lt (p := pwS S mk) (a := allS S) (L := limS (x - 1) - S 3) (by omega)
    rw [eav] at hav2
    have hmu2 := mulR (a := limS (x - 1) - S 3) (b := allS S) (A := 75) (B := 36) (by omega) (by omega) (by omega) (by omega)
    refine g_iload_n (pc := 48) E dX4_gradeBySums_48 (i := 2) rfl rfl ?_
    refine g_iconst (pc := 49) E dX4_gradeBySums_49 rfl ?_
    refine g_icmp_ne (pc := 50) (tgt := 55) E dX4_gradeBySums_50 (by decide) (fun qh50 => ?_) (fun qh50 => ?_) 
    · refine g_getsN (pc := 55) E rfl dX4_gradeBySums_55 ?_
      refine g_iload_n (pc := 58) E dX4_gradeBySums_58 (i := 2) rfl rfl ?_
      refine g_iconst (pc := 59) E dX4_gradeBySums_59 rfl ?_
      refine g_isub (pc := 60) E dX4_gradeBySums_60 ?_
      refine g_sald (pc := 61) E dX4_gradeBySums_61 (by decide) (by decide) (by omega) (by show _ < ((5 : Nat) : Int); omega) (v := limS (x - 1)) (by exact sv202 (by omega)) ?_
      refine g_istore_n (pc := 62) E dX4_gradeBySums_62 (i := 3) (ls' := [_, _, _, _, _]) rfl (Nat.le_of_ble_eq_true rfl) rfl ?_
      refine g_aload_n (pc := 63) E dX4_gradeBySums_63 (i := 0) rfl rfl ?_
      refine g_geti (i := 167) (t := 4) (f := 5) (fz := 5) (pc := 64) E dX4_gradeBySums_64 fl_X4_29 rfl (by decide) (by decide) rfl rfl h5 (fun _ _ => ?_)
      refine g_iload_n (pc := 67) E dX4_gradeBySums_67 (i := 3) rfl rfl ?_
      refine g_aload_n (pc := 68) E dX4_gradeBySums_68 (i := 1) rfl rfl ?_
      refine g_getr (i := 0) (j := 1) (t := 0) (f := 4) (pc := 69) E dX4_gradeBySums_69 fl_X4_90 rfl (by decide) (by decide) rfl rfl ?_
      refine g_iconst (pc := 72) E dX4_gradeBySums_72 rfl ?_
      refine g_iald (q := 5) (pc := 73) E dX4_gradeBySums_73 rfl (by omega) (by omega) (hB.f1 _ (by omega) (by omega)) (fun _ _ => ?_)
      refine g_isub (pc := 74) E dX4_gradeBySums_74 ?_
      refine g_aload_n (pc := 75) E dX4_gradeBySums_75 (i := 0) rfl rfl ?_
      refine g_geti (i := 167) (t := 4) (f := 4) (fz := 4) (pc := 76) E dX4_gradeBySums_76 fl_X4_25 rfl (by decide) (by decide) rfl rfl h4 (fun _ _ => ?_)
      refine g_imul (pc := 79) E dX4_gradeBySums_79 ?_
      refine g_icmp_lt (pc := 80) (tgt := 87) E dX4_gradeBySums_80 (by decide) (fun qh80 => ?_) (fun qh80 => ?_) 
      · refine g_iconst (pc := 87) E dX4_gradeBySums_87 rfl ?_
        refine g_istore (pc := 88) E dX4_gradeBySums_88 (ls' := [_, _, _, _, _]) (Nat.le_of_ble_eq_true rfl) rfl ?_
        refine g_iload (pc := 90) E dX4_gradeBySums_90 rfl ?_
        refine g_if_eq (pc := 92) (tgt := 110) E dX4_gradeBySums_92 (by decide) (fun qh92 => ?_) (fun qh92 => absurd qh92 (by omega)) 
        refine g_iload_n (pc := 110) E dX4_gradeBySums_110 (i := 2) rfl rfl ?_
        refine g_iret (pc := 111) E hr dX4_gradeBySums_111 ?_
        exact ⟨by rw [(gr_no hi0 hl0 (fun z => by have z2 := z.2.1; rw [← hx9] at z2; omega)).1, ← hx9], rfl⟩
      · refine g_iconst (pc := 83) E dX4_gradeBySums_83 rfl ?_
        refine g_goto (pc := 84) (tgt := 88) E dX4_gradeBySums_84 (by decide) ?_
        refine g_istore (pc := 88) E dX4_gradeBySums_88 (ls' := [_, _, _, _, _]) (Nat.le_of_ble_eq_true rfl) rfl ?_
        refine g_iload (pc := 90) E dX4_gradeBySums_90 rfl ?_
        refine g_if_eq (pc := 92) (tgt := 110) E dX4_gradeBySums_92 (by decide) (fun qh92 => absurd qh92 (by omega)) (fun qh92 => ?_) 
        refine g_aload_n (pc := 95) E dX4_gradeBySums_95 (i := 0) rfl rfl ?_
        refine g_aload_n (pc := 96) E dX4_gradeBySums_96 (i := 1) rfl rfl ?_
        refine g_iload_n (pc := 97) E dX4_gradeBySums_97 (i := 3) rfl rfl ?_
        refine g_callV (pc := 98) (As := [_, _]) E dX4_gradeBySums_98 ml_X4_116 (ct_hasHalfFrom hB hV hm hin hct h4 (by omega) (by omega)) rfl rfl rfl rfl (by decide) (by decide) rfl (Nat.le_of_ble_eq_true rfl) (by decide) (fun x98 M98 hM98 => ?_)
        obtain ⟨rfl, rfl⟩ := hM98
        refine g_if_eq (pc := 101) (tgt := 110) E dX4_gradeBySums_101 (by decide) (fun qh101 => ?_) (fun qh101 => ?_) (Int.le_trans (by decide) (bi_R _).1) (Int.le_trans (bi_R _).2 (by decide))
        · replace qh101 := bi_0.mp qh101
          refine g_iload_n (pc := 110) E dX4_gradeBySums_110 (i := 2) rfl rfl ?_
          refine g_iret (pc := 111) E hr dX4_gradeBySums_111 ?_
          exact ⟨by rw [(gr_no hi0 hl0 (fun z => qh101 (by rw [hx9]; exact z.2.2))).1, ← hx9], rfl⟩
        · replace qh101 := bi_n.mp qh101
          refine g_iload_n (pc := 104) E dX4_gradeBySums_104 (i := 2) rfl rfl ?_
          refine g_iconst (pc := 105) E dX4_gradeBySums_105 rfl ?_
          refine g_isub (pc := 106) E dX4_gradeBySums_106 ?_
          refine g_goto (pc := 107) (tgt := 111) E dX4_gradeBySums_107 (by decide) ?_
          refine g_iret (pc := 111) E hr dX4_gradeBySums_111 ?_
          exact ⟨by rw [(gr_lf hi0 hl0 ⟨by omega, by rw [← hx9]; omega, by rw [← hx9]; exact qh101⟩).1, ← hx9], rfl⟩
    · refine g_iload_n (pc := 53) E dX4_gradeBySums_53 (i := 2) rfl rfl ?_
      refine g_iret (pc := 54) E hr dX4_gradeBySums_54 ?_
      exact ⟨by rw [(gr_no hi0 hl0 (fun z => by have := z.1; omega)).1]; omega, rfl⟩
  refine g_aload_n (pc := 0) E dX4_gradeBySums_0 (i := 0) rfl rfl ?_
  refine g_geti (i := 167) (t := 4) (f := 7) (fz := 7) (pc := 1) E dX4_gradeBySums_1 fl_X4_35 rfl (by decide) (by decide) rfl rfl h7 (fun _ _ => ?_)
  refine g_if_ne (pc := 4) (tgt := 9) E dX4_gradeBySums_4 (by decide) (fun qh4 => ?_) (fun qh4 => ?_) 
  · have hi0 : ¬ incS S mk := bi_n.mp qh4
    have hi1 := hii.mp hi0
    have eav : 100 * pwS S mk / allS S = avS S mk := by rw [avS, if_neg hi0, pw_pt hV hi0]
    have hav0 := havR.2.2 hi0
    have hal := ap_lost hV hi0
    refine g_aload_n (pc := 9) E dX4_gradeBySums_9 (i := 0) rfl rfl ?_
    refine g_geti (i := 167) (t := 4) (f := 8) (fz := 8) (pc := 10) E dX4_gradeBySums_10 fl_X4_39 rfl (by decide) (by decide) rfl rfl h8 (fun _ _ => ?_)
    refine g_if_ne (pc := 13) (tgt := 18) E dX4_gradeBySums_13 (by decide) (fun qh13 => ?_) (fun qh13 => ?_) 
    · have hl0 : ¬ 0 ≤ lostS S mk := by have := hal.mp (bi_n.mp qh13); omega
      refine g_iconst (pc := 18) E dX4_gradeBySums_18 rfl ?_
      refine g_istore_n (pc := 19) E dX4_gradeBySums_19 (i := 2) (ls' := [_, _, _, _, _]) rfl (Nat.le_of_ble_eq_true rfl) rfl ?_
      have LP20 : ∀ (n : Nat) (x : Int), 4 - x < (n : Int) → 1 ≤ x → x ≤ 4 → (1 < x → avS S mk < 7000) → (2 < x → avS S mk < 6000) → (3 < x → avS S mk < 5000) → G cx Pg Lc Ev (rmD 2 0 0) s m args below meth c (MQ below (QI cx (fun rz M' => grS S mk = rz ∧ M = M')) args s 0 0 (cA0 cx)) 20 [some (rf cx 167), some (rf cx 0), some (.int (oi x)), none, none] [] (M) 0 0 := by
        intro n
        induction n with
        | zero => intro x hn hx0 hx1 h1 h2 h3; exact absurd hn (by omega)
        | succ n ih20 =>
          intro x hn hx0 hx1 h1 h2 h3
          have hlR := limS_R x
          have hlR1 := limS_R (x - 1)
          have hav := av_lt (p := pwS S mk) (a := allS S) (L := limS x) (by omega)
          rw [eav] at hav
          have hmu := mulR (a := limS x) (b := allS S) (A := 70) (B := 36) (by omega) (by omega) (by omega) (by omega)
          refine g_iload_n (pc := 20) E dX4_gradeBySums_20 (i := 2) rfl rfl ?_
          refine g_iconst (pc := 21) E dX4_gradeBySums_21 rfl ?_
          refine g_icmp_ge (pc := 22) (tgt := 48) E dX4_gradeBySums_22 (by decide) (fun qh22 => ?_) (fun qh22 => ?_) 
          · exact g_wk2 (JP48 _ hi0 hl0 (by unfold clA; (repeat' split) <;> omega)) ⟨rfl, rfl, rfl, trivial⟩
          · refine g_aload_n (pc := 25) E dX4_gradeBySums_25 (i := 0) rfl rfl ?_
            refine g_geti (i := 167) (t := 4) (f := 5) (fz := 5) (pc := 26) E dX4_gradeBySums_26 fl_X4_29 rfl (by decide) (by decide) rfl rfl h5 (fun _ _ => ?_)
            refine g_getsN (pc := 29) E rfl dX4_gradeBySums_29 ?_
            refine g_iload_n (pc := 32) E dX4_gradeBySums_32 (i := 2) rfl rfl ?_
            refine g_sald (pc := 33) E dX4_gradeBySums_33 (by decide) (by decide) (by omega) (by show _ < ((5 : Nat) : Int); omega) (v := limS x) (by exact sv202 (by omega)) ?_
            refine g_aload_n (pc := 34) E dX4_gradeBySums_34 (i := 0) rfl rfl ?_
            refine g_geti (i := 167) (t := 4) (f := 4) (fz := 4) (pc := 35) E dX4_gradeBySums_35 fl_X4_25 rfl (by decide) (by decide) rfl rfl h4 (fun _ _ => ?_)
            refine g_imul (pc := 38) E dX4_gradeBySums_38 ?_
            refine g_icmp_ge (pc := 39) (tgt := 48) E dX4_gradeBySums_39 (by decide) (fun qh39 => ?_) (fun qh39 => ?_) 
            · exact g_wk2 (JP48 _ hi0 hl0 (by have hh : 100 * limS x ≤ avS S mk := (by omega); unfold limS at hh; unfold clA; (repeat' split at hh) <;> (repeat' split) <;> omega)) ⟨rfl, rfl, rfl, trivial⟩
            · refine g_iinc (pc := 42) E dX4_gradeBySums_42 (ls' := [_, _, _, _, _]) rfl rfl rfl ?_
              refine g_goto (pc := 45) (tgt := 20) E dX4_gradeBySums_45 (by decide) ?_
              exact g_wk2 (ih20 (x + 1) (by omega) (by omega) (by omega) (fun h => by have hh : avS S mk < 100 * limS x := (by omega); unfold limS at hh; (repeat' split at hh) <;> omega) (fun h => by have hh : avS S mk < 100 * limS x := (by omega); unfold limS at hh; (repeat' split at hh) <;> omega) (fun h => by have hh : avS S mk < 100 * limS x := (by omega); unfold limS at hh; (repeat' split at hh) <;> omega)) ⟨rfl, rfl, rfl, trivial⟩
      exact g_wk2 (LP20 4 1 (by omega) (by omega) (by omega) (fun h => absurd h (by omega)) (fun h => absurd h (by omega)) (fun h => absurd h (by omega))) ⟨rfl, rfl, rfl, trivial⟩
    · have hl0 : 0 ≤ lostS S mk := by have := mt hal.mpr (bi_0.mp qh13); omega
      refine g_iconst (pc := 16) E dX4_gradeBySums_16 rfl ?_
      refine g_iret (pc := 17) E hr dX4_gradeBySums_17 ?_
      exact ⟨(gr_lost hi0 hl0).1, rfl⟩
  · have hi0 : incS S mk := Classical.not_not.mp (bi_0.mp qh4)
    refine g_iconst (pc := 7) E dX4_gradeBySums_7 rfl ?_
    refine g_iret (pc := 8) E hr dX4_gradeBySums_8 ?_
    exact ⟨(gr_inc hi0).1, rfl⟩
