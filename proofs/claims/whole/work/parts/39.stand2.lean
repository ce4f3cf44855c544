/-! the class's standing of a student -/
def S7 (M N : Mem) : Prop := (∀ i, i ≠ 167 → N i = M i) ∧ ∀ f : Int, f < 4 ∨ 8 < f → N 167 f = M 167 f

set_option maxHeartbeats 4000000 in
theorem cv_decidePapers {cx : Cx} {M : Mem} {S : Int → Int} (hB : BD M S) (hV : SOK S) {mk : Int → Int} (hm : mkOK S mk) (hmk : ∀ p, 0 ≤ p → p < S 6 → M 168 p = mk p) (hin : ∀ m, 0 ≤ m → m < S 5 → M 170 m = inS S mk m)  : Cv cx yX4_decidePapers cX4_decidePapers 4 2 0 0 [rf cx 167, rf cx 0] M (fun M' => (∀ i, i ≠ 169 → M' i = M i) ∧ ∀ p, 0 ≤ p → p < S 6 → M' 169 p = stA S mk p) := by
  refine cv_intro cd_X4_decidePapers (by decide +kernel) (Nat.le_of_ble_eq_true rfl) rfl (fun Pg Lc Ev s m args below meth c E hr => ?_)
  refine g_ent (ls' := [some (rf cx 167), some (rf cx 0), none, none]) rfl ?_
  have hV0 := hV.1
  have hB0 := hB.c0
  have hB1 := hB.c1
  have hB2 := hB.c2
  have hB3 := hB.c3
  refine g_aload_n (pc := 0) E dX4_decidePapers_0 (i := 1) rfl rfl ?_
  refine g_getr (i := 0) (j := 1) (t := 0) (f := 4) (pc := 1) E dX4_decidePapers_1 fl_X4_90 rfl (by decide) (by decide) rfl rfl ?_
  refine g_iconst (pc := 4) E dX4_decidePapers_4 rfl ?_
  refine g_iald (q := 5) (pc := 5) E dX4_decidePapers_5 rfl (by omega) (by omega) (hB.f1 _ (by omega) (by omega)) (fun _ _ => ?_)
  refine g_istore_n (pc := 6) E dX4_decidePapers_6 (i := 2) (ls' := [_, _, _, _]) rfl (Nat.le_of_ble_eq_true rfl) rfl ?_
  refine g_iconst (pc := 7) E dX4_decidePapers_7 rfl ?_
  refine g_istore_n (pc := 8) E dX4_decidePapers_8 (i := 3) (ls' := [_, _, _, _]) rfl (Nat.le_of_ble_eq_true rfl) rfl ?_
  have LP9 : ∀ (n : Nat) (N : Mem) (x w : Int), S 6 - x < (n : Int) → 0 ≤ x → x ≤ S 6 → w = S 2 - cmpS S mk x → (∀ i, i ≠ 169 → N i = M i) → (∀ j, 0 ≤ j → j < x → N 169 j = stA S mk j) → G cx Pg Lc Ev (rmD 2 0 0) s m args below meth c (MQ below (QV cx (fun M' => (∀ i, i ≠ 169 → M' i = M i) ∧ ∀ p, 0 ≤ p → p < S 6 → M' 169 p = stA S mk p)) args s 0 0 (cA0 cx)) 9 [some (rf cx 167), some (rf cx 0), some (.int (oi w)), some (.int (oi x))] [] (N) 0 0 := by
    intro n
    induction n with
    | zero => intro N x w hn hx0 hx1 hw hN hrw; exact absurd hn (by omega)
    | succ n ih9 =>
      intro N x w hn hx0 hx1 hw hN hrw
      have hB : BD N S := hB.congr (fun i hi => hN i (by omega))
      have hmk : ∀ p, 0 ≤ p → p < S 6 → N 168 p = mk p := fun p a b => by rw [hN 168 (by decide)]; exact hmk p a b
      have hin : ∀ m, 0 ≤ m → m < S 5 → N 170 m = inS S mk m := fun m a b => by rw [hN 170 (by decide)]; exact hin m a b
      have hcR := cmpS_R S mk hx0
      refine g_iload_n (pc := 9) E dX4_decidePapers_9 (i := 3) rfl rfl ?_
      refine g_aload_n (pc := 10) E dX4_decidePapers_10 (i := 1) rfl rfl ?_
      refine g_geti (i := 0) (t := 0) (f := 1) (fz := 1) (pc := 11) E dX4_decidePapers_11 fl_X4_51 rfl (by decide) (by decide) rfl rfl hB.c1 (fun _ _ => ?_)
      refine g_icmp_ge (pc := 14) (tgt := 101) E dX4_decidePapers_14 (by decide) (fun qh14 => ?_) (fun qh14 => ?_) 
      · refine g_vret (pc := 101) E hr dX4_decidePapers_101 ?_
        exact ⟨hN, fun p a b => hrw p a (by omega)⟩
      · have hmR := hm x hx0 (by omega)
        have hVp := hV.2.2.1 x hx0 (by omega)
        refine g_aload_n (pc := 17) E dX4_decidePapers_17 (i := 0) rfl rfl ?_
        refine g_getr (i := 167) (j := 168) (t := 4) (f := 0) (pc := 18) E dX4_decidePapers_18 fl_X4_9 rfl (by decide) (by decide) rfl rfl ?_
        refine g_iload_n (pc := 21) E dX4_decidePapers_21 (i := 3) rfl rfl ?_
        refine g_iald (pc := 22) E dX4_decidePapers_22 rfl (by omega) (by omega) (hmk _ (by omega) (by omega)) (fun _ _ => ?_)
        refine g_iconst (pc := 23) E dX4_decidePapers_23 rfl ?_
        refine g_icmp_ne (pc := 24) (tgt := 37) E dX4_decidePapers_24 (by decide) (fun qh24 => ?_) (fun qh24 => ?_) 
        · refine g_aload_n (pc := 37) E dX4_decidePapers_37 (i := 0) rfl rfl ?_
          refine g_getr (i := 167) (j := 168) (t := 4) (f := 0) (pc := 38) E dX4_decidePapers_38 fl_X4_9 rfl (by decide) (by decide) rfl rfl ?_
          refine g_iload_n (pc := 41) E dX4_decidePapers_41 (i := 3) rfl rfl ?_
          refine g_iald (pc := 42) E dX4_decidePapers_42 rfl (by omega) (by omega) (hmk _ (by omega) (by omega)) (fun _ _ => ?_)
          refine g_aload_n (pc := 43) E dX4_decidePapers_43 (i := 1) rfl rfl ?_
          refine g_getr (i := 0) (j := 1) (t := 0) (f := 4) (pc := 44) E dX4_decidePapers_44 fl_X4_90 rfl (by decide) (by decide) rfl rfl ?_
          refine g_iconst (pc := 47) E dX4_decidePapers_47 rfl ?_
          refine g_iald (q := 5) (pc := 48) E dX4_decidePapers_48 rfl (by omega) (by omega) (hB.f1 _ (by omega) (by omega)) (fun _ _ => ?_)
          refine g_icmp_lt (pc := 49) (tgt := 62) E dX4_decidePapers_49 (by decide) (fun qh49 => ?_) (fun qh49 => ?_) 
          · refine g_iload_n (pc := 62) E dX4_decidePapers_62 (i := 2) rfl rfl ?_
            refine g_if_le (pc := 63) (tgt := 88) E dX4_decidePapers_63 (by decide) (fun qh63 => ?_) (fun qh63 => ?_) 
            · refine g_aload_n (pc := 88) E dX4_decidePapers_88 (i := 0) rfl rfl ?_
              refine g_getr (i := 167) (j := 169) (t := 4) (f := 1) (pc := 89) E dX4_decidePapers_89 fl_X4_15 rfl (by decide) (by decide) rfl rfl ?_
              refine g_iload_n (pc := 92) E dX4_decidePapers_92 (i := 3) rfl rfl ?_
              refine g_iconst (pc := 93) E dX4_decidePapers_93 rfl ?_
              have hse : stA S mk x = 3 := by rw [stA, stS, if_neg (by omega), if_neg (by omega), if_neg (by omega)]
              refine g_iast (pc := 94) E dX4_decidePapers_94 rfl (by omega) (by omega) ?_ 
              refine g_iinc (pc := 95) E dX4_decidePapers_95 (ls' := [_, _, _, _]) rfl rfl rfl ?_
              refine g_goto (pc := 98) (tgt := 9) E dX4_decidePapers_98 (by decide) ?_
              exact g_wk2 (ih9 (st N 169 x 3) (x + 1) w (by omega) (by omega) (by omega) (by rw [cmpS_s hx0, hse]; simp; omega) (fun i hi => by rw [st_ne hi]; exact hN i hi) (row_ext hrw hse.symm)) ⟨rfl, rfl, rfl, rfl, trivial⟩
            · refine g_aload_n (pc := 66) E dX4_decidePapers_66 (i := 0) rfl rfl ?_
              refine g_aload_n (pc := 67) E dX4_decidePapers_67 (i := 1) rfl rfl ?_
              refine g_iload_n (pc := 68) E dX4_decidePapers_68 (i := 3) rfl rfl ?_
              refine g_callV (pc := 69) (As := [_, _]) E dX4_decidePapers_69 ml_X4_93 (ct_isCompensable hB hV hm hmk hin (by omega) (by omega)) rfl rfl rfl rfl (by decide) (by decide) rfl (Nat.le_of_ble_eq_true rfl) (by decide) (fun x69 M69 hM69 => ?_)
              obtain ⟨rfl, rfl⟩ := hM69
              refine g_if_eq (pc := 72) (tgt := 88) E dX4_decidePapers_72 (by decide) (fun qh72 => ?_) (fun qh72 => ?_) (Int.le_trans (by decide) (bi_R _).1) (Int.le_trans (bi_R _).2 (by decide))
              · replace qh72 := bi_0.mp qh72
                refine g_aload_n (pc := 88) E dX4_decidePapers_88 (i := 0) rfl rfl ?_
                refine g_getr (i := 167) (j := 169) (t := 4) (f := 1) (pc := 89) E dX4_decidePapers_89 fl_X4_15 rfl (by decide) (by decide) rfl rfl ?_
                refine g_iload_n (pc := 92) E dX4_decidePapers_92 (i := 3) rfl rfl ?_
                refine g_iconst (pc := 93) E dX4_decidePapers_93 rfl ?_
                have hse : stA S mk x = 3 := by rw [stA, stS, if_neg (by omega), if_neg (by omega), if_neg (by omega)]
                refine g_iast (pc := 94) E dX4_decidePapers_94 rfl (by omega) (by omega) ?_ 
                refine g_iinc (pc := 95) E dX4_decidePapers_95 (ls' := [_, _, _, _]) rfl rfl rfl ?_
                refine g_goto (pc := 98) (tgt := 9) E dX4_decidePapers_98 (by decide) ?_
                exact g_wk2 (ih9 (st N 169 x 3) (x + 1) w (by omega) (by omega) (by omega) (by rw [cmpS_s hx0, hse]; simp; omega) (fun i hi => by rw [st_ne hi]; exact hN i hi) (row_ext hrw hse.symm)) ⟨rfl, rfl, rfl, rfl, trivial⟩
              · replace qh72 := bi_n.mp qh72
                refine g_aload_n (pc := 75) E dX4_decidePapers_75 (i := 0) rfl rfl ?_
                refine g_getr (i := 167) (j := 169) (t := 4) (f := 1) (pc := 76) E dX4_decidePapers_76 fl_X4_15 rfl (by decide) (by decide) rfl rfl ?_
                refine g_iload_n (pc := 79) E dX4_decidePapers_79 (i := 3) rfl rfl ?_
                refine g_iconst (pc := 80) E dX4_decidePapers_80 rfl ?_
                have hse : stA S mk x = 2 := by rw [stA, stS, if_neg (by omega), if_neg (by omega), if_pos (by omega)]
                refine g_iast (pc := 81) E dX4_decidePapers_81 rfl (by omega) (by omega) ?_ 
                refine g_iinc (pc := 82) E dX4_decidePapers_82 (ls' := [_, _, _, _]) rfl rfl rfl ?_
                refine g_goto (pc := 85) (tgt := 95) E dX4_decidePapers_85 (by decide) ?_
                refine g_iinc (pc := 95) E dX4_decidePapers_95 (ls' := [_, _, _, _]) rfl rfl rfl ?_
                refine g_goto (pc := 98) (tgt := 9) E dX4_decidePapers_98 (by decide) ?_
                exact g_wk2 (ih9 (st N 169 x 2) (x + 1) (w + -1) (by omega) (by omega) (by omega) (by rw [cmpS_s hx0, hse]; simp; omega) (fun i hi => by rw [st_ne hi]; exact hN i hi) (row_ext hrw hse.symm)) ⟨rfl, rfl, rfl, rfl, trivial⟩
          · refine g_aload_n (pc := 52) E dX4_decidePapers_52 (i := 0) rfl rfl ?_
            refine g_getr (i := 167) (j := 169) (t := 4) (f := 1) (pc := 53) E dX4_decidePapers_53 fl_X4_15 rfl (by decide) (by decide) rfl rfl ?_
            refine g_iload_n (pc := 56) E dX4_decidePapers_56 (i := 3) rfl rfl ?_
            refine g_iconst (pc := 57) E dX4_decidePapers_57 rfl ?_
            have hse : stA S mk x = 1 := by rw [stA, stS, if_neg (by omega), if_pos (by omega)]
            refine g_iast (pc := 58) E dX4_decidePapers_58 rfl (by omega) (by omega) ?_ 
            refine g_goto (pc := 59) (tgt := 95) E dX4_decidePapers_59 (by decide) ?_
            refine g_iinc (pc := 95) E dX4_decidePapers_95 (ls' := [_, _, _, _]) rfl rfl rfl ?_
            refine g_goto (pc := 98) (tgt := 9) E dX4_decidePapers_98 (by decide) ?_
            exact g_wk2 (ih9 (st N 169 x 1) (x + 1) w (by omega) (by omega) (by omega) (by rw [cmpS_s hx0, hse]; simp; omega) (fun i hi => by rw [st_ne hi]; exact hN i hi) (row_ext hrw hse.symm)) ⟨rfl, rfl, rfl, rfl, trivial⟩
        · refine g_aload_n (pc := 27) E dX4_decidePapers_27 (i := 0) rfl rfl ?_
          refine g_getr (i := 167) (j := 169) (t := 4) (f := 1) (pc := 28) E dX4_decidePapers_28 fl_X4_15 rfl (by decide) (by decide) rfl rfl ?_
          refine g_iload_n (pc := 31) E dX4_decidePapers_31 (i := 3) rfl rfl ?_
          refine g_iconst (pc := 32) E dX4_decidePapers_32 rfl ?_
          have hse : stA S mk x = 0 := by rw [stA, stS, if_pos (by omega)]
          refine g_iast (pc := 33) E dX4_decidePapers_33 rfl (by omega) (by omega) ?_ 
          refine g_goto (pc := 34) (tgt := 95) E dX4_decidePapers_34 (by decide) ?_
          refine g_iinc (pc := 95) E dX4_decidePapers_95 (ls' := [_, _, _, _]) rfl rfl rfl ?_
          refine g_goto (pc := 98) (tgt := 9) E dX4_decidePapers_98 (by decide) ?_
          exact g_wk2 (ih9 (st N 169 x 0) (x + 1) w (by omega) (by omega) (by omega) (by rw [cmpS_s hx0, hse]; simp; omega) (fun i hi => by rw [st_ne hi]; exact hN i hi) (row_ext hrw hse.symm)) ⟨rfl, rfl, rfl, rfl, trivial⟩
  exact g_wk2 (LP9 (S 6 + 1).toNat M 0 (S 2) (by omega) (by omega) (by omega) (by show S 2 = S 2 - 0; omega) (fun i _ => rfl) (fun j a b => absurd b (by omega))) ⟨rfl, rfl, rfl, rfl, trivial⟩

/-- where sumUp stands at module x -/
def SU (S mk : Int → Int) (M : Mem) (x : Int) (N : Mem) : Prop := S7 M N ∧ N 167 4 = sz (aF S) x ∧ N 167 5 = sz (pwF S mk) x ∧ N 167 6 = sz (pcrF S mk) x ∧ N 167 7 = bi (sz (misF S mk) x = 0) ∧ N 167 8 = bi (sz (apF S mk) x = 0)
theorem S7.st {M N : Mem} (h : S7 M N) (f : Int) {v : Int} (hf : 4 ≤ f ∧ f ≤ 8) : S7 M (st N 167 f v) := ⟨fun i hi => by rw [st_ne hi]; exact h.1 i hi, fun g hg => by rw [st_off (by omega)]; exact h.2 g hg⟩
theorem SU_no {S mk : Int → Int} {M N : Mem} {x : Int} (hV : SOK S) (hx : 0 ≤ x) (h : SU S mk M x N) (hp : ¬ 0 < pcnt S x) : SU S mk M (x + 1) N := by
  obtain ⟨h1, h2, h3, h4, h5, h6⟩ := h
  have q1 : aF S x = 0 := if_neg hp
  have q2 : pwF S mk x = 0 := if_neg (fun z => hp z.1)
  have q3 : pcrF S mk x = 0 := if_neg (fun z => hp (inS_pc hV z.1))
  have q4 : misF S mk x = 0 := if_neg (fun z => hp z.1)
  have q5 : apF S mk x = 0 := if_neg (fun z => hp z.1)
  refine ⟨h1, ?_, ?_, ?_, ?_, ?_⟩
  · rw [sz_s hx, q1, h2]; omega
  · rw [sz_s hx, q2, h3]; omega
  · rw [sz_s hx, q3, h4]; omega
  · rw [sz_s hx, q4, h5]; exact bi_c (by omega)
  · rw [sz_s hx, q5, h6]; exact bi_c (by omega)
/-- a module that counts: v, w: whether it is whole, and passed -/
theorem SU_yes {S mk : Int → Int} {M N P : Mem} {x : Int} (hx : 0 ≤ x) (h : SU S mk M x N) (hp : 0 < pcnt S x) (h7 : S7 M P)
    (p4 : P 167 4 = N 167 4 + S (9 + x))
    (p5 : P 167 5 = N 167 5 + (if 0 ≤ inS S mk x then inS S mk x * S (9 + x) else 0)) (p7 : P 167 7 = if 0 ≤ inS S mk x then N 167 7 else 0)
    (p6 : P 167 6 = N 167 6 + (if psM S mk x then S (9 + x) else 0)) (p8 : P 167 8 = if psM S mk x then N 167 8 else 0) : SU S mk M (x + 1) P := by
  obtain ⟨h1, h2, h3, h4, h5, h6⟩ := h
  have m0 : 0 ≤ sz (misF S mk) x := sz_pos (fun j _ _ => by rcases misF_01 S mk j with w | w <;> omega)
  have a0 : 0 ≤ sz (apF S mk) x := sz_pos (fun j _ _ => by rcases apF_01 S mk j with w | w <;> omega)
  refine ⟨h7, ?_, ?_, ?_, ?_, ?_⟩
  · rw [sz_s hx, show aF S x = S (9 + x) from if_pos hp, p4, h2]
  · rw [sz_s hx, p5, h3]
    unfold pwF
    by_cases q : 0 ≤ inS S mk x
    · rw [if_pos q, if_pos ⟨hp, q⟩]
    · rw [if_neg q, if_neg (fun z => q z.2)]
  · rw [sz_s hx, p6, h4]; rfl
  · rw [sz_s hx, p7, h5]
    by_cases q : 0 ≤ inS S mk x
    · rw [if_pos q, show misF S mk x = 0 from if_neg (by omega)]; exact bi_c (by omega)
    · rw [if_neg q, show misF S mk x = 1 from if_pos ⟨hp, by omega⟩]; exact (bi_f (by omega)).symm
  · rw [sz_s hx, p8, h6]
    by_cases q : psM S mk x
    · rw [if_pos q, show apF S mk x = 0 from if_neg (fun z => z.2 q)]; exact bi_c (by omega)
    · rw [if_neg q, show apF S mk x = 1 from if_pos ⟨hp, q⟩]; exact (bi_f (by omega)).symm
theorem inc_iff {S mk : Int → Int} (hV : SOK S) : ¬ incS S mk ↔ (sz (misF S mk) (S 5) = 0 ∧ 0 < allS S) := by
  have h0 := hV.1
  have h1 := allS_R hV (show 0 ≤ S 5 by omega) (Int.le_refl _)
  have h2 := mis_sz (mk := mk) hV
  have h3 := fi_R (misF S mk) (n := S 5) (by omega)
  have e1 : allS S = sz (aF S) (S 5) := rfl
  have e2 : misS S mk = fi (misF S mk) (S 5) := rfl
  unfold incS
  omega

set_option maxHeartbeats 2000000 in
theorem cv_sumUp {cx : Cx} {M : Mem} {S : Int → Int} (hB : BD M S) (hV : SOK S) {mk : Int → Int} (hm : mkOK S mk) (hin : ∀ m, 0 ≤ m → m < S 5 → M 170 m = inS S mk m) (hct : ∀ m, 0 ≤ m → m < S 5 → M 171 m = bi (0 < pcnt S m)) (hst : ∀ p, 0 ≤ p → p < S 6 → M 169 p = stA S mk p)  : Cv cx yX4_sumUp cX4_sumUp 3 3 0 0 [rf cx 167, rf cx 0] M (fun M' => S7 M M' ∧ M' 167 4 = allS S ∧ M' 167 5 = pwS S mk ∧ M' 167 6 = pcrS S mk ∧ M' 167 7 = bi (¬ incS S mk) ∧ M' 167 8 = bi (sz (apF S mk) (S 5) = 0)) := by
  refine cv_intro cd_X4_sumUp (by decide +kernel) (Nat.le_of_ble_eq_true rfl) rfl (fun Pg Lc Ev s m args below meth c E hr => ?_)
  refine g_ent (ls' := [some (rf cx 167), some (rf cx 0), none]) rfl ?_
  have hV0 := hV.1
  have hB0 := hB.c0
  have hB1 := hB.c1
  have hB2 := hB.c2
  have hB3 := hB.c3
  refine g_aload_n (pc := 0) E dX4_sumUp_0 (i := 0) rfl rfl ?_
  refine g_iconst (pc := 1) E dX4_sumUp_1 rfl ?_
  refine g_puti (i := 167) (t := 4) (f := 4) (fz := 4) (pc := 2) E dX4_sumUp_2 fl_X4_25 rfl (by decide) (by decide) rfl rfl ?_ 
  refine g_aload_n (pc := 5) E dX4_sumUp_5 (i := 0) rfl rfl ?_
  refine g_iconst (pc := 6) E dX4_sumUp_6 rfl ?_
  refine g_puti (i := 167) (t := 4) (f := 5) (fz := 5) (pc := 7) E dX4_sumUp_7 fl_X4_29 rfl (by decide) (by decide) rfl rfl ?_ 
  refine g_aload_n (pc := 10) E dX4_sumUp_10 (i := 0) rfl rfl ?_
  refine g_iconst (pc := 11) E dX4_sumUp_11 rfl ?_
  refine g_puti (i := 167) (t := 4) (f := 6) (fz := 6) (pc := 12) E dX4_sumUp_12 fl_X4_32 rfl (by decide) (by decide) rfl rfl ?_ 
  refine g_aload_n (pc := 15) E dX4_sumUp_15 (i := 0) rfl rfl ?_
  refine g_iconst (pc := 16) E dX4_sumUp_16 rfl ?_
  refine g_putz (i := 167) (t := 4) (f := 7) (fz := 7) (pc := 17) E dX4_sumUp_17 fl_X4_35 rfl (by decide) (by decide) rfl rfl (Or.inr rfl) ?_
  refine g_aload_n (pc := 20) E dX4_sumUp_20 (i := 0) rfl rfl ?_
  refine g_iconst (pc := 21) E dX4_sumUp_21 rfl ?_
  refine g_putz (i := 167) (t := 4) (f := 8) (fz := 8) (pc := 22) E dX4_sumUp_22 fl_X4_39 rfl (by decide) (by decide) rfl rfl (Or.inr rfl) ?_
  refine g_iconst (pc := 25) E dX4_sumUp_25 rfl ?_
  refine g_istore_n (pc := 26) E dX4_sumUp_26 (i := 2) (ls' := [_, _, _]) rfl (Nat.le_of_ble_eq_true rfl) rfl ?_
  have LP27 : ∀ (n : Nat) (N : Mem) (x : Int), S 5 - x < (n : Int) → 0 ≤ x → x ≤ S 5 → SU S mk M x N → G cx Pg Lc Ev (rmD 3 0 0) s m args below meth c (MQ below (QV cx (fun M' => S7 M M' ∧ M' 167 4 = allS S ∧ M' 167 5 = pwS S mk ∧ M' 167 6 = pcrS S mk ∧ M' 167 7 = bi (¬ incS S mk) ∧ M' 167 8 = bi (sz (apF S mk) (S 5) = 0))) args s 0 0 (cA0 cx)) 27 [some (rf cx 167), some (rf cx 0), some (.int (oi x))] [] (N) 0 0 := by
    intro n
    induction n with
    | zero => intro N x hn hx0 hx1 hU; exact absurd hn (by omega)
    | succ n ih27 =>
      intro N x hn hx0 hx1 hU
      have hB : BD N S := hB.congr (fun i hi => hU.1.1 i (by omega))
      have hin : ∀ m, 0 ≤ m → m < S 5 → N 170 m = inS S mk m := fun m a b => by rw [hU.1.1 170 (by decide)]; exact hin m a b
      have hct : ∀ m, 0 ≤ m → m < S 5 → N 171 m = bi (0 < pcnt S m) := fun m a b => by rw [hU.1.1 171 (by decide)]; exact hct m a b
      have hst : ∀ p, 0 ≤ p → p < S 6 → N 169 p = stA S mk p := fun p a b => by rw [hU.1.1 169 (by decide)]; exact hst p a b
      have hUa := hU.2.1
      have hUp := hU.2.2.1
      have hUc := hU.2.2.2.1
      have hA := allS_R hV hx0 hx1
      have hW := pwS_R hV hm hx0 hx1
      have hC := pcr_R (mk := mk) hV hx0 hx1
      refine g_iload_n (pc := 27) E dX4_sumUp_27 (i := 2) rfl rfl ?_
      refine g_aload_n (pc := 28) E dX4_sumUp_28 (i := 1) rfl rfl ?_
      refine g_geti (i := 0) (t := 0) (f := 0) (fz := 0) (pc := 29) E dX4_sumUp_29 fl_X4_64 rfl (by decide) (by decide) rfl rfl hB.c0 (fun _ _ => ?_)
      refine g_icmp_ge (pc := 32) (tgt := 138) E dX4_sumUp_32 (by decide) (fun qh32 => ?_) (fun qh32 => ?_) 
      · refine g_aload_n (pc := 138) E dX4_sumUp_138 (i := 0) rfl rfl ?_
        refine g_aload_n (pc := 139) E dX4_sumUp_139 (i := 0) rfl rfl ?_
        refine g_geti (i := 167) (t := 4) (f := 7) (fz := 7) (pc := 140) E dX4_sumUp_140 fl_X4_35 rfl (by decide) (by decide) rfl rfl rfl (fun _ _ => ?_)
        refine g_if_eq (pc := 143) (tgt := 157) E dX4_sumUp_143 (by decide) (fun qh143 => ?_) (fun qh143 => ?_) 
        · refine g_iconst (pc := 157) E dX4_sumUp_157 rfl ?_
          refine g_putz (i := 167) (t := 4) (f := 7) (fz := 7) (pc := 158) E dX4_sumUp_158 fl_X4_35 rfl (by decide) (by decide) rfl rfl (by first | exact Or.inl rfl | exact Or.inr rfl) ?_
          refine g_vret (pc := 161) E hr dX4_sumUp_161 ?_
          rw [show x = S 5 by omega] at hU
          obtain ⟨u1, u2, u3, u4, u5, u6⟩ := hU
          have hii := inc_iff (mk := mk) hV
          refine ⟨u1.st 7 (by omega), by rw [st_off (by decide)]; exact u2, by rw [st_off (by decide)]; exact u3, by rw [st_off (by decide)]; exact u4, ?_, by rw [st_off (by decide)]; exact u6⟩
          rw [st_self]
          rw [u5] at qh143
          have h1 := bi_0.mp qh143
          exact (bi_f (fun z => h1 (hii.mp z).1)).symm
        · refine g_aload_n (pc := 146) E dX4_sumUp_146 (i := 0) rfl rfl ?_
          refine g_geti (i := 167) (t := 4) (f := 4) (fz := 4) (pc := 147) E dX4_sumUp_147 fl_X4_25 rfl (by decide) (by decide) rfl rfl rfl (fun _ _ => ?_)
          refine g_if_le (pc := 150) (tgt := 157) E dX4_sumUp_150 (by decide) (fun qh150 => ?_) (fun qh150 => ?_) 
          · refine g_iconst (pc := 157) E dX4_sumUp_157 rfl ?_
            refine g_putz (i := 167) (t := 4) (f := 7) (fz := 7) (pc := 158) E dX4_sumUp_158 fl_X4_35 rfl (by decide) (by decide) rfl rfl (by first | exact Or.inl rfl | exact Or.inr rfl) ?_
            refine g_vret (pc := 161) E hr dX4_sumUp_161 ?_
            rw [show x = S 5 by omega] at hU
            obtain ⟨u1, u2, u3, u4, u5, u6⟩ := hU
            have hii := inc_iff (mk := mk) hV
            refine ⟨u1.st 7 (by omega), by rw [st_off (by decide)]; exact u2, by rw [st_off (by decide)]; exact u3, by rw [st_off (by decide)]; exact u4, ?_, by rw [st_off (by decide)]; exact u6⟩
            rw [st_self]
            exact (bi_f (fun z => by have := (hii.mp z).2; have e : allS S = sz (aF S) (S 5) := rfl; omega)).symm
          · refine g_iconst (pc := 153) E dX4_sumUp_153 rfl ?_
            refine g_goto (pc := 154) (tgt := 158) E dX4_sumUp_154 (by decide) ?_
            refine g_putz (i := 167) (t := 4) (f := 7) (fz := 7) (pc := 158) E dX4_sumUp_158 fl_X4_35 rfl (by decide) (by decide) rfl rfl (by first | exact Or.inl rfl | exact Or.inr rfl) ?_
            refine g_vret (pc := 161) E hr dX4_sumUp_161 ?_
            rw [show x = S 5 by omega] at hU
            obtain ⟨u1, u2, u3, u4, u5, u6⟩ := hU
            have hii := inc_iff (mk := mk) hV
            refine ⟨u1.st 7 (by omega), by rw [st_off (by decide)]; exact u2, by rw [st_off (by decide)]; exact u3, by rw [st_off (by decide)]; exact u4, ?_, by rw [st_off (by decide)]; exact u6⟩
            rw [st_self]
            rw [u5] at qh143
            have h1 := bi_n.mp qh143
            exact (bi_t (hii.mpr ⟨h1, by have e : allS S = sz (aF S) (S 5) := rfl; omega⟩)).symm
      · refine g_aload_n (pc := 35) E dX4_sumUp_35 (i := 0) rfl rfl ?_
        refine g_getr (i := 167) (j := 171) (t := 4) (f := 3) (pc := 36) E dX4_sumUp_36 fl_X4_21 rfl (by decide) (by decide) rfl rfl ?_
        refine g_iload_n (pc := 39) E dX4_sumUp_39 (i := 2) rfl rfl ?_
        refine g_zald (pc := 40) E dX4_sumUp_40 rfl (by omega) (by omega) (hct _ (by omega) (by omega)) (fun _ _ => ?_)
        refine g_if_ne (pc := 41) (tgt := 47) E dX4_sumUp_41 (by decide) (fun qh41 => ?_) (fun qh41 => ?_) 
        · replace qh41 : 0 < pcnt S x := bi_n.mp qh41
          have hpc := qh41
          have hcm := hV.2.1 x (by omega) (by omega)
          have hiR := inS_R hV hm x
          have hmu := mulR (a := inS S mk x) (b := S (9 + x)) (A := 100) (B := 9) (by omega) (by omega) (by omega) (by omega)
          refine g_aload_n (pc := 47) E dX4_sumUp_47 (i := 0) rfl rfl ?_
          refine g_dup (pc := 48) E dX4_sumUp_48 rfl ?_
          refine g_geti (i := 167) (t := 4) (f := 4) (fz := 4) (pc := 49) E dX4_sumUp_49 fl_X4_25 rfl (by decide) (by decide) rfl rfl hUa (fun _ _ => ?_)
          refine g_aload_n (pc := 52) E dX4_sumUp_52 (i := 1) rfl rfl ?_
          refine g_getr (i := 0) (j := 2) (t := 0) (f := 5) (pc := 53) E dX4_sumUp_53 fl_X4_97 rfl (by decide) (by decide) rfl rfl ?_
          refine g_iload_n (pc := 56) E dX4_sumUp_56 (i := 2) rfl rfl ?_
          refine g_iald (q := 4) (pc := 57) E dX4_sumUp_57 rfl (by omega) (by omega) (hB.f2 x (by omega) (by omega)) (fun _ _ => ?_)
          refine g_iadd (pc := 58) E dX4_sumUp_58 ?_
          refine g_puti (i := 167) (t := 4) (f := 4) (fz := 4) (pc := 59) E dX4_sumUp_59 fl_X4_25 rfl (by decide) (by decide) rfl rfl ?_ 
          refine g_aload_n (pc := 62) E dX4_sumUp_62 (i := 0) rfl rfl ?_
          refine g_iload_n (pc := 63) E dX4_sumUp_63 (i := 2) rfl rfl ?_
          refine g_callV (pc := 64) (As := [_]) E dX4_sumUp_64 ml_X4_99 (ct_isWhole (mk := mk) (hB.congr (fun i hi => by rw [st_ne (by omega)])) hV hm (fun m a b => by rw [st_ne (by decide)]; exact hin m a b) (by omega) (by omega)) rfl rfl rfl rfl (by decide) (by decide) rfl (Nat.le_of_ble_eq_true rfl) (by decide) (fun x64 M64 hM64 => ?_)
          obtain ⟨rfl, rfl⟩ := hM64
          refine g_if_eq (pc := 67) (tgt := 95) E dX4_sumUp_67 (by decide) (fun qh67 => ?_) (fun qh67 => ?_) (Int.le_trans (by decide) (bi_R _).1) (Int.le_trans (bi_R _).2 (by decide))
          · replace qh67 := bi_0.mp qh67
            refine g_aload_n (pc := 95) E dX4_sumUp_95 (i := 0) rfl rfl ?_
            refine g_iconst (pc := 96) E dX4_sumUp_96 rfl ?_
            refine g_putz (i := 167) (t := 4) (f := 7) (fz := 7) (pc := 97) E dX4_sumUp_97 fl_X4_35 rfl (by decide) (by decide) rfl rfl (Or.inl rfl) ?_
            refine g_aload_n (pc := 100) E dX4_sumUp_100 (i := 0) rfl rfl ?_
            refine g_aload_n (pc := 101) E dX4_sumUp_101 (i := 1) rfl rfl ?_
            refine g_iload_n (pc := 102) E dX4_sumUp_102 (i := 2) rfl rfl ?_
            refine g_callV (pc := 103) (As := [_, _]) E dX4_sumUp_103 ml_X4_103 (ct_passes (mk := mk) (hB.congr (fun i hi => by rw [st_ne (by omega), st_ne (by omega)])) hV hm (fun m a b => by rw [st_ne (by decide), st_ne (by decide)]; exact hin m a b) (fun p a b => by rw [st_ne (by decide), st_ne (by decide)]; exact hst p a b) (by omega) (by omega)) rfl rfl rfl rfl (by decide) (by decide) rfl (Nat.le_of_ble_eq_true rfl) (by decide) (fun x103 M103 hM103 => ?_)
            obtain ⟨rfl, rfl⟩ := hM103
            refine g_if_eq (pc := 106) (tgt := 127) E dX4_sumUp_106 (by decide) (fun qh106 => ?_) (fun qh106 => ?_) (Int.le_trans (by decide) (bi_R _).1) (Int.le_trans (bi_R _).2 (by decide))
            · replace qh106 := bi_0.mp qh106
              refine g_aload_n (pc := 127) E dX4_sumUp_127 (i := 0) rfl rfl ?_
              refine g_iconst (pc := 128) E dX4_sumUp_128 rfl ?_
              refine g_putz (i := 167) (t := 4) (f := 8) (fz := 8) (pc := 129) E dX4_sumUp_129 fl_X4_39 rfl (by decide) (by decide) rfl rfl (Or.inl rfl) ?_
              refine g_iinc (pc := 132) E dX4_sumUp_132 (ls' := [_, _, _]) rfl rfl rfl ?_
              refine g_goto (pc := 135) (tgt := 27) E dX4_sumUp_135 (by decide) ?_
              exact g_wk2 (ih27 _ (x + 1) (by omega) (by omega) (by omega) (SU_yes hx0 hU hpc (((hU.1.st 4 (by omega)).st 7 (by omega)).st 8 (by omega)) (by rw [st_off (by decide), st_off (by decide), st_self] <;> omega) (by rw [st_off (by decide), st_off (by decide), st_off (by decide), if_neg qh67] <;> omega) (by rw [st_off (by decide), st_self, if_neg qh67]) (by rw [st_off (by decide), st_off (by decide), st_off (by decide), if_neg qh106] <;> omega) (by rw [st_self, if_neg qh106]))) ⟨rfl, rfl, rfl, trivial⟩
            · replace qh106 := bi_n.mp qh106
              refine g_aload_n (pc := 109) E dX4_sumUp_109 (i := 0) rfl rfl ?_
              refine g_dup (pc := 110) E dX4_sumUp_110 rfl ?_
              refine g_geti (i := 167) (t := 4) (f := 6) (fz := 6) (pc := 111) E dX4_sumUp_111 fl_X4_32 rfl (by decide) (by decide) rfl rfl (v := N 167 6) (by rw [st_off (by decide), st_off (by decide)]) (fun _ _ => ?_)
              refine g_aload_n (pc := 114) E dX4_sumUp_114 (i := 1) rfl rfl ?_
              refine g_getr (i := 0) (j := 2) (t := 0) (f := 5) (pc := 115) E dX4_sumUp_115 fl_X4_97 rfl (by decide) (by decide) rfl rfl ?_
              refine g_iload_n (pc := 118) E dX4_sumUp_118 (i := 2) rfl rfl ?_
              refine g_iald (q := 4) (pc := 119) E dX4_sumUp_119 rfl (by omega) (by omega) (v := S (9 + x)) (by rw [st_ne (by decide), st_ne (by decide)]; exact hB.f2 x (by omega) (by omega)) (fun _ _ => ?_)
              refine g_iadd (pc := 120) E dX4_sumUp_120 ?_
              refine g_puti (i := 167) (t := 4) (f := 6) (fz := 6) (pc := 121) E dX4_sumUp_121 fl_X4_32 rfl (by decide) (by decide) rfl rfl ?_ 
              refine g_goto (pc := 124) (tgt := 132) E dX4_sumUp_124 (by decide) ?_
              refine g_iinc (pc := 132) E dX4_sumUp_132 (ls' := [_, _, _]) rfl rfl rfl ?_
              refine g_goto (pc := 135) (tgt := 27) E dX4_sumUp_135 (by decide) ?_
              exact g_wk2 (ih27 _ (x + 1) (by omega) (by omega) (by omega) (SU_yes hx0 hU hpc (((hU.1.st 4 (by omega)).st 7 (by omega)).st 6 (by omega)) (by rw [st_off (by decide), st_off (by decide), st_self] <;> omega) (by rw [st_off (by decide), st_off (by decide), st_off (by decide), if_neg qh67] <;> omega) (by rw [st_off (by decide), st_self, if_neg qh67]) (by rw [st_self, if_pos qh106] <;> omega) (by rw [st_off (by decide), st_off (by decide), st_off (by decide), if_pos qh106]))) ⟨rfl, rfl, rfl, trivial⟩
          · replace qh67 := bi_n.mp qh67
            refine g_aload_n (pc := 70) E dX4_sumUp_70 (i := 0) rfl rfl ?_
            refine g_dup (pc := 71) E dX4_sumUp_71 rfl ?_
            refine g_geti (i := 167) (t := 4) (f := 5) (fz := 5) (pc := 72) E dX4_sumUp_72 fl_X4_29 rfl (by decide) (by decide) rfl rfl (v := N 167 5) (by rw [st_off (by decide)]) (fun _ _ => ?_)
            refine g_aload_n (pc := 75) E dX4_sumUp_75 (i := 0) rfl rfl ?_
            refine g_getr (i := 167) (j := 170) (t := 4) (f := 2) (pc := 76) E dX4_sumUp_76 fl_X4_18 rfl (by decide) (by decide) rfl rfl ?_
            refine g_iload_n (pc := 79) E dX4_sumUp_79 (i := 2) rfl rfl ?_
            refine g_iald (pc := 80) E dX4_sumUp_80 rfl (by omega) (by omega) (v := inS S mk x) (by rw [st_ne (by decide)]; exact hin x (by omega) (by omega)) (fun _ _ => ?_)
            refine g_aload_n (pc := 81) E dX4_sumUp_81 (i := 1) rfl rfl ?_
            refine g_getr (i := 0) (j := 2) (t := 0) (f := 5) (pc := 82) E dX4_sumUp_82 fl_X4_97 rfl (by decide) (by decide) rfl rfl ?_
            refine g_iload_n (pc := 85) E dX4_sumUp_85 (i := 2) rfl rfl ?_
            refine g_iald (q := 4) (pc := 86) E dX4_sumUp_86 rfl (by omega) (by omega) (v := S (9 + x)) (by rw [st_ne (by decide)]; exact hB.f2 x (by omega) (by omega)) (fun _ _ => ?_)
            refine g_imul (pc := 87) E dX4_sumUp_87 ?_
            refine g_iadd (pc := 88) E dX4_sumUp_88 ?_
            refine g_puti (i := 167) (t := 4) (f := 5) (fz := 5) (pc := 89) E dX4_sumUp_89 fl_X4_29 rfl (by decide) (by decide) rfl rfl ?_ 
            refine g_goto (pc := 92) (tgt := 100) E dX4_sumUp_92 (by decide) ?_
            refine g_aload_n (pc := 100) E dX4_sumUp_100 (i := 0) rfl rfl ?_
            refine g_aload_n (pc := 101) E dX4_sumUp_101 (i := 1) rfl rfl ?_
            refine g_iload_n (pc := 102) E dX4_sumUp_102 (i := 2) rfl rfl ?_
            refine g_callV (pc := 103) (As := [_, _]) E dX4_sumUp_103 ml_X4_103 (ct_passes (mk := mk) (hB.congr (fun i hi => by rw [st_ne (by omega), st_ne (by omega)])) hV hm (fun m a b => by rw [st_ne (by decide), st_ne (by decide)]; exact hin m a b) (fun p a b => by rw [st_ne (by decide), st_ne (by decide)]; exact hst p a b) (by omega) (by omega)) rfl rfl rfl rfl (by decide) (by decide) rfl (Nat.le_of_ble_eq_true rfl) (by decide) (fun x103 M103 hM103 => ?_)
            obtain ⟨rfl, rfl⟩ := hM103
            refine g_if_eq (pc := 106) (tgt := 127) E dX4_sumUp_106 (by decide) (fun qh106 => ?_) (fun qh106 => ?_) (Int.le_trans (by decide) (bi_R _).1) (Int.le_trans (bi_R _).2 (by decide))
            · replace qh106 := bi_0.mp qh106
              refine g_aload_n (pc := 127) E dX4_sumUp_127 (i := 0) rfl rfl ?_
              refine g_iconst (pc := 128) E dX4_sumUp_128 rfl ?_
              refine g_putz (i := 167) (t := 4) (f := 8) (fz := 8) (pc := 129) E dX4_sumUp_129 fl_X4_39 rfl (by decide) (by decide) rfl rfl (Or.inl rfl) ?_
              refine g_iinc (pc := 132) E dX4_sumUp_132 (ls' := [_, _, _]) rfl rfl rfl ?_
              refine g_goto (pc := 135) (tgt := 27) E dX4_sumUp_135 (by decide) ?_
              exact g_wk2 (ih27 _ (x + 1) (by omega) (by omega) (by omega) (SU_yes hx0 hU hpc (((hU.1.st 4 (by omega)).st 5 (by omega)).st 8 (by omega)) (by rw [st_off (by decide), st_off (by decide), st_self] <;> omega) (by rw [st_off (by decide), st_self, if_pos qh67] <;> omega) (by rw [st_off (by decide), st_off (by decide), st_off (by decide), if_pos qh67]) (by rw [st_off (by decide), st_off (by decide), st_off (by decide), if_neg qh106] <;> omega) (by rw [st_self, if_neg qh106]))) ⟨rfl, rfl, rfl, trivial⟩
            · replace qh106 := bi_n.mp qh106
              refine g_aload_n (pc := 109) E dX4_sumUp_109 (i := 0) rfl rfl ?_
              refine g_dup (pc := 110) E dX4_sumUp_110 rfl ?_
              refine g_geti (i := 167) (t := 4) (f := 6) (fz := 6) (pc := 111) E dX4_sumUp_111 fl_X4_32 rfl (by decide) (by decide) rfl rfl (v := N 167 6) (by rw [st_off (by decide), st_off (by decide)]) (fun _ _ => ?_)
              refine g_aload_n (pc := 114) E dX4_sumUp_114 (i := 1) rfl rfl ?_
              refine g_getr (i := 0) (j := 2) (t := 0) (f := 5) (pc := 115) E dX4_sumUp_115 fl_X4_97 rfl (by decide) (by decide) rfl rfl ?_
              refine g_iload_n (pc := 118) E dX4_sumUp_118 (i := 2) rfl rfl ?_
              refine g_iald (q := 4) (pc := 119) E dX4_sumUp_119 rfl (by omega) (by omega) (v := S (9 + x)) (by rw [st_ne (by decide), st_ne (by decide)]; exact hB.f2 x (by omega) (by omega)) (fun _ _ => ?_)
              refine g_iadd (pc := 120) E dX4_sumUp_120 ?_
              refine g_puti (i := 167) (t := 4) (f := 6) (fz := 6) (pc := 121) E dX4_sumUp_121 fl_X4_32 rfl (by decide) (by decide) rfl rfl ?_ 
              refine g_goto (pc := 124) (tgt := 132) E dX4_sumUp_124 (by decide) ?_
              refine g_iinc (pc := 132) E dX4_sumUp_132 (ls' := [_, _, _]) rfl rfl rfl ?_
              refine g_goto (pc := 135) (tgt := 27) E dX4_sumUp_135 (by decide) ?_
              exact g_wk2 (ih27 _ (x + 1) (by omega) (by omega) (by omega) (SU_yes hx0 hU hpc (((hU.1.st 4 (by omega)).st 5 (by omega)).st 6 (by omega)) (by rw [st_off (by decide), st_off (by decide), st_self] <;> omega) (by rw [st_off (by decide), st_self, if_pos qh67] <;> omega) (by rw [st_off (by decide), st_off (by decide), st_off (by decide), if_pos qh67]) (by rw [st_self, if_pos qh106] <;> omega) (by rw [st_off (by decide), st_off (by decide), st_off (by decide), if_pos qh106]))) ⟨rfl, rfl, rfl, trivial⟩
        · replace qh41 : ¬ 0 < pcnt S x := bi_0.mp qh41
          refine g_goto (pc := 44) (tgt := 132) E dX4_sumUp_44 (by decide) ?_
          refine g_iinc (pc := 132) E dX4_sumUp_132 (ls' := [_, _, _]) rfl rfl rfl ?_
          refine g_goto (pc := 135) (tgt := 27) E dX4_sumUp_135 (by decide) ?_
          exact g_wk2 (ih27 N (x + 1) (by omega) (by omega) (by omega) (SU_no hV hx0 hU qh41)) ⟨rfl, rfl, rfl, trivial⟩
  exact g_wk2 (LP27 (S 5 + 1).toNat _ 0 (by omega) (by omega) (by omega) ⟨⟨fun i hi => by rw [st_ne hi, st_ne hi, st_ne hi, st_ne hi, st_ne hi], fun f hf => by rw [st_off (by omega), st_off (by omega), st_off (by omega), st_off (by omega), st_off (by omega)]⟩, by rw [st_off (by decide), st_off (by decide), st_off (by decide), st_off (by decide), st_self]; rfl, by rw [st_off (by decide), st_off (by decide), st_off (by decide), st_self]; rfl, by rw [st_off (by decide), st_off (by decide), st_self]; rfl, by rw [st_off (by decide), st_self]; rfl, by rw [st_self]; rfl⟩) ⟨rfl, rfl, rfl, trivial⟩
