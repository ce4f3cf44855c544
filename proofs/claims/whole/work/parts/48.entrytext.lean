/-! the class's reading of a text: EntryText -/
/-- the signs: text 177 holds the n letters X -/
def T5 (M : Mem) (X : Int → Int) (n : Int) : Prop := M 177 0 = n ∧ ∀ j, 0 ≤ j → j < n → M 177 (j + 1) = X j
theorem T5.congr {M N : Mem} {X : Int → Int} {n : Int} (h : T5 M X n) (e : N 177 = M 177) : T5 N X n := by
  unfold T5
  rw [e]
  exact h
/-- the place in the text moves, nothing else -/
def P6 (M N : Mem) (e : Int) : Prop := N 176 6 = e ∧ (∀ i, i ≠ 176 → N i = M i) ∧ ∀ f : Int, f ≠ 6 → N 176 f = M 176 f
theorem P6.rf {M : Mem} {a : Int} (e : M 176 6 = a) : P6 M M a := ⟨e, fun _ _ => rfl, fun _ _ => rfl⟩
theorem P6.st {M N : Mem} {a : Int} (h : P6 M N a) (b : Int) : P6 M (st N 176 6 b) b := ⟨st_self _ _ _ _, fun i hi => by rw [st_ne hi]; exact h.2.1 i hi, fun f hf => by rw [st_off hf]; exact h.2.2 f hf⟩
theorem P6.t5 {M N : Mem} {X : Int → Int} {n a : Int} (h : P6 M N a) (e : T5 M X n) : T5 N X n := e.congr (h.2.1 177 (by decide))

theorem ct5_isDigit {cx : Cx} {M : Mem} {v : Int} (h0 : 0 ≤ v) (h1 : v < 128) : Ct cx yX1_isDigit cX1_isDigit 1 (some .boolean) 1 0 0 [.int (oi v)] M (fun rz M' => bi (48 ≤ v ∧ v ≤ 57) = rz ∧ M = M') := by
  refine ct_intro cd_X1_isDigit (by decide +kernel) (Nat.le_of_ble_eq_true rfl) rfl (fun Pg Lc Ev s m args below meth c E hr => ?_)
  refine g_ent (ls' := [some (.int (oi v))]) rfl ?_
  refine g_iload_n (pc := 0) E dX1_isDigit_0 (i := 0) rfl rfl ?_
  refine g_bipush (pc := 1) E dX1_isDigit_1 rfl ?_
  refine g_icmp_lt (pc := 3) (tgt := 16) E dX1_isDigit_3 (by decide) (fun qh3 => ?_) (fun qh3 => ?_) 
  · refine g_iconst (pc := 16) E dX1_isDigit_16 rfl ?_
    refine g_zret (pc := 17) E hr dX1_isDigit_17 (by first | exact Or.inl rfl | exact Or.inr rfl | exact bi_in _ | omega) ?_
    first | exact ⟨bi_t (by omega), rfl⟩ | exact ⟨bi_f (by omega), rfl⟩
  · refine g_iload_n (pc := 6) E dX1_isDigit_6 (i := 0) rfl rfl ?_
    refine g_bipush (pc := 7) E dX1_isDigit_7 rfl ?_
    refine g_icmp_gt (pc := 9) (tgt := 16) E dX1_isDigit_9 (by decide) (fun qh9 => ?_) (fun qh9 => ?_) 
    · refine g_iconst (pc := 16) E dX1_isDigit_16 rfl ?_
      refine g_zret (pc := 17) E hr dX1_isDigit_17 (by first | exact Or.inl rfl | exact Or.inr rfl | exact bi_in _ | omega) ?_
      first | exact ⟨bi_t (by omega), rfl⟩ | exact ⟨bi_f (by omega), rfl⟩
    · refine g_iconst (pc := 12) E dX1_isDigit_12 rfl ?_
      refine g_goto (pc := 13) (tgt := 17) E dX1_isDigit_13 (by decide) ?_
      refine g_zret (pc := 17) E hr dX1_isDigit_17 (by first | exact Or.inl rfl | exact Or.inr rfl | exact bi_in _ | omega) ?_
      first | exact ⟨bi_t (by omega), rfl⟩ | exact ⟨bi_f (by omega), rfl⟩

theorem ct5_takes {cx : Cx} {M : Mem} {X : Int → Int} {tn a : Int} (h5 : T5 M X tn) (e6 : M 176 6 = a) (hT : TX X tn) (ha0 : 0 ≤ a) (ha1 : a ≤ tn) {v : Int} (hv : 1 ≤ v ∧ v ≤ 126) : Ct cx yX1_takes cX1_takes 2 (some .boolean) 5 0 0 [rf cx 176, .int (oi v)] M (fun rz M' => bi (hereS X tn a = v) = rz ∧ (if hereS X tn a = v then st M 176 6 (a + 1) else M) = M') := by
  refine ct_intro cd_X1_takes (by decide +kernel) (Nat.le_of_ble_eq_true rfl) rfl (fun Pg Lc Ev s m args below meth c E hr => ?_)
  refine g_ent (ls' := [some (rf cx 176), some (.int (oi v))]) rfl ?_
  have hT0 := hT.1
  have hT1 := hT.2.1
  have h5n := h5.1
  refine g_aload_n (pc := 0) E dX1_takes_0 (i := 0) rfl rfl ?_
  refine g_geti (i := 176) (t := 1) (f := 6) (fz := 6) (pc := 1) E dX1_takes_1 fl_X1_36 rfl (by decide) (by decide) rfl rfl e6 (fun _ _ => ?_)
  refine g_aload_n (pc := 4) E dX1_takes_4 (i := 0) rfl rfl ?_
  refine g_getr (i := 176) (j := 177) (t := 1) (f := 0) (pc := 5) E dX1_takes_5 fl_X1_12 rfl (by decide) (by decide) rfl rfl ?_
  refine g_sbLen (pc := 8) (i := 177) (Or.inl rfl) E dX1_takes_8 ml_X1_47 (by decide) rfl (Nat.le_of_ble_eq_true rfl) (by decide) (fun hza8 hzb8 => ?_)
  refine g_top h5n ?_
  refine g_icmp_ge (pc := 11) (tgt := 29) E dX1_takes_11 (by decide) (fun qh11 => ?_) (fun qh11 => ?_) 
  · refine g_iconst (pc := 29) E dX1_takes_29 rfl ?_
    refine g_zret (pc := 30) E hr dX1_takes_30 (by first | exact Or.inl rfl | exact Or.inr rfl | exact bi_in _ | omega) ?_
    have hno : hereS X tn a = 0 := if_neg (by omega)
    exact ⟨bi_f (by omega), if_neg (by omega)⟩
  · have hin := here_in (X := X) (n := tn) (a := a) (by omega)
    have hXa := hT.2.2 a ha0 (by omega)
    refine g_aload_n (pc := 14) E dX1_takes_14 (i := 0) rfl rfl ?_
    refine g_getr (i := 176) (j := 177) (t := 1) (f := 0) (pc := 15) E dX1_takes_15 fl_X1_12 rfl (by decide) (by decide) rfl rfl ?_
    refine g_aload_n (pc := 18) E dX1_takes_18 (i := 0) rfl rfl ?_
    refine g_geti (i := 176) (t := 1) (f := 6) (fz := 6) (pc := 19) E dX1_takes_19 fl_X1_36 rfl (by decide) (by decide) rfl rfl e6 (fun _ _ => ?_)
    refine g_sbChar (pc := 22) (i := 177) (x := a) (Or.inl rfl) ha0 (by omega) E dX1_takes_22 ml_X1_51 (by decide) rfl (Nat.le_of_ble_eq_true rfl) (by decide) (fun hca22 hcb22 => ?_)
    refine g_top (h5.2 a ha0 (by omega)) ?_
    refine g_iload_n (pc := 25) E dX1_takes_25 (i := 1) rfl rfl ?_
    refine g_icmp_eq (pc := 26) (tgt := 31) E dX1_takes_26 (by decide) (fun qh26 => ?_) (fun qh26 => ?_) 
    · refine g_aload_n (pc := 31) E dX1_takes_31 (i := 0) rfl rfl ?_
      refine g_dup (pc := 32) E dX1_takes_32 rfl ?_
      refine g_geti (i := 176) (t := 1) (f := 6) (fz := 6) (pc := 33) E dX1_takes_33 fl_X1_36 rfl (by decide) (by decide) rfl rfl e6 (fun _ _ => ?_)
      refine g_iconst (pc := 36) E dX1_takes_36 rfl ?_
      refine g_iadd (pc := 37) E dX1_takes_37 ?_
      refine g_puti (i := 176) (t := 1) (f := 6) (fz := 6) (pc := 38) E dX1_takes_38 fl_X1_36 rfl (by decide) (by decide) rfl rfl ?_ 
      refine g_iconst (pc := 41) E dX1_takes_41 rfl ?_
      refine g_zret (pc := 42) E hr dX1_takes_42 (by first | exact Or.inl rfl | exact Or.inr rfl | exact bi_in _ | omega) ?_
      exact ⟨bi_t (by omega), if_pos (by omega)⟩
    · refine g_iconst (pc := 29) E dX1_takes_29 rfl ?_
      refine g_zret (pc := 30) E hr dX1_takes_30 (by first | exact Or.inl rfl | exact Or.inr rfl | exact bi_in _ | omega) ?_
      exact ⟨bi_f (by omega), if_neg (by omega)⟩

theorem nuA_stop {X : Int → Int} {M N : Mem} {n a b x : Int} (hx : x < 3) (h : ¬ dgS X n b) (hna : nmA X n (3 - x).toNat b = nmA X n 3 a) (hA : P6 M N b) : P6 M N (nuA X n a) := by
  rw [show (3 - x).toNat = (2 - x).toNat + 1 by omega, nmA_n h] at hna
  have hb : b = nuA X n a := hna
  exact hb ▸ hA
theorem nuV_stop {X : Int → Int} {n a b x v : Int} (hx : x < 3) (h : ¬ dgS X n b) (hd : dgS X n a) (hnv : nmV X n (3 - x).toNat v b = nmV X n 3 0 a) : nuV X n a = v := by
  rw [show (3 - x).toNat = (2 - x).toNat + 1 by omega, nmV_n h] at hnv
  rw [nuV, if_pos hd, ← hnv]

theorem ct5_number {cx : Cx} {M : Mem} {X : Int → Int} {tn a : Int} (h5 : T5 M X tn) (e6 : M 176 6 = a) (hT : TX X tn) (ha0 : 0 ≤ a) (ha1 : a ≤ tn) : Ct cx yX1_takeNumber cX1_takeNumber 3 (some .int) 5 0 0 [rf cx 176] M (fun rz M' => nuV X tn a = rz ∧ P6 M M' (nuA X tn a)) := by
  refine ct_intro cd_X1_takeNumber (by decide +kernel) (Nat.le_of_ble_eq_true rfl) rfl (fun Pg Lc Ev s m args below meth c E hr => ?_)
  refine g_ent (ls' := [some (rf cx 176), none, none]) rfl ?_
  have hT0 := hT.1
  have hT1 := hT.2.1
  have h5n := h5.1
  have h5M := h5
  have e6M := e6
  have JP76 : ∀ (N : Mem) (v x : Int), 0 ≤ x → x ≤ 3 → P6 M N (nuA X tn a) → (0 < x → nuV X tn a = v) → (x = 0 → nuV X tn a = -1) → G cx Pg Lc Ev (rmD 5 0 0) s m args below meth c (MQ below (QI cx (fun rz M' => nuV X tn a = rz ∧ P6 M M' (nuA X tn a))) args s 0 0 (cA0 cx)) 76 [some (rf cx 176), some (.int (oi v)), some (.int (oi x))] [] (N) 0 0 := by
    intro N v x hx0 hx1 hA hv1 hv0
    refine g_iload_n (pc := 76) E dX1_takeNumber_76 (i := 2) rfl rfl ?_
    refine g_if_le (pc := 77) (tgt := 84) E dX1_takeNumber_77 (by decide) (fun qh77 => ?_) (fun qh77 => ?_) 
    · refine g_iconst (pc := 84) E dX1_takeNumber_84 rfl ?_
      refine g_iret (pc := 85) E hr dX1_takeNumber_85 ?_
      exact ⟨hv0 (by omega), hA⟩
    · refine g_iload_n (pc := 80) E dX1_takeNumber_80 (i := 1) rfl rfl ?_
      refine g_goto (pc := 81) (tgt := 85) E dX1_takeNumber_81 (by decide) ?_
      refine g_iret (pc := 85) E hr dX1_takeNumber_85 ?_
      exact ⟨hv1 (by omega), hA⟩
  refine g_iconst (pc := 0) E dX1_takeNumber_0 rfl ?_
  refine g_istore_n (pc := 1) E dX1_takeNumber_1 (i := 1) (ls' := [_, _, _]) rfl (Nat.le_of_ble_eq_true rfl) rfl ?_
  refine g_iconst (pc := 2) E dX1_takeNumber_2 rfl ?_
  refine g_istore_n (pc := 3) E dX1_takeNumber_3 (i := 2) (ls' := [_, _, _]) rfl (Nat.le_of_ble_eq_true rfl) rfl ?_
  have LP4 : ∀ (n : Nat) (N : Mem) (x v b : Int), 3 - x < (n : Int) → 0 ≤ x → x ≤ 3 → a ≤ b → b ≤ tn → P6 M N b → nmV X tn (3 - x).toNat v b = nmV X tn 3 0 a → nmA X tn (3 - x).toNat b = nmA X tn 3 a → (0 < x → dgS X tn a) → (x = 0 → b = a) → G cx Pg Lc Ev (rmD 5 0 0) s m args below meth c (MQ below (QI cx (fun rz M' => nuV X tn a = rz ∧ P6 M M' (nuA X tn a))) args s 0 0 (cA0 cx)) 4 [some (rf cx 176), some (.int (oi v)), some (.int (oi x))] [] (N) 0 0 := by
    intro n
    induction n with
    | zero => intro N x v b hn hx0 hx1 hb0 hb1 hA hnv hna hd1 hd0; exact absurd hn (by omega)
    | succ n ih4 =>
      intro N x v b hn hx0 hx1 hb0 hb1 hA hnv hna hd1 hd0
      have h5 := hA.t5 h5M
      have h5n := h5.1
      have e6 := hA.1
      refine g_iload_n (pc := 4) E dX1_takeNumber_4 (i := 2) rfl rfl ?_
      refine g_iconst (pc := 5) E dX1_takeNumber_5 rfl ?_
      refine g_icmp_ge (pc := 6) (tgt := 76) E dX1_takeNumber_6 (by decide) (fun qh6 => ?_) (fun qh6 => ?_) 
      · exact g_wk2 (JP76 N v x (by omega) (by omega) (by rw [show (3 - x).toNat = 0 by omega] at hna; have hb : b = nuA X tn a := hna; exact hb ▸ hA) (fun q => by rw [show (3 - x).toNat = 0 by omega] at hnv; rw [nuV, if_pos (hd1 q), ← hnv]; rfl) (fun q => absurd q (by omega))) ⟨rfl, rfl, rfl, trivial⟩
      · refine g_aload_n (pc := 9) E dX1_takeNumber_9 (i := 0) rfl rfl ?_
        refine g_geti (i := 176) (t := 1) (f := 6) (fz := 6) (pc := 10) E dX1_takeNumber_10 fl_X1_36 rfl (by decide) (by decide) rfl rfl e6 (fun _ _ => ?_)
        refine g_aload_n (pc := 13) E dX1_takeNumber_13 (i := 0) rfl rfl ?_
        refine g_getr (i := 176) (j := 177) (t := 1) (f := 0) (pc := 14) E dX1_takeNumber_14 fl_X1_12 rfl (by decide) (by decide) rfl rfl ?_
        refine g_sbLen (pc := 17) (i := 177) (Or.inl rfl) E dX1_takeNumber_17 ml_X1_47 (by decide) rfl (Nat.le_of_ble_eq_true rfl) (by decide) (fun hza17 hzb17 => ?_)
        refine g_top h5n ?_
        refine g_icmp_ge (pc := 20) (tgt := 76) E dX1_takeNumber_20 (by decide) (fun qh20 => ?_) (fun qh20 => ?_) 
        · have hz : hereS X tn b = 0 := if_neg (by omega)
          have hno : ¬ dgS X tn b := by unfold dgS; omega
          exact g_wk2 (JP76 N v x (by omega) (by omega) (nuA_stop (by omega) hno hna hA) (fun q => nuV_stop (by omega) hno (hd1 q) hnv) (fun q => if_neg (hd0 q ▸ hno))) ⟨rfl, rfl, rfl, trivial⟩
        · have hin := here_in (X := X) (n := tn) (a := b) (by omega)
          have hXb := hT.2.2 b (by omega) (by omega)
          refine g_aload_n (pc := 23) E dX1_takeNumber_23 (i := 0) rfl rfl ?_
          refine g_getr (i := 176) (j := 177) (t := 1) (f := 0) (pc := 24) E dX1_takeNumber_24 fl_X1_12 rfl (by decide) (by decide) rfl rfl ?_
          refine g_aload_n (pc := 27) E dX1_takeNumber_27 (i := 0) rfl rfl ?_
          refine g_geti (i := 176) (t := 1) (f := 6) (fz := 6) (pc := 28) E dX1_takeNumber_28 fl_X1_36 rfl (by decide) (by decide) rfl rfl e6 (fun _ _ => ?_)
          refine g_sbChar (pc := 31) (i := 177) (x := b) (Or.inl rfl) (by omega) (by omega) E dX1_takeNumber_31 ml_X1_51 (by decide) rfl (Nat.le_of_ble_eq_true rfl) (by decide) (fun hca31 hcb31 => ?_)
          refine g_top (h5.2 b (by omega) (by omega)) ?_
          have hcc := h5.2 b (by omega) (by omega)
          refine g_callS (pc := 34) (As := [_]) E dX1_takeNumber_34 ml_X1_70 (ct5_isDigit (by omega) (by omega)) rfl rfl (by decide) (by decide) rfl (Nat.le_of_ble_eq_true rfl) (by decide) (fun x34 M34 hM34 => ?_)
          obtain ⟨rfl, rfl⟩ := hM34
          refine g_if_eq (pc := 37) (tgt := 76) E dX1_takeNumber_37 (by decide) (fun qh37 => ?_) (fun qh37 => ?_) (Int.le_trans (by decide) (bi_R _).1) (Int.le_trans (bi_R _).2 (by decide))
          · replace qh37 := bi_0.mp qh37
            have hno : ¬ dgS X tn b := by unfold dgS; omega
            exact g_wk2 (JP76 N v x (by omega) (by omega) (nuA_stop (by omega) hno hna hA) (fun q => nuV_stop (by omega) hno (hd1 q) hnv) (fun q => if_neg (hd0 q ▸ hno))) ⟨rfl, rfl, rfl, trivial⟩
          · replace qh37 := bi_n.mp qh37
            have hdg : dgS X tn b := by unfold dgS; omega
            refine g_bipush (pc := 40) E dX1_takeNumber_40 rfl ?_
            refine g_iload_n (pc := 42) E dX1_takeNumber_42 (i := 1) rfl rfl ?_
            refine g_imul (pc := 43) E dX1_takeNumber_43 ?_
            refine g_aload_n (pc := 44) E dX1_takeNumber_44 (i := 0) rfl rfl ?_
            refine g_getr (i := 176) (j := 177) (t := 1) (f := 0) (pc := 45) E dX1_takeNumber_45 fl_X1_12 rfl (by decide) (by decide) rfl rfl ?_
            refine g_aload_n (pc := 48) E dX1_takeNumber_48 (i := 0) rfl rfl ?_
            refine g_geti (i := 176) (t := 1) (f := 6) (fz := 6) (pc := 49) E dX1_takeNumber_49 fl_X1_36 rfl (by decide) (by decide) rfl rfl e6 (fun _ _ => ?_)
            refine g_sbChar (pc := 52) (i := 177) (x := b) (Or.inl rfl) (by omega) (by omega) E dX1_takeNumber_52 ml_X1_51 (by decide) rfl (Nat.le_of_ble_eq_true rfl) (by decide) (fun hca52 hcb52 => ?_)
            refine g_top (h5.2 b (by omega) (by omega)) ?_
            refine g_iadd (pc := 55) E dX1_takeNumber_55 ?_
            refine g_bipush (pc := 56) E dX1_takeNumber_56 rfl ?_
            refine g_isub (pc := 58) E dX1_takeNumber_58 ?_
            refine g_istore_n (pc := 59) E dX1_takeNumber_59 (i := 1) (ls' := [_, _, _]) rfl (Nat.le_of_ble_eq_true rfl) rfl ?_
            refine g_aload_n (pc := 60) E dX1_takeNumber_60 (i := 0) rfl rfl ?_
            refine g_dup (pc := 61) E dX1_takeNumber_61 rfl ?_
            refine g_geti (i := 176) (t := 1) (f := 6) (fz := 6) (pc := 62) E dX1_takeNumber_62 fl_X1_36 rfl (by decide) (by decide) rfl rfl e6 (fun _ _ => ?_)
            refine g_iconst (pc := 65) E dX1_takeNumber_65 rfl ?_
            refine g_iadd (pc := 66) E dX1_takeNumber_66 ?_
            refine g_puti (i := 176) (t := 1) (f := 6) (fz := 6) (pc := 67) E dX1_takeNumber_67 fl_X1_36 rfl (by decide) (by decide) rfl rfl ?_ 
            refine g_iinc (pc := 70) E dX1_takeNumber_70 (ls' := [_, _, _]) rfl rfl rfl ?_
            refine g_goto (pc := 73) (tgt := 4) E dX1_takeNumber_73 (by decide) ?_
            exact g_wk2 (ih4 (st N 176 6 (b + 1)) (x + 1) (10 * v + X b - 48) (b + 1) (by omega) (by omega) (by omega) (by omega) (by omega) (hA.st _) (by rw [← hnv, show (3 - x).toNat = (3 - (x + 1)).toNat + 1 by omega, nmV_y hdg]) (by rw [← hna, show (3 - x).toNat = (3 - (x + 1)).toNat + 1 by omega, nmA_y hdg]) (fun _ => by by_cases q : x = 0; exact hd0 q ▸ hdg; exact hd1 (by omega)) (fun q => absurd q (by omega))) ⟨rfl, rfl, rfl, trivial⟩
  exact g_wk2 (LP4 4 M 0 0 a (by omega) (by omega) (by omega) (by omega) (by omega) (P6.rf e6) rfl rfl (fun q => absurd q (by omega)) (fun _ => rfl)) ⟨rfl, rfl, rfl, trivial⟩

/-- reading entry c changes its places, and the place in the text -/
def FX (c : Int) (M N : Mem) : Prop := (∀ i, i ≠ 176 → i ≠ 178 → i ≠ 179 → i ≠ 180 → i ≠ 181 → N i = M i) ∧ (∀ x, x ≠ c → N 178 x = M 178 x ∧ N 179 x = M 179 x ∧ N 180 x = M 180 x ∧ N 181 x = M 181 x) ∧ N 176 5 = M 176 5
theorem FX.rf (c : Int) (M : Mem) : FX c M M := ⟨fun _ _ _ _ _ _ => rfl, fun _ _ => ⟨rfl, rfl, rfl, rfl⟩, rfl⟩
theorem FX.p6 {c e : Int} {M N O : Mem} (h : FX c M N) (g : P6 N O e) : FX c M O := ⟨fun i a b d f k => (g.2.1 i a).trans (h.1 i a b d f k), fun x hx => by rw [g.2.1 178 (by decide), g.2.1 179 (by decide), g.2.1 180 (by decide), g.2.1 181 (by decide)]; exact h.2.1 x hx, (g.2.2 5 (by decide)).trans h.2.2⟩
theorem FX.st {c v : Int} {M N : Mem} {i : Nat} (h : FX c M N) (hi : i = 178 ∨ i = 179 ∨ i = 180 ∨ i = 181) : FX c M (st N i c v) := by
  refine ⟨fun j a b d f k => ?_, fun x hx => ?_, ?_⟩
  · rw [st_ne (by omega)]; exact h.1 j a b d f k
  · have := h.2.1 x hx
    rcases hi with rfl | rfl | rfl | rfl
    · rw [st_off hx, st_ne (by decide), st_ne (by decide), st_ne (by decide)]; exact this
    · rw [st_off hx, st_ne (by decide), st_ne (by decide), st_ne (by decide)]; exact this
    · rw [st_off hx, st_ne (by decide), st_ne (by decide), st_ne (by decide)]; exact this
    · rw [st_off hx, st_ne (by decide), st_ne (by decide), st_ne (by decide)]; exact this
  · rw [st_ne (by omega)]; exact h.2.2
theorem FX.t5 {c n : Int} {M N : Mem} {X : Int → Int} (h : FX c M N) (e : T5 M X n) : T5 N X n := e.congr (h.1 177 (by decide) (by decide) (by decide) (by decide) (by decide))
theorem P6_of {M : Mem} (e : Int) : P6 M (st M 176 6 e) e := (P6.rf rfl).st e

/-- the mark of an entry -/
def MKP (X : Int → Int) (tn a c dz : Int) (M : Mem) (rz : Int) (N : Mem) : Prop := FX c M N ∧ (∀ i, i ≠ 176 → i ≠ 181 → N i = M i) ∧ (dz = 0 → rz = 1 ∧ N 176 6 = a ∧ N 181 c = 0) ∧ (dz = 1 → hereS X tn a = 61 → rz = bi (0 ≤ nuV X tn (a + 1)) ∧ N 176 6 = nuA X tn (a + 1) ∧ N 181 c = nuV X tn (a + 1)) ∧ (dz = 1 → ¬ hereS X tn a = 61 → rz = 0 ∧ N 176 6 = a)
theorem ct5_takesMark {cx : Cx} {M : Mem} {X : Int → Int} {tn a : Int} (h5 : T5 M X tn) (e6 : M 176 6 = a) (hT : TX X tn) (ha0 : 0 ≤ a) (ha1 : a ≤ tn) {ci : Int} (ec : M 176 5 = ci) (hc0 : 0 ≤ ci) (hc1 : ci < 20) {dz : Int} (hdz : dz = 0 ∨ dz = 1) : Ct cx yX1_takesMark cX1_takesMark 2 (some .boolean) 6 0 0 [rf cx 176, .int (oi dz)] M (fun rz M' => MKP X tn a ci dz M rz M') := by
  refine ct_intro cd_X1_takesMark (by decide +kernel) (Nat.le_of_ble_eq_true rfl) rfl (fun Pg Lc Ev s m args below meth c E hr => ?_)
  refine g_ent (ls' := [some (rf cx 176), some (.int (oi dz))]) rfl ?_
  have hT0 := hT.1
  have hT1 := hT.2.1
  have h5n := h5.1
  have vs := nuV_R X tn (a + 1)
  have F1 : FX ci M (st M 181 ci 0) := (FX.rf ci M).st (by decide)
  have O1 : ∀ i, i ≠ 176 → i ≠ 181 → st M 181 ci 0 i = M i := fun i _ h => st_ne h
  have p1 : st M 181 ci 0 176 6 = a := by rw [st_ne (by decide)]; exact e6
  refine g_aload_n (pc := 0) E dX1_takesMark_0 (i := 0) rfl rfl ?_
  refine g_getr (i := 176) (j := 181) (t := 1) (f := 4) (pc := 1) E dX1_takesMark_1 fl_X1_29 rfl (by decide) (by decide) rfl rfl ?_
  refine g_aload_n (pc := 4) E dX1_takesMark_4 (i := 0) rfl rfl ?_
  refine g_geti (i := 176) (t := 1) (f := 5) (fz := 5) (pc := 5) E dX1_takesMark_5 fl_X1_32 rfl (by decide) (by decide) rfl rfl ec (fun _ _ => ?_)
  refine g_iconst (pc := 8) E dX1_takesMark_8 rfl ?_
  refine g_iast (pc := 9) E dX1_takesMark_9 rfl (by omega) (by omega) ?_ 
  refine g_iload_n (pc := 10) E dX1_takesMark_10 (i := 1) rfl rfl ?_
  refine g_if_ne (pc := 11) (tgt := 16) E dX1_takesMark_11 (by decide) (fun qh11 => ?_) (fun qh11 => ?_) 
  · refine g_aload_n (pc := 16) E dX1_takesMark_16 (i := 0) rfl rfl ?_
    refine g_bipush (pc := 17) E dX1_takesMark_17 rfl ?_
    refine g_callV (pc := 19) (As := [_]) E dX1_takesMark_19 ml_X1_43 (ct5_takes (F1.t5 h5) p1 hT (by omega) (by omega) (v := 61) (by omega)) rfl rfl rfl rfl (by decide) (by decide) rfl (Nat.le_of_ble_eq_true rfl) (by decide) (fun x19 M19 hM19 => ?_)
    obtain ⟨rfl, rfl⟩ := hM19
    refine g_if_ne (pc := 22) (tgt := 27) E dX1_takesMark_22 (by decide) (fun qh22 => ?_) (fun qh22 => ?_) (Int.le_trans (by decide) (bi_R _).1) (Int.le_trans (bi_R _).2 (by decide))
    · replace qh22 := bi_n.mp qh22
      refine g_mem (if_pos qh22) ?_
      have hlt := here_lt (X := X) (n := tn) (a := a) (by omega)
      have P61 : P6 (st M 181 ci 0) (st (st M 181 ci 0) 176 6 (a + 1)) (a + 1) := P6_of _
      refine g_aload_n (pc := 27) E dX1_takesMark_27 (i := 0) rfl rfl ?_
      refine g_getr (i := 176) (j := 181) (t := 1) (f := 4) (pc := 28) E dX1_takesMark_28 fl_X1_29 rfl (by decide) (by decide) rfl rfl ?_
      refine g_aload_n (pc := 31) E dX1_takesMark_31 (i := 0) rfl rfl ?_
      refine g_geti (i := 176) (t := 1) (f := 5) (fz := 5) (pc := 32) E dX1_takesMark_32 fl_X1_32 rfl (by decide) (by decide) rfl rfl (v := ci) (by rw [st_off (by decide), st_ne (by decide)]; exact ec) (fun _ _ => ?_)
      refine g_aload_n (pc := 35) E dX1_takesMark_35 (i := 0) rfl rfl ?_
      refine g_callV (pc := 36) (As := []) E dX1_takesMark_36 ml_X1_63 (ct5_number (a := a + 1) (P61.t5 (F1.t5 h5)) P61.1 hT (by omega) (by omega)) rfl rfl rfl rfl (by decide) (by decide) rfl (Nat.le_of_ble_eq_true rfl) (by decide) (fun x36 M36 hM36 => ?_)
      obtain ⟨rfl, A36⟩ := hM36
      have c36 : M36 176 5 = ci := by rw [A36.2.2 5 (by decide), st_off (by decide), st_ne (by decide)]; exact ec
      have F2 := ((F1.p6 P61).p6 A36).st (i := 181) (v := nuV X tn (a + 1)) (by decide)
      refine g_iast (pc := 39) E dX1_takesMark_39 rfl (by omega) (by omega) ?_ 
      refine g_aload_n (pc := 40) E dX1_takesMark_40 (i := 0) rfl rfl ?_
      refine g_getr (i := 176) (j := 181) (t := 1) (f := 4) (pc := 41) E dX1_takesMark_41 fl_X1_29 rfl (by decide) (by decide) rfl rfl ?_
      refine g_aload_n (pc := 44) E dX1_takesMark_44 (i := 0) rfl rfl ?_
      refine g_geti (i := 176) (t := 1) (f := 5) (fz := 5) (pc := 45) E dX1_takesMark_45 fl_X1_32 rfl (by decide) (by decide) rfl rfl (v := ci) (by simp [st]; exact c36) (fun _ _ => ?_)
      refine g_iald (pc := 48) E dX1_takesMark_48 rfl (by omega) (by omega) (v := nuV X tn (a + 1)) (by simp [st]) (fun _ _ => ?_)
      refine g_iconst (pc := 49) E dX1_takesMark_49 rfl ?_
      refine g_icmp_eq (pc := 50) (tgt := 57) E dX1_takesMark_50 (by decide) (fun qh50 => ?_) (fun qh50 => ?_) 
      · refine g_iconst (pc := 57) E dX1_takesMark_57 rfl ?_
        refine g_zret (pc := 58) E hr dX1_takesMark_58 (by first | exact Or.inl rfl | exact Or.inr rfl | exact bi_in _ | omega) ?_
        exact ⟨F2, fun i h1 h2 => by rw [st_ne h2, A36.2.1 i h1, st_ne h1, st_ne h2], fun q => absurd q (by omega), fun _ _ => ⟨(bi_f (by omega)).symm, by rw [st_ne (by decide)]; exact A36.1, st_self _ _ _ _⟩, fun _ q => absurd qh22 q⟩
      · refine g_iconst (pc := 53) E dX1_takesMark_53 rfl ?_
        refine g_goto (pc := 54) (tgt := 58) E dX1_takesMark_54 (by decide) ?_
        refine g_zret (pc := 58) E hr dX1_takesMark_58 (by first | exact Or.inl rfl | exact Or.inr rfl | exact bi_in _ | omega) ?_
        exact ⟨F2, fun i h1 h2 => by rw [st_ne h2, A36.2.1 i h1, st_ne h1, st_ne h2], fun q => absurd q (by omega), fun _ _ => ⟨(bi_t (by omega)).symm, by rw [st_ne (by decide)]; exact A36.1, st_self _ _ _ _⟩, fun _ q => absurd qh22 q⟩
    · replace qh22 := bi_0.mp qh22
      refine g_mem (if_neg qh22) ?_
      refine g_iconst (pc := 25) E dX1_takesMark_25 rfl ?_
      refine g_zret (pc := 26) E hr dX1_takesMark_26 (by first | exact Or.inl rfl | exact Or.inr rfl | exact bi_in _ | omega) ?_
      exact ⟨F1, O1, fun q => absurd q (by omega), fun _ q => absurd q qh22, fun _ _ => ⟨rfl, p1⟩⟩
  · refine g_iconst (pc := 14) E dX1_takesMark_14 rfl ?_
    refine g_zret (pc := 15) E hr dX1_takesMark_15 (by first | exact Or.inl rfl | exact Or.inr rfl | exact bi_in _ | omega) ?_
    exact ⟨F1, O1, fun _ => ⟨rfl, p1, st_self _ _ _ _⟩, fun q => absurd q (by omega), fun q => absurd q (by omega)⟩

/-- an entry is read -/
def TEP (X : Int → Int) (tn a c : Int) (M : Mem) (rz : Int) (N : Mem) : Prop := FX c M N ∧ N 176 6 = eE X tn a ∧ (rz = 0 ∨ rz = 1) ∧ (eOK X tn a → rz = 1 ∧ N 178 c = hereS X tn a ∧ N 179 c = eSt X tn a ∧ N 180 c = ePa X tn a ∧ N 181 c = eRw X tn a) ∧ (¬ eOK X tn a → rz = 0)
theorem MKP.te {X : Int → Int} {tn a c dz rz : Int} {M N O : Mem} (hdz : (mrS (hereS X tn a) ∧ dz = 1) ∨ (¬ mrS (hereS X tn a) ∧ dz = 0)) (hk : kdS (hereS X tn a)) (h2 : 0 ≤ eSt X tn a ∧ hereS X tn (eA2 X tn a) = 46) (h3 : 0 ≤ ePa X tn a) (hF : FX c M N) (k1 : N 178 c = hereS X tn a) (k2 : N 179 c = eSt X tn a) (k3 : N 180 c = ePa X tn a) (h : MKP X tn (eA4 X tn a) c dz N rz O) : TEP X tn a c M rz O := by
  obtain ⟨g1, g2, g3, g4, g5⟩ := h
  have hFO : FX c M O := ⟨fun i a b d f k => (g1.1 i a b d f k).trans (hF.1 i a b d f k), fun x hx => by
    have q1 := g1.2.1 x hx
    have q2 := hF.2.1 x hx
    exact ⟨q1.1.trans q2.1, q1.2.1.trans q2.2.1, q1.2.2.1.trans q2.2.2.1, q1.2.2.2.trans q2.2.2.2⟩, g1.2.2.trans hF.2.2⟩
  have r1 : O 178 c = hereS X tn a := by rw [g2 178 (by decide) (by decide)]; exact k1
  have r2 : O 179 c = eSt X tn a := by rw [g2 179 (by decide) (by decide)]; exact k2
  have r3 : O 180 c = ePa X tn a := by rw [g2 180 (by decide) (by decide)]; exact k3
  rcases hdz with ⟨q, qd⟩ | ⟨q, qd⟩
  · by_cases q6 : hereS X tn (eA4 X tn a) = 61
    · obtain ⟨w1, w2, w3⟩ := g4 qd q6
      have er := eRw_y q
      refine ⟨hFO, w2.trans (eE_5 hk h2 h3 ⟨q, q6⟩).symm, by rw [w1]; exact bi_in _, fun ho => ⟨by rw [w1, ← er]; exact bi_t (ho.2.2.2.2 q).2, r1, r2, r3, w3.trans er.symm⟩, fun ho => ?_⟩
      rw [w1, ← er]
      exact bi_f (fun z => ho ⟨hk, h2.1, h2.2, h3, fun _ => ⟨q6, z⟩⟩)
    · obtain ⟨w1, w2⟩ := g5 qd q6
      exact ⟨hFO, w2.trans (eE_4n hk h2 h3 (fun z => q6 z.2)).symm, Or.inl w1, fun ho => absurd (ho.2.2.2.2 q).1 q6, fun _ => w1⟩
  · obtain ⟨w1, w2, w3⟩ := g3 qd
    exact ⟨hFO, w2.trans (eE_4n hk h2 h3 (fun z => q z.1)).symm, Or.inr w1, fun _ => ⟨w1, r1, r2, r3, w3.trans (eRw_n q).symm⟩, fun ho => absurd ⟨hk, h2.1, h2.2, h3, fun z => absurd z q⟩ ho⟩
theorem ct5_entry {cx : Cx} {M : Mem} {X : Int → Int} {tn a : Int} (h5 : T5 M X tn) (e6 : M 176 6 = a) (hT : TX X tn) (ha0 : 0 ≤ a) (ha1 : a ≤ tn) {ci : Int} (ec : M 176 5 = ci) (hc0 : 0 ≤ ci) (hc1 : ci < 20) : Ct cx yX1_takesEntry cX1_takesEntry 2 (some .boolean) 7 0 0 [rf cx 176] M (fun rz M' => TEP X tn a ci M rz M') := by
  refine ct_intro cd_X1_takesEntry (by decide +kernel) (Nat.le_of_ble_eq_true rfl) rfl (fun Pg Lc Ev s m args below meth c E hr => ?_)
  refine g_ent (ls' := [some (rf cx 176), none]) rfl ?_
  have hT0 := hT.1
  have hT1 := hT.2.1
  have h5n := h5.1
  have hh := here_R hT ha0
  have es : eSt X tn a = nuV X tn (a + 1) := rfl
  have ep1 : ePa X tn a = nuV X tn (eA2 X tn a + 1) := rfl
  have e2 : eA2 X tn a = nuA X tn (a + 1) := rfl
  have e4 : eA4 X tn a = nuA X tn (eA2 X tn a + 1) := rfl
  have vs := nuV_R X tn (a + 1)
  have vp := nuV_R X tn (eA2 X tn a + 1)
  have JP142 : ∀ (N : Mem) (dz : Int), ((mrS (hereS X tn a) ∧ dz = 1) ∨ (¬ mrS (hereS X tn a) ∧ dz = 0)) → kdS (hereS X tn a) → (0 ≤ eSt X tn a ∧ hereS X tn (eA2 X tn a) = 46) → 0 ≤ ePa X tn a → FX ci M N → N 178 ci = hereS X tn a → N 179 ci = eSt X tn a → N 180 ci = ePa X tn a → N 176 6 = eA4 X tn a → 0 ≤ eA4 X tn a → eA4 X tn a ≤ tn → G cx Pg Lc Ev (rmD 7 0 0) s m args below meth c (MQ below (QI cx (fun rz M' => TEP X tn a ci M rz M')) args s 0 0 (cA0 cx)) 142 [some (rf cx 176), some (.int (oi (X a)))] [.int (oi dz), rf cx 176] (N) 0 0 := by
    intro N dz hdz hkd h2 h3 hF k1 k2 k3 k6 r0 r1
    refine g_callV (pc := 142) (As := [_]) E dX1_takesEntry_142 ml_X1_66 (ct5_takesMark (a := eA4 X tn a) (ci := ci) (hF.t5 h5) k6 hT r0 r1 (hF.2.2.trans ec) hc0 hc1 (dz := dz) (by omega)) rfl rfl rfl rfl (by decide) (by decide) rfl (Nat.le_of_ble_eq_true rfl) (by decide) (fun x142 M142 hM142 => ?_)
    have hte := MKP.te hdz hkd h2 h3 hF k1 k2 k3 hM142
    refine g_zret (pc := 145) E hr dX1_takesEntry_145 hte.2.2.1 ?_
    exact hte
  refine g_aload_n (pc := 0) E dX1_takesEntry_0 (i := 0) rfl rfl ?_
  refine g_geti (i := 176) (t := 1) (f := 6) (fz := 6) (pc := 1) E dX1_takesEntry_1 fl_X1_36 rfl (by decide) (by decide) rfl rfl e6 (fun _ _ => ?_)
  refine g_aload_n (pc := 4) E dX1_takesEntry_4 (i := 0) rfl rfl ?_
  refine g_getr (i := 176) (j := 177) (t := 1) (f := 0) (pc := 5) E dX1_takesEntry_5 fl_X1_12 rfl (by decide) (by decide) rfl rfl ?_
  refine g_sbLen (pc := 8) (i := 177) (Or.inl rfl) E dX1_takesEntry_8 ml_X1_47 (by decide) rfl (Nat.le_of_ble_eq_true rfl) (by decide) (fun hza8 hzb8 => ?_)
  refine g_top h5n ?_
  refine g_icmp_lt (pc := 11) (tgt := 16) E dX1_takesEntry_11 (by decide) (fun qh11 => ?_) (fun qh11 => ?_) 
  · have hin := here_in (X := X) (n := tn) (a := a) (by omega)
    have hXa := hT.2.2 a ha0 (by omega)
    refine g_aload_n (pc := 16) E dX1_takesEntry_16 (i := 0) rfl rfl ?_
    refine g_getr (i := 176) (j := 177) (t := 1) (f := 0) (pc := 17) E dX1_takesEntry_17 fl_X1_12 rfl (by decide) (by decide) rfl rfl ?_
    refine g_aload_n (pc := 20) E dX1_takesEntry_20 (i := 0) rfl rfl ?_
    refine g_geti (i := 176) (t := 1) (f := 6) (fz := 6) (pc := 21) E dX1_takesEntry_21 fl_X1_36 rfl (by decide) (by decide) rfl rfl e6 (fun _ _ => ?_)
    refine g_sbChar (pc := 24) (i := 177) (x := a) (Or.inl rfl) ha0 (by omega) E dX1_takesEntry_24 ml_X1_51 (by decide) rfl (Nat.le_of_ble_eq_true rfl) (by decide) (fun hca24 hcb24 => ?_)
    refine g_top (h5.2 a ha0 (by omega)) ?_
    refine g_istore_n (pc := 27) E dX1_takesEntry_27 (i := 1) (ls' := [_, _]) rfl (Nat.le_of_ble_eq_true rfl) rfl ?_
    refine g_ldS (pc := 28) E rfl dX1_takesEntry_28 (fun adK adV hV => ?_)
    refine g_iload_n (pc := 30) E dX1_takesEntry_30 (i := 1) rfl rfl ?_
    refine g_callSv0 (pc := 31) (As := [_]) E hV dX1_takesEntry_31 ml_X1_57 rfl (cs_indexOf1 (v := X a) (by omega) (by omega)) rfl rfl (by decide) (Nat.le_of_ble_eq_true rfl) rfl (Nat.le_of_ble_eq_true rfl) (by decide) (fun x31 hx31 => ?_)
    obtain ⟨hxa, hxb, hxk⟩ := hx31
    refine g_if_ge (pc := 34) (tgt := 39) E dX1_takesEntry_34 (by decide) (fun qh34 => ?_) (fun qh34 => ?_) 
    · have hkd : kdS (hereS X tn a) := by rw [hin]; exact hxk.mp (by omega)
      have r2 := nuA_R (X := X) (n := tn) (a := a + 1) (by omega)
      have F2 : FX ci M (st (st M 176 6 (a + 1)) 178 ci (X a)) := ((FX.rf ci M).p6 (P6_of (a + 1))).st (by decide)
      have p2 : (st (st M 176 6 (a + 1)) 178 ci (X a)) 176 6 = a + 1 := by rw [st_ne (by decide)]; exact st_self _ _ _ _
      refine g_aload_n (pc := 39) E dX1_takesEntry_39 (i := 0) rfl rfl ?_
      refine g_dup (pc := 40) E dX1_takesEntry_40 rfl ?_
      refine g_geti (i := 176) (t := 1) (f := 6) (fz := 6) (pc := 41) E dX1_takesEntry_41 fl_X1_36 rfl (by decide) (by decide) rfl rfl e6 (fun _ _ => ?_)
      refine g_iconst (pc := 44) E dX1_takesEntry_44 rfl ?_
      refine g_iadd (pc := 45) E dX1_takesEntry_45 ?_
      refine g_puti (i := 176) (t := 1) (f := 6) (fz := 6) (pc := 46) E dX1_takesEntry_46 fl_X1_36 rfl (by decide) (by decide) rfl rfl ?_ 
      refine g_aload_n (pc := 49) E dX1_takesEntry_49 (i := 0) rfl rfl ?_
      refine g_getr (i := 176) (j := 178) (t := 1) (f := 1) (pc := 50) E dX1_takesEntry_50 fl_X1_18 rfl (by decide) (by decide) rfl rfl ?_
      refine g_aload_n (pc := 53) E dX1_takesEntry_53 (i := 0) rfl rfl ?_
      refine g_geti (i := 176) (t := 1) (f := 5) (fz := 5) (pc := 54) E dX1_takesEntry_54 fl_X1_32 rfl (by decide) (by decide) rfl rfl (v := ci) (by simp [st]; exact ec) (fun _ _ => ?_)
      refine g_iload_n (pc := 57) E dX1_takesEntry_57 (i := 1) rfl rfl ?_
      refine g_cast (pc := 58) E dX1_takesEntry_58 rfl (by omega) (by omega) (by omega) (by omega) ?_
      refine g_aload_n (pc := 59) E dX1_takesEntry_59 (i := 0) rfl rfl ?_
      refine g_getr (i := 176) (j := 179) (t := 1) (f := 2) (pc := 60) E dX1_takesEntry_60 fl_X1_22 rfl (by decide) (by decide) rfl rfl ?_
      refine g_aload_n (pc := 63) E dX1_takesEntry_63 (i := 0) rfl rfl ?_
      refine g_geti (i := 176) (t := 1) (f := 5) (fz := 5) (pc := 64) E dX1_takesEntry_64 fl_X1_32 rfl (by decide) (by decide) rfl rfl (v := ci) (by simp [st]; exact ec) (fun _ _ => ?_)
      refine g_aload_n (pc := 67) E dX1_takesEntry_67 (i := 0) rfl rfl ?_
      refine g_callV (pc := 68) (As := []) E dX1_takesEntry_68 ml_X1_63 (ct5_number (a := a + 1) (F2.t5 h5) p2 hT (by omega) (by omega)) rfl rfl rfl rfl (by decide) (by decide) rfl (Nat.le_of_ble_eq_true rfl) (by decide) (fun x68 M68 hM68 => ?_)
      obtain ⟨rfl, A68⟩ := hM68
      have c68 : M68 176 5 = ci := by rw [A68.2.2 5 (by decide)]; exact F2.2.2.trans ec
      have F3 : FX ci M (st M68 179 ci (nuV X tn (a + 1))) := (F2.p6 A68).st (by decide)
      have p3 : st M68 179 ci (nuV X tn (a + 1)) 176 6 = eA2 X tn a := by rw [st_ne (by decide)]; exact A68.1
      have k178 : M68 178 ci = X a := by rw [A68.2.1 178 (by decide)]; exact st_self _ _ _ _
      refine g_iast (pc := 71) E dX1_takesEntry_71 rfl (by omega) (by omega) ?_ 
      refine g_aload_n (pc := 72) E dX1_takesEntry_72 (i := 0) rfl rfl ?_
      refine g_getr (i := 176) (j := 179) (t := 1) (f := 2) (pc := 73) E dX1_takesEntry_73 fl_X1_22 rfl (by decide) (by decide) rfl rfl ?_
      refine g_aload_n (pc := 76) E dX1_takesEntry_76 (i := 0) rfl rfl ?_
      refine g_geti (i := 176) (t := 1) (f := 5) (fz := 5) (pc := 77) E dX1_takesEntry_77 fl_X1_32 rfl (by decide) (by decide) rfl rfl (v := ci) (by simp [st]; exact c68) (fun _ _ => ?_)
      refine g_iald (pc := 80) E dX1_takesEntry_80 rfl (by omega) (by omega) (v := nuV X tn (a + 1)) (by simp [st]) (fun _ _ => ?_)
      refine g_iconst (pc := 81) E dX1_takesEntry_81 rfl ?_
      refine g_icmp_eq (pc := 82) (tgt := 94) E dX1_takesEntry_82 (by decide) (fun qh82 => ?_) (fun qh82 => ?_) 
      · refine g_iconst (pc := 94) E dX1_takesEntry_94 rfl ?_
        refine g_zret (pc := 95) E hr dX1_takesEntry_95 (by first | exact Or.inl rfl | exact Or.inr rfl | exact bi_in _ | omega) ?_
        have hn2 : ¬ (0 ≤ eSt X tn a ∧ hereS X tn (eA2 X tn a) = 46) := fun q => absurd q.1 (by omega)
        exact ⟨F3, by rw [eE_2 hkd hn2]; exact p3, Or.inl rfl, fun q => absurd ⟨q.2.1, q.2.2.1⟩ hn2, fun _ => rfl⟩
      · refine g_aload_n (pc := 85) E dX1_takesEntry_85 (i := 0) rfl rfl ?_
        refine g_bipush (pc := 86) E dX1_takesEntry_86 rfl ?_
        refine g_callV (pc := 88) (As := [_]) E dX1_takesEntry_88 ml_X1_43 (ct5_takes (a := eA2 X tn a) (F3.t5 h5) p3 hT (by omega) (by omega) (v := 46) (by omega)) rfl rfl rfl rfl (by decide) (by decide) rfl (Nat.le_of_ble_eq_true rfl) (by decide) (fun x88 M88 hM88 => ?_)
        obtain ⟨rfl, rfl⟩ := hM88
        refine g_if_ne (pc := 91) (tgt := 96) E dX1_takesEntry_91 (by decide) (fun qh91 => ?_) (fun qh91 => ?_) (Int.le_trans (by decide) (bi_R _).1) (Int.le_trans (bi_R _).2 (by decide))
        · replace qh91 := bi_n.mp qh91
          refine g_mem (if_pos qh91) ?_
          have h2 : 0 ≤ eSt X tn a ∧ hereS X tn (eA2 X tn a) = 46 := ⟨by omega, qh91⟩
          have hlt2 := here_lt (X := X) (n := tn) (a := eA2 X tn a) (by omega)
          have r4 := nuA_R (X := X) (n := tn) (a := eA2 X tn a + 1) (by omega)
          have F4 := F3.p6 (P6_of (eA2 X tn a + 1))
          have F4p : st (st M68 179 ci (nuV X tn (a + 1))) 176 6 (eA2 X tn a + 1) 176 6 = eA2 X tn a + 1 := st_self _ _ _ _
          refine g_aload_n (pc := 96) E dX1_takesEntry_96 (i := 0) rfl rfl ?_
          refine g_getr (i := 176) (j := 180) (t := 1) (f := 3) (pc := 97) E dX1_takesEntry_97 fl_X1_26 rfl (by decide) (by decide) rfl rfl ?_
          refine g_aload_n (pc := 100) E dX1_takesEntry_100 (i := 0) rfl rfl ?_
          refine g_geti (i := 176) (t := 1) (f := 5) (fz := 5) (pc := 101) E dX1_takesEntry_101 fl_X1_32 rfl (by decide) (by decide) rfl rfl (v := ci) (by simp [st]; exact c68) (fun _ _ => ?_)
          refine g_aload_n (pc := 104) E dX1_takesEntry_104 (i := 0) rfl rfl ?_
          refine g_callV (pc := 105) (As := []) E dX1_takesEntry_105 ml_X1_63 (ct5_number (a := eA2 X tn a + 1) (F4.t5 h5) F4p hT (by omega) (by omega)) rfl rfl rfl rfl (by decide) (by decide) rfl (Nat.le_of_ble_eq_true rfl) (by decide) (fun x105 M105 hM105 => ?_)
          obtain ⟨rfl, A105⟩ := hM105
          have c105 : M105 176 5 = ci := by rw [A105.2.2 5 (by decide)]; exact F4.2.2.trans ec
          have F5 : FX ci M (st M105 180 ci (nuV X tn (eA2 X tn a + 1))) := (F4.p6 A105).st (by decide)
          have p5 : st M105 180 ci (nuV X tn (eA2 X tn a + 1)) 176 6 = eA4 X tn a := by rw [st_ne (by decide)]; exact A105.1
          have k1 : st M105 180 ci (nuV X tn (eA2 X tn a + 1)) 178 ci = hereS X tn a := by rw [st_ne (by decide), A105.2.1 178 (by decide), st_ne (by decide), st_ne (by decide), k178, hin]
          have k2 : st M105 180 ci (nuV X tn (eA2 X tn a + 1)) 179 ci = eSt X tn a := by rw [st_ne (by decide), A105.2.1 179 (by decide), st_ne (by decide)]; exact st_self _ _ _ _
          have k3 : st M105 180 ci (nuV X tn (eA2 X tn a + 1)) 180 ci = ePa X tn a := st_self _ _ _ _
          refine g_iast (pc := 108) E dX1_takesEntry_108 rfl (by omega) (by omega) ?_ 
          refine g_aload_n (pc := 109) E dX1_takesEntry_109 (i := 0) rfl rfl ?_
          refine g_getr (i := 176) (j := 180) (t := 1) (f := 3) (pc := 110) E dX1_takesEntry_110 fl_X1_26 rfl (by decide) (by decide) rfl rfl ?_
          refine g_aload_n (pc := 113) E dX1_takesEntry_113 (i := 0) rfl rfl ?_
          refine g_geti (i := 176) (t := 1) (f := 5) (fz := 5) (pc := 114) E dX1_takesEntry_114 fl_X1_32 rfl (by decide) (by decide) rfl rfl (v := ci) (by simp [st]; exact c105) (fun _ _ => ?_)
          refine g_iald (pc := 117) E dX1_takesEntry_117 rfl (by omega) (by omega) (v := nuV X tn (eA2 X tn a + 1)) (by simp [st]) (fun _ _ => ?_)
          refine g_iconst (pc := 118) E dX1_takesEntry_118 rfl ?_
          refine g_icmp_ne (pc := 119) (tgt := 124) E dX1_takesEntry_119 (by decide) (fun qh119 => ?_) (fun qh119 => ?_) 
          · refine g_aload_n (pc := 124) E dX1_takesEntry_124 (i := 0) rfl rfl ?_
            refine g_iload_n (pc := 125) E dX1_takesEntry_125 (i := 1) rfl rfl ?_
            refine g_bipush (pc := 126) E dX1_takesEntry_126 rfl ?_
            refine g_icmp_eq (pc := 128) (tgt := 137) E dX1_takesEntry_128 (by decide) (fun qh128 => ?_) (fun qh128 => ?_) 
            · refine g_iconst (pc := 137) E dX1_takesEntry_137 rfl ?_
              refine g_goto (pc := 138) (tgt := 142) E dX1_takesEntry_138 (by decide) ?_
              exact g_wk2 (JP142 _ 1 (Or.inl ⟨by rw [hin]; unfold mrS; omega, rfl⟩) hkd h2 (by omega) F5 k1 k2 k3 p5 (by omega) (by omega)) ⟨rfl, rfl, trivial⟩
            · refine g_iload_n (pc := 131) E dX1_takesEntry_131 (i := 1) rfl rfl ?_
              refine g_bipush (pc := 132) E dX1_takesEntry_132 rfl ?_
              refine g_icmp_ne (pc := 134) (tgt := 141) E dX1_takesEntry_134 (by decide) (fun qh134 => ?_) (fun qh134 => ?_) 
              · refine g_iconst (pc := 141) E dX1_takesEntry_141 rfl ?_
                exact g_wk2 (JP142 _ 0 (Or.inr ⟨by rw [hin]; unfold mrS; omega, rfl⟩) hkd h2 (by omega) F5 k1 k2 k3 p5 (by omega) (by omega)) ⟨rfl, rfl, trivial⟩
              · refine g_iconst (pc := 137) E dX1_takesEntry_137 rfl ?_
                refine g_goto (pc := 138) (tgt := 142) E dX1_takesEntry_138 (by decide) ?_
                exact g_wk2 (JP142 _ 1 (Or.inl ⟨by rw [hin]; unfold mrS; omega, rfl⟩) hkd h2 (by omega) F5 k1 k2 k3 p5 (by omega) (by omega)) ⟨rfl, rfl, trivial⟩
          · refine g_iconst (pc := 122) E dX1_takesEntry_122 rfl ?_
            refine g_zret (pc := 123) E hr dX1_takesEntry_123 (by first | exact Or.inl rfl | exact Or.inr rfl | exact bi_in _ | omega) ?_
            have hn3 : ¬ 0 ≤ ePa X tn a := by omega
            exact ⟨F5, by rw [eE_3 hkd h2 hn3]; exact p5, Or.inl rfl, fun q => absurd q.2.2.2.1 hn3, fun _ => rfl⟩
        · replace qh91 := bi_0.mp qh91
          refine g_mem (if_neg qh91) ?_
          refine g_iconst (pc := 94) E dX1_takesEntry_94 rfl ?_
          refine g_zret (pc := 95) E hr dX1_takesEntry_95 (by first | exact Or.inl rfl | exact Or.inr rfl | exact bi_in _ | omega) ?_
          have hn2 : ¬ (0 ≤ eSt X tn a ∧ hereS X tn (eA2 X tn a) = 46) := fun q => qh91 q.2
          exact ⟨F3, by rw [eE_2 hkd hn2]; exact p3, Or.inl rfl, fun q => absurd ⟨q.2.1, q.2.2.1⟩ hn2, fun _ => rfl⟩
    · refine g_iconst (pc := 37) E dX1_takesEntry_37 rfl ?_
      refine g_zret (pc := 38) E hr dX1_takesEntry_38 (by first | exact Or.inl rfl | exact Or.inr rfl | exact bi_in _ | omega) ?_
      have hnk : ¬ kdS (hereS X tn a) := fun q => absurd (hxk.mpr (by rw [← hin]; exact q)) (by omega)
      exact ⟨FX.rf ci M, by rw [eE_1 hnk]; exact e6, Or.inl rfl, fun q => absurd q.1 hnk, fun _ => rfl⟩
  · refine g_iconst (pc := 14) E dX1_takesEntry_14 rfl ?_
    refine g_zret (pc := 15) E hr dX1_takesEntry_15 (by first | exact Or.inl rfl | exact Or.inr rfl | exact bi_in _ | omega) ?_
    have hz : hereS X tn a = 0 := if_neg (by omega)
    have hnk : ¬ kdS (hereS X tn a) := by rw [hz]; decide
    exact ⟨FX.rf ci M, by rw [eE_1 hnk]; exact e6, Or.inl rfl, fun q => absurd q.1 hnk, fun _ => rfl⟩

/-- c entries stand read -/
def EN5 (X : Int → Int) (tn : Int) (c : Nat) (N : Mem) : Prop := ∀ j : Nat, j < c → N 178 j = hereS X tn (ep X tn j) ∧ N 179 j = eSt X tn (ep X tn j) ∧ N 180 j = ePa X tn (ep X tn j) ∧ N 181 j = eRw X tn (ep X tn j)
def FP5 (M N : Mem) : Prop := ∀ i, i ≠ 176 → i ≠ 178 → i ≠ 179 → i ≠ 180 → i ≠ 181 → N i = M i
theorem EN5.s {X : Int → Int} {tn : Int} {c : Nat} {N O : Mem} {rz : Int} (h : EN5 X tn c N) (g : TEP X tn (ep X tn c) c N rz O) (ho : eOK X tn (ep X tn c)) : EN5 X tn (c + 1) O := by
  intro j hj
  obtain ⟨g1, g2, g3, g4, g5⟩ := g
  by_cases e : j = c
  · subst e
    exact (g4 ho).2
  · have q := g1.2.1 (j : Int) (by omega)
    have w := h j (by omega)
    exact ⟨q.1.trans w.1, q.2.1.trans w.2.1, q.2.2.1.trans w.2.2.1, q.2.2.2.trans w.2.2.2⟩
/-- a text is parsed: a fault's place, or -1 -/
def PAP (X : Int → Int) (tn : Int) (M : Mem) (rz : Int) (N : Mem) : Prop := FP5 M N ∧ ∃ c : Nat, CH X tn c ∧
  (((¬ eOK X tn (ep X tn c) ∨ (eOK X tn (ep X tn c) ∧ eE X tn (ep X tn c) < tn ∧ ¬ hereS X tn (eE X tn (ep X tn c)) = 59)) ∧ rz = eE X tn (ep X tn c)) ∨
   (eOK X tn (ep X tn c) ∧ tn ≤ eE X tn (ep X tn c) ∧ rz = -1 ∧ N 176 5 = c + 1 ∧ EN5 X tn (c + 1) N))
theorem ct5_parse {cx : Cx} {M : Mem} {X : Int → Int} {tn : Int} (h5 : T5 M X tn) (hT : TX X tn) : Ct cx yX1_parse cX1_parse 1 (some .int) 8 0 0 [rf cx 176] M (fun rz M' => PAP X tn M rz M' ∧ -1 ≤ rz ∧ rz ≤ 80) := by
  refine ct_intro cd_X1_parse (by decide +kernel) (Nat.le_of_ble_eq_true rfl) rfl (fun Pg Lc Ev s m args below meth c E hr => ?_)
  refine g_ent (ls' := [some (rf cx 176)]) rfl ?_
  have hT0 := hT.1
  have hT1 := hT.2.1
  have h5n := h5.1
  have h5M := h5
  refine g_aload_n (pc := 0) E dX1_parse_0 (i := 0) rfl rfl ?_
  refine g_iconst (pc := 1) E dX1_parse_1 rfl ?_
  refine g_puti (i := 176) (t := 1) (f := 6) (fz := 6) (pc := 2) E dX1_parse_2 fl_X1_36 rfl (by decide) (by decide) rfl rfl ?_ 
  refine g_aload_n (pc := 5) E dX1_parse_5 (i := 0) rfl rfl ?_
  refine g_iconst (pc := 6) E dX1_parse_6 rfl ?_
  refine g_puti (i := 176) (t := 1) (f := 5) (fz := 5) (pc := 7) E dX1_parse_7 fl_X1_32 rfl (by decide) (by decide) rfl rfl ?_ 
  have LP10 : ∀ (n : Nat) (N : Mem) (kc : Nat), 20 - (kc : Int) < (n : Int) → (kc : Int) ≤ 17 → CH X tn kc → N 176 5 = kc → N 176 6 = ep X tn kc → EN5 X tn kc N → FP5 M N → G cx Pg Lc Ev (rmD 8 0 0) s m args below meth c (MQ below (QI cx (fun rz M' => PAP X tn M rz M' ∧ -1 ≤ rz ∧ rz ≤ 80)) args s 0 0 (cA0 cx)) 10 [some (rf cx 176)] [] (N) 0 0 := by
    intro n
    induction n with
    | zero => intro N kc hn hc17 hC ec e6 hE hF; exact absurd hn (by omega)
    | succ n ih10 =>
      intro N kc hn hc17 hC ec e6 hE hF
      have hep := ep_R hT0 kc hC
      have hee := eE_R (X := X) (n := tn) hep.1 hep.2.1
      have h5 : T5 N X tn := h5M.congr (hF 177 (by decide) (by decide) (by decide) (by decide) (by decide))
      refine g_aload_n (pc := 10) E dX1_parse_10 (i := 0) rfl rfl ?_
      refine g_geti (i := 176) (t := 1) (f := 5) (fz := 5) (pc := 11) E dX1_parse_11 fl_X1_32 rfl (by decide) (by decide) rfl rfl ec (fun _ _ => ?_)
      refine g_bipush (pc := 14) E dX1_parse_14 rfl ?_
      refine g_icmp_ge (pc := 16) (tgt := 53) E dX1_parse_16 (by decide) (fun qh16 => absurd qh16 (by omega)) (fun qh16 => ?_) 
      refine g_aload_n (pc := 19) E dX1_parse_19 (i := 0) rfl rfl ?_
      refine g_callV (pc := 20) (As := []) E dX1_parse_20 ml_X1_39 (ct5_entry (a := ep X tn kc) h5 e6 hT hep.1 hep.2.1 (ci := kc) ec (by omega) (by omega)) rfl rfl rfl rfl (by decide) (by decide) rfl (Nat.le_of_ble_eq_true rfl) (by decide) (fun x20 M20 hM20 => ?_)
      have hte := hM20
      refine g_if_ne (pc := 23) (tgt := 31) E dX1_parse_23 (by decide) (fun qh23 => ?_) (fun qh23 => ?_) (by have := hte.2.2.1; omega) (by have := hte.2.2.1; omega)
      · have hok : eOK X tn (ep X tn kc) := Decidable.byContradiction (fun q => qh23 (hte.2.2.2.2 q))
        have hFO : FP5 M (st M20 176 5 (kc + 1)) := fun i a b d f k => by rw [st_ne a, hte.1.1 i a b d f k]; exact hF i a b d f k
        have h5O : T5 (st M20 176 5 (kc + 1)) X tn := h5M.congr (hFO 177 (by decide) (by decide) (by decide) (by decide) (by decide))
        have p20 : st M20 176 5 (kc + 1) 176 6 = eE X tn (ep X tn kc) := by rw [st_off (by decide)]; exact hte.2.1
        have hE2 : EN5 X tn (kc + 1) (st M20 176 5 (kc + 1)) := fun j hj => by rw [st_ne (by decide), st_ne (by decide), st_ne (by decide), st_ne (by decide)]; exact hE.s hte hok j hj
        refine g_aload_n (pc := 31) E dX1_parse_31 (i := 0) rfl rfl ?_
        refine g_dup (pc := 32) E dX1_parse_32 rfl ?_
        refine g_geti (i := 176) (t := 1) (f := 5) (fz := 5) (pc := 33) E dX1_parse_33 fl_X1_32 rfl (by decide) (by decide) rfl rfl (hte.1.2.2.trans ec) (fun _ _ => ?_)
        refine g_iconst (pc := 36) E dX1_parse_36 rfl ?_
        refine g_iadd (pc := 37) E dX1_parse_37 ?_
        refine g_puti (i := 176) (t := 1) (f := 5) (fz := 5) (pc := 38) E dX1_parse_38 fl_X1_32 rfl (by decide) (by decide) rfl rfl ?_ 
        refine g_aload_n (pc := 41) E dX1_parse_41 (i := 0) rfl rfl ?_
        refine g_bipush (pc := 42) E dX1_parse_42 rfl ?_
        refine g_callV (pc := 44) (As := [_]) E dX1_parse_44 ml_X1_43 (ct5_takes (a := eE X tn (ep X tn kc)) h5O p20 hT (by omega) (by omega) (v := 59) (by omega)) rfl rfl rfl rfl (by decide) (by decide) rfl (Nat.le_of_ble_eq_true rfl) (by decide) (fun x44 M44 hM44 => ?_)
        obtain ⟨rfl, rfl⟩ := hM44
        refine g_if_ne (pc := 47) (tgt := 10) E dX1_parse_47 (by decide) (fun qh47 => ?_) (fun qh47 => ?_) (Int.le_trans (by decide) (bi_R _).1) (Int.le_trans (bi_R _).2 (by decide))
        · replace qh47 := bi_n.mp qh47
          refine g_mem (if_pos qh47) ?_
          have hlt := here_lt (X := X) (n := tn) (a := eE X tn (ep X tn kc)) (by omega)
          exact g_wk2 (ih10 (st (st M20 176 5 (kc + 1)) 176 6 (eE X tn (ep X tn kc) + 1)) (kc + 1) (by omega) (by omega) (hC.s hok hlt qh47) (by rw [st_off (by decide)]; exact st_self _ _ _ _) (st_self _ _ _ _) (fun j hj => by rw [st_ne (by decide), st_ne (by decide), st_ne (by decide), st_ne (by decide)]; exact hE2 j hj) (fun i a b d f k => by rw [st_ne a]; exact hFO i a b d f k)) ⟨rfl, trivial⟩
        · replace qh47 := bi_0.mp qh47
          refine g_mem (if_neg qh47) ?_
          have p44 := p20
          have h5p := h5O.1
          refine g_goto (pc := 50) (tgt := 53) E dX1_parse_50 (by decide) ?_
          refine g_aload_n (pc := 53) E dX1_parse_53 (i := 0) rfl rfl ?_
          refine g_geti (i := 176) (t := 1) (f := 6) (fz := 6) (pc := 54) E dX1_parse_54 fl_X1_36 rfl (by decide) (by decide) rfl rfl p44 (fun _ _ => ?_)
          refine g_aload_n (pc := 57) E dX1_parse_57 (i := 0) rfl rfl ?_
          refine g_getr (i := 176) (j := 177) (t := 1) (f := 0) (pc := 58) E dX1_parse_58 fl_X1_12 rfl (by decide) (by decide) rfl rfl ?_
          refine g_sbLen (pc := 61) (i := 177) (Or.inl rfl) E dX1_parse_61 ml_X1_47 (by decide) rfl (Nat.le_of_ble_eq_true rfl) (by decide) (fun hza61 hzb61 => ?_)
          refine g_top h5p ?_
          refine g_icmp_ge (pc := 64) (tgt := 74) E dX1_parse_64 (by decide) (fun qh64 => ?_) (fun qh64 => ?_) 
          · refine g_iconst (pc := 74) E dX1_parse_74 rfl ?_
            refine g_iret (pc := 75) E hr dX1_parse_75 ?_
            exact ⟨⟨hFO, kc, hC, Or.inr ⟨hok, by omega, rfl, st_self _ _ _ _, hE2⟩⟩, by omega, by omega⟩
          · refine g_aload_n (pc := 67) E dX1_parse_67 (i := 0) rfl rfl ?_
            refine g_geti (i := 176) (t := 1) (f := 6) (fz := 6) (pc := 68) E dX1_parse_68 fl_X1_36 rfl (by decide) (by decide) rfl rfl p44 (fun _ _ => ?_)
            refine g_goto (pc := 71) (tgt := 75) E dX1_parse_71 (by decide) ?_
            refine g_iret (pc := 75) E hr dX1_parse_75 ?_
            exact ⟨⟨hFO, kc, hC, Or.inl ⟨Or.inr ⟨hok, by omega, qh47⟩, rfl⟩⟩, by omega, by omega⟩
      · have hok : ¬ eOK X tn (ep X tn kc) := fun q => absurd (hte.2.2.2.1 q).1 (by omega)
        refine g_aload_n (pc := 26) E dX1_parse_26 (i := 0) rfl rfl ?_
        refine g_geti (i := 176) (t := 1) (f := 6) (fz := 6) (pc := 27) E dX1_parse_27 fl_X1_36 rfl (by decide) (by decide) rfl rfl hte.2.1 (fun _ _ => ?_)
        refine g_iret (pc := 30) E hr dX1_parse_30 ?_
        exact ⟨⟨fun i a b d f k => (hte.1.1 i a b d f k).trans (hF i a b d f k), kc, hC, Or.inl ⟨Or.inl hok, rfl⟩⟩, by omega, by omega⟩
  exact g_wk2 (LP10 21 (st (st M 176 6 0) 176 5 0) 0 (by omega) (by omega) (fun j hj => absurd hj (by omega)) (st_self _ _ _ _) (by rw [st_off (by decide)]; exact st_self _ _ _ _) (fun j hj => absurd hj (by omega)) (fun i a _ _ _ _ => by rw [st_ne a, st_ne a])) ⟨rfl, trivial⟩

