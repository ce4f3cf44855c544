/-! the class's sums over the board -/
theorem sz_sw (F : Int → Int → Int) {n : Int} : ∀ k : Nat, sz (fun i => sz (fun a => F i a) n) k = sz (fun a => sz (fun i => F i a) k) n
  | 0 => by
    have : ∀ m : Nat, smN (fun a => sz (fun i => F i a) ((0 : Nat) : Int)) m = 0 := fun m => by
      induction m with
      | zero => rfl
      | succ m ih => show smN _ m + 0 = 0; rw [ih]; rfl
    exact (this n.toNat).symm
  | k + 1 => by
    have e : ((k + 1 : Nat) : Int) = (k : Int) + 1 := rfl
    rw [e, sz_s (by omega), sz_sw F k]
    have h : ∀ m : Nat, smN (fun a => sz (fun i => F i a) (k : Int)) m + smN (fun a => F k a) m = smN (fun a => sz (fun i => F i a) ((k : Int) + 1)) m := fun m => by
      induction m with
      | zero => rfl
      | succ m ih =>
        show (smN _ m + sz (fun i => F i m) (k : Int)) + (smN _ m + F k m) = smN _ m + sz (fun i => F i m) ((k : Int) + 1)
        rw [← ih, sz_s (by omega)]
        omega
    exact h n.toNat
theorem sz_swap (F : Int → Int → Int) {k n : Int} (hk : 0 ≤ k) : sz (fun i => sz (fun a => F i a) n) k = sz (fun a => sz (fun i => F i a) k) n := by
  have := sz_sw F (n := n) k.toNat
  rw [Int.toNat_of_nonneg hk] at this
  exact this
/-- a sum of which one term counts -/
theorem sz_one {f : Int → Int} {x : Int} : ∀ k : Nat, (∀ j : Int, 0 ≤ j → j < (k : Int) → ¬ j = x → f j = 0) → sz f k = if 0 ≤ x ∧ x < k then f x else 0
  | 0, _ => by rw [if_neg (by omega)]; rfl
  | k + 1, h => by
    have e : ((k + 1 : Nat) : Int) = (k : Int) + 1 := rfl
    rw [e, sz_s (by omega), sz_one k (fun j a b c => h j a (by omega) c)]
    by_cases q : x = k
    · rw [if_neg (by omega), if_pos (by omega), q]; omega
    · rw [h k (by omega) (by omega) (fun z => q z.symm)]
      by_cases q2 : 0 ≤ x ∧ x < k
      · rw [if_pos q2, if_pos (by omega)]; omega
      · rw [if_neg q2, if_neg (by omega)]; rfl
theorem sz_1 {f : Int → Int} {x n : Int} (hn : 0 ≤ n) (h : ∀ j, 0 ≤ j → j < n → ¬ j = x → f j = 0) : sz f n = if 0 ≤ x ∧ x < n then f x else 0 := by
  have := sz_one (f := f) (x := x) n.toNat (fun j a b c => h j a (by omega) c)
  rw [Int.toNat_of_nonneg hn] at this
  exact this

theorem ct_scaledSum {cx : Cx} {M : Mem} {S : Int → Int} (hB : BD M S) (hV : SOK S) {p cn : Int} (hp0 : 0 ≤ p) (hp1 : p < S 6) (hc0 : 0 ≤ cn) (hc1 : cn < 3) : Ct cx yX0_scaledSum cX0_scaledSum 5 (some .int) 4 0 0 [rf cx 0, .int (oi p), .int (oi cn)] M (fun rz M' => sz (slF S p cn) (S 7) = rz ∧ M = M') := by
  refine ct_intro cd_X0_scaledSum (by decide +kernel) (Nat.le_of_ble_eq_true rfl) rfl (fun Pg Lc Ev s m args below meth c E hr => ?_)
  refine g_ent (ls' := [some (rf cx 0), some (.int (oi p)), some (.int (oi cn)), none, none]) rfl ?_
  have hV0 := hV.1
  have hB0 := hB.c0
  have hB1 := hB.c1
  have hB2 := hB.c2
  have hB3 := hB.c3
  have hVp := hV.2.2.1 p (by omega) (by omega)
  refine g_iconst (pc := 0) E dX0_scaledSum_0 rfl ?_
  refine g_istore_n (pc := 1) E dX0_scaledSum_1 (i := 3) (ls' := [_, _, _, _, _]) rfl (Nat.le_of_ble_eq_true rfl) rfl ?_
  refine g_iconst (pc := 2) E dX0_scaledSum_2 rfl ?_
  refine g_istore (pc := 3) E dX0_scaledSum_3 (ls' := [_, _, _, _, _]) (Nat.le_of_ble_eq_true rfl) rfl ?_
  have LP5 : ∀ (n : Nat) (x a : Int), S 7 - x < (n : Int) → 0 ≤ x → x ≤ S 7 → a = sz (slF S p cn) x → G cx Pg Lc Ev (rmD 4 0 0) s m args below meth c (MQ below (QI cx (fun rz M' => sz (slF S p cn) (S 7) = rz ∧ M = M')) args s 0 0 (cA0 cx)) 5 [some (rf cx 0), some (.int (oi p)), some (.int (oi cn)), some (.int (oi a)), some (.int (oi x))] [] (M) 0 0 := by
    intro n
    induction n with
    | zero => intro x a hn hx0 hx1 ha; exact absurd hn (by omega)
    | succ n ih5 =>
      intro x a hn hx0 hx1 ha
      refine g_iload (pc := 5) E dX0_scaledSum_5 rfl ?_
      refine g_aload_n (pc := 7) E dX0_scaledSum_7 (i := 0) rfl rfl ?_
      refine g_geti (i := 0) (t := 0) (f := 2) (fz := 2) (pc := 8) E dX0_scaledSum_8 fl_X0_18 rfl (by decide) (by decide) rfl rfl hB.c2 (fun _ _ => ?_)
      refine g_icmp_ge (pc := 11) (tgt := 41) E dX0_scaledSum_11 (by decide) (fun qh11 => ?_) (fun qh11 => ?_) 
      · refine g_iload_n (pc := 41) E dX0_scaledSum_41 (i := 3) rfl rfl ?_
        refine g_iret (pc := 42) E hr dX0_scaledSum_42 ?_
        exact ⟨by rw [ha, show x = S 7 by omega], rfl⟩
      · refine g_aload_n (pc := 14) E dX0_scaledSum_14 (i := 0) rfl rfl ?_
        refine g_iload (pc := 15) E dX0_scaledSum_15 rfl ?_
        refine g_iload_n (pc := 17) E dX0_scaledSum_17 (i := 1) rfl rfl ?_
        refine g_iload_n (pc := 18) E dX0_scaledSum_18 (i := 2) rfl rfl ?_
        refine g_callV (pc := 19) (As := [_, _, _]) E dX0_scaledSum_19 ml_X0_131 (ct_hasRaw hB hV (by omega) (by omega) (by omega) (by omega) (by omega) (by omega)) rfl rfl rfl rfl (by decide) (by decide) rfl (Nat.le_of_ble_eq_true rfl) (by decide) (fun x19 M19 hM19 => ?_)
        obtain ⟨rfl, rfl⟩ := hM19
        refine g_if_eq (pc := 22) (tgt := 35) E dX0_scaledSum_22 (by decide) (fun qh22 => ?_) (fun qh22 => ?_) (Int.le_trans (by decide) (bi_R _).1) (Int.le_trans (bi_R _).2 (by decide))
        · replace qh22 := bi_0.mp qh22
          refine g_iinc (pc := 35) E dX0_scaledSum_35 (ls' := [_, _, _, _, _]) rfl rfl rfl ?_
          refine g_goto (pc := 38) (tgt := 5) E dX0_scaledSum_38 (by decide) ?_
          exact g_wk2 (ih5 (x + 1) a (by omega) (by omega) (by omega) (by rw [sz_s hx0, ha, show (slF S p cn) x = 0 from if_neg qh22]; omega)) ⟨rfl, rfl, rfl, rfl, rfl, trivial⟩
        · replace qh22 := bi_n.mp qh22
          refine g_iload_n (pc := 25) E dX0_scaledSum_25 (i := 3) rfl rfl ?_
          refine g_aload_n (pc := 26) E dX0_scaledSum_26 (i := 0) rfl rfl ?_
          refine g_iload (pc := 27) E dX0_scaledSum_27 rfl ?_
          refine g_iload_n (pc := 29) E dX0_scaledSum_29 (i := 1) rfl rfl ?_
          refine g_callV (pc := 30) (As := [_, _]) E dX0_scaledSum_30 ml_X0_103 (ct_firstScaled hB hV (by omega) (by omega) (by omega) (by omega)) rfl rfl rfl rfl (by decide) (by decide) rfl (Nat.le_of_ble_eq_true rfl) (by decide) (fun x30 M30 hM30 => ?_)
          obtain ⟨rfl, rfl⟩ := hM30
          refine g_iadd (pc := 33) E dX0_scaledSum_33 ?_
          refine g_istore_n (pc := 34) E dX0_scaledSum_34 (i := 3) (ls' := [_, _, _, _, _]) rfl (Nat.le_of_ble_eq_true rfl) rfl ?_
          refine g_iinc (pc := 35) E dX0_scaledSum_35 (ls' := [_, _, _, _, _]) rfl rfl rfl ?_
          refine g_goto (pc := 38) (tgt := 5) E dX0_scaledSum_38 (by decide) ?_
          exact g_wk2 (ih5 (x + 1) (a + scS S x p) (by omega) (by omega) (by omega) (by rw [sz_s hx0, ha, show (slF S p cn) x = scS S x p from if_pos qh22])) ⟨rfl, rfl, rfl, rfl, rfl, trivial⟩
  exact g_wk2 (LP5 (S 7 + 1).toNat 0 0 (by omega) (by omega) (by omega) rfl) ⟨rfl, rfl, rfl, rfl, rfl, trivial⟩

theorem ct_isTurned {cx : Cx} {M : Mem} {S : Int → Int} (hB : BD M S) (hV : SOK S) {sn tt p : Int} (hs0 : 0 ≤ sn) (hs1 : sn < S 7) (ht0 : 0 ≤ tt) (ht1 : tt < S 7) (hp0 : 0 ≤ p) (hp1 : p < S 6) (ho : S (57 + 3 * (8 * sn + p)) = 1) (hoo : S (57 + 3 * (8 * tt + p)) = 1) : Ct cx yX0_isTurned cX0_isTurned 6 (some .boolean) 4 0 0 [rf cx 0, .int (oi sn), .int (oi tt), .int (oi p)] M (fun rz M' => bi (fstS S tt p < fstS S sn p ∧ scS S sn p < scS S tt p) = rz ∧ M = M') := by
  refine ct_intro cd_X0_isTurned (by decide +kernel) (Nat.le_of_ble_eq_true rfl) rfl (fun Pg Lc Ev s m args below meth c E hr => ?_)
  refine g_ent (ls' := [some (rf cx 0), some (.int (oi sn)), some (.int (oi tt)), some (.int (oi p)), none, none]) rfl ?_
  have hV0 := hV.1
  have hB0 := hB.c0
  have hB1 := hB.c1
  have hB2 := hB.c2
  have hB3 := hB.c3
  have hVp := hV.2.2.1 p (by omega) (by omega)
  have hVa := hV.2.2.2.2.1 sn p (by omega) (by omega) (by omega) (by omega)
  have hVt := hV.2.2.2.2.1 tt p (by omega) (by omega) (by omega) (by omega)
  have e1 : fstS S sn p = pcS S p (S (57 + 3 * (8 * sn + p) + 1)) := if_pos ho
  have e2 : fstS S tt p = pcS S p (S (57 + 3 * (8 * tt + p) + 1)) := if_pos hoo
  have r1 := fstS_R hV hs0 hs1 hp0 hp1
  have r2 := fstS_R hV ht0 ht1 hp0 hp1
  have r3 := scS_R S sn p
  have r4 := scS_R S tt p
  refine g_aload_n (pc := 0) E dX0_isTurned_0 (i := 0) rfl rfl ?_
  refine g_iload_n (pc := 1) E dX0_isTurned_1 (i := 3) rfl rfl ?_
  refine g_aload_n (pc := 2) E dX0_isTurned_2 (i := 0) rfl rfl ?_
  refine g_getr (i := 0) (j := 8) (t := 0) (f := 11) (pc := 3) E dX0_isTurned_3 fl_X0_46 rfl (by decide) (by decide) rfl rfl ?_
  refine g_iload_n (pc := 6) E dX0_isTurned_6 (i := 1) rfl rfl ?_
  refine g_bipush (pc := 7) E dX0_isTurned_7 rfl ?_
  refine g_imul (pc := 9) E dX0_isTurned_9 ?_
  refine g_iload_n (pc := 10) E dX0_isTurned_10 (i := 3) rfl rfl ?_
  refine g_iadd (pc := 11) E dX0_isTurned_11 ?_
  refine g_iald (q := 160) (pc := 12) E dX0_isTurned_12 rfl (by omega) (by omega) (hB.f8 (by omega) (by omega) (by omega) (by omega)) (fun _ _ => ?_)
  refine g_callV (pc := 13) (As := [_, _]) E dX0_isTurned_13 ml_X0_93 (ct_percent0 hB hV (by omega) (by omega) (by omega) (by omega)) rfl rfl rfl rfl (by decide) (by decide) rfl (Nat.le_of_ble_eq_true rfl) (by decide) (fun x13 M13 hM13 => ?_)
  obtain ⟨rfl, rfl⟩ := hM13
  refine g_istore (pc := 16) E dX0_isTurned_16 (ls' := [_, _, _, _, _, _]) (Nat.le_of_ble_eq_true rfl) rfl ?_
  refine g_aload_n (pc := 18) E dX0_isTurned_18 (i := 0) rfl rfl ?_
  refine g_iload_n (pc := 19) E dX0_isTurned_19 (i := 3) rfl rfl ?_
  refine g_aload_n (pc := 20) E dX0_isTurned_20 (i := 0) rfl rfl ?_
  refine g_getr (i := 0) (j := 8) (t := 0) (f := 11) (pc := 21) E dX0_isTurned_21 fl_X0_46 rfl (by decide) (by decide) rfl rfl ?_
  refine g_iload_n (pc := 24) E dX0_isTurned_24 (i := 2) rfl rfl ?_
  refine g_bipush (pc := 25) E dX0_isTurned_25 rfl ?_
  refine g_imul (pc := 27) E dX0_isTurned_27 ?_
  refine g_iload_n (pc := 28) E dX0_isTurned_28 (i := 3) rfl rfl ?_
  refine g_iadd (pc := 29) E dX0_isTurned_29 ?_
  refine g_iald (q := 160) (pc := 30) E dX0_isTurned_30 rfl (by omega) (by omega) (hB.f8 (by omega) (by omega) (by omega) (by omega)) (fun _ _ => ?_)
  refine g_callV (pc := 31) (As := [_, _]) E dX0_isTurned_31 ml_X0_93 (ct_percent0 hB hV (by omega) (by omega) (by omega) (by omega)) rfl rfl rfl rfl (by decide) (by decide) rfl (Nat.le_of_ble_eq_true rfl) (by decide) (fun x31 M31 hM31 => ?_)
  obtain ⟨rfl, rfl⟩ := hM31
  refine g_istore (pc := 34) E dX0_isTurned_34 (ls' := [_, _, _, _, _, _]) (Nat.le_of_ble_eq_true rfl) rfl ?_
  refine g_iload (pc := 36) E dX0_isTurned_36 rfl ?_
  refine g_iload (pc := 38) E dX0_isTurned_38 rfl ?_
  refine g_icmp_le (pc := 40) (tgt := 62) E dX0_isTurned_40 (by decide) (fun qh40 => ?_) (fun qh40 => ?_) 
  · refine g_iconst (pc := 62) E dX0_isTurned_62 rfl ?_
    refine g_zret (pc := 63) E hr dX0_isTurned_63 (by first | exact Or.inl rfl | exact Or.inr rfl | exact bi_in _ | omega) ?_
    exact ⟨bi_f (by omega), rfl⟩
  · refine g_aload_n (pc := 43) E dX0_isTurned_43 (i := 0) rfl rfl ?_
    refine g_iload_n (pc := 44) E dX0_isTurned_44 (i := 1) rfl rfl ?_
    refine g_iload_n (pc := 45) E dX0_isTurned_45 (i := 3) rfl rfl ?_
    refine g_callV (pc := 46) (As := [_, _]) E dX0_isTurned_46 ml_X0_103 (ct_firstScaled hB hV (by omega) (by omega) (by omega) (by omega)) rfl rfl rfl rfl (by decide) (by decide) rfl (Nat.le_of_ble_eq_true rfl) (by decide) (fun x46 M46 hM46 => ?_)
    obtain ⟨rfl, rfl⟩ := hM46
    refine g_aload_n (pc := 49) E dX0_isTurned_49 (i := 0) rfl rfl ?_
    refine g_iload_n (pc := 50) E dX0_isTurned_50 (i := 2) rfl rfl ?_
    refine g_iload_n (pc := 51) E dX0_isTurned_51 (i := 3) rfl rfl ?_
    refine g_callV (pc := 52) (As := [_, _]) E dX0_isTurned_52 ml_X0_103 (ct_firstScaled hB hV (by omega) (by omega) (by omega) (by omega)) rfl rfl rfl rfl (by decide) (by decide) rfl (Nat.le_of_ble_eq_true rfl) (by decide) (fun x52 M52 hM52 => ?_)
    obtain ⟨rfl, rfl⟩ := hM52
    refine g_icmp_ge (pc := 55) (tgt := 62) E dX0_isTurned_55 (by decide) (fun qh55 => ?_) (fun qh55 => ?_) 
    · refine g_iconst (pc := 62) E dX0_isTurned_62 rfl ?_
      refine g_zret (pc := 63) E hr dX0_isTurned_63 (by first | exact Or.inl rfl | exact Or.inr rfl | exact bi_in _ | omega) ?_
      exact ⟨bi_f (by omega), rfl⟩
    · refine g_iconst (pc := 58) E dX0_isTurned_58 rfl ?_
      refine g_goto (pc := 59) (tgt := 63) E dX0_isTurned_59 (by decide) ?_
      refine g_zret (pc := 63) E hr dX0_isTurned_63 (by first | exact Or.inl rfl | exact Or.inr rfl | exact bi_in _ | omega) ?_
      exact ⟨bi_t (by omega), rfl⟩

theorem ct_turnedPairs {cx : Cx} {M : Mem} {S : Int → Int} (hB : BD M S) (hV : SOK S) {p cn : Int} (hp0 : 0 ≤ p) (hp1 : p < S 6) (hc0 : 0 ≤ cn) (hc1 : cn < 3) : Ct cx yX0_turnedPairs cX0_turnedPairs 6 (some .int) 5 0 0 [rf cx 0, .int (oi p), .int (oi cn)] M (fun rz M' => sz (tp1 S p cn) (S 7) = rz ∧ M = M') := by
  refine ct_intro cd_X0_turnedPairs (by decide +kernel) (Nat.le_of_ble_eq_true rfl) rfl (fun Pg Lc Ev s m args below meth c E hr => ?_)
  refine g_ent (ls' := [some (rf cx 0), some (.int (oi p)), some (.int (oi cn)), none, none, none]) rfl ?_
  have hV0 := hV.1
  have hB0 := hB.c0
  have hB1 := hB.c1
  have hB2 := hB.c2
  have hB3 := hB.c3
  have hVp := hV.2.2.1 p (by omega) (by omega)
  refine g_iconst (pc := 0) E dX0_turnedPairs_0 rfl ?_
  refine g_istore_n (pc := 1) E dX0_turnedPairs_1 (i := 3) (ls' := [_, _, _, _, _, _]) rfl (Nat.le_of_ble_eq_true rfl) rfl ?_
  refine g_iconst (pc := 2) E dX0_turnedPairs_2 rfl ?_
  refine g_istore (pc := 3) E dX0_turnedPairs_3 (ls' := [_, _, _, _, _, _]) (Nat.le_of_ble_eq_true rfl) rfl ?_
  have LP5 : ∀ (n : Nat) (x a : Int), S 7 - x < (n : Int) → 0 ≤ x → x ≤ S 7 → a = sz (tp1 S p cn) x → G cx Pg Lc Ev (rmD 5 0 0) s m args below meth c (MQ below (QI cx (fun rz M' => sz (tp1 S p cn) (S 7) = rz ∧ M = M')) args s 0 0 (cA0 cx)) 5 [some (rf cx 0), some (.int (oi p)), some (.int (oi cn)), some (.int (oi a)), some (.int (oi x)), none] [] (M) 0 0 := by
    intro n
    induction n with
    | zero => intro x a hn hx0 hx1 ha; exact absurd hn (by omega)
    | succ n ih5 =>
      intro x a hn hx0 hx1 ha
      refine g_iload (pc := 5) E dX0_turnedPairs_5 rfl ?_
      refine g_aload_n (pc := 7) E dX0_turnedPairs_7 (i := 0) rfl rfl ?_
      refine g_geti (i := 0) (t := 0) (f := 2) (fz := 2) (pc := 8) E dX0_turnedPairs_8 fl_X0_18 rfl (by decide) (by decide) rfl rfl hB.c2 (fun _ _ => ?_)
      refine g_icmp_ge (pc := 11) (tgt := 75) E dX0_turnedPairs_11 (by decide) (fun qh11 => ?_) (fun qh11 => ?_) 
      · refine g_iload_n (pc := 75) E dX0_turnedPairs_75 (i := 3) rfl rfl ?_
        refine g_iret (pc := 76) E hr dX0_turnedPairs_76 ?_
        exact ⟨by rw [ha, show x = S 7 by omega], rfl⟩
      · refine g_iconst (pc := 14) E dX0_turnedPairs_14 rfl ?_
        refine g_istore (pc := 15) E dX0_turnedPairs_15 (ls' := [_, _, _, _, _, _]) (Nat.le_of_ble_eq_true rfl) rfl ?_
        have LP17 : ∀ (n : Nat) (y w : Int), S 7 - y < (n : Int) → 0 ≤ y → y ≤ S 7 → w = a + sz (tpF S p cn x) y → G cx Pg Lc Ev (rmD 5 0 0) s m args below meth c (MQ below (QI cx (fun rz M' => sz (tp1 S p cn) (S 7) = rz ∧ M = M')) args s 0 0 (cA0 cx)) 17 [some (rf cx 0), some (.int (oi p)), some (.int (oi cn)), some (.int (oi w)), some (.int (oi x)), some (.int (oi y))] [] (M) 0 0 := by
          intro n
          induction n with
          | zero => intro y w hny hy0 hy1 hw; exact absurd hny (by omega)
          | succ n ih17 =>
            intro y w hny hy0 hy1 hw
            refine g_iload (pc := 17) E dX0_turnedPairs_17 rfl ?_
            refine g_aload_n (pc := 19) E dX0_turnedPairs_19 (i := 0) rfl rfl ?_
            refine g_geti (i := 0) (t := 0) (f := 2) (fz := 2) (pc := 20) E dX0_turnedPairs_20 fl_X0_18 rfl (by decide) (by decide) rfl rfl hB.c2 (fun _ _ => ?_)
            refine g_icmp_ge (pc := 23) (tgt := 69) E dX0_turnedPairs_23 (by decide) (fun qh23 => ?_) (fun qh23 => ?_) 
            · refine g_iinc (pc := 69) E dX0_turnedPairs_69 (ls' := [_, _, _, _, _, _]) rfl rfl rfl ?_
              refine g_goto (pc := 72) (tgt := 5) E dX0_turnedPairs_72 (by decide) ?_
              exact g_wk2 (ih5 (x + 1) w (by omega) (by omega) (by omega) (by rw [sz_s hx0, hw, ha, show y = S 7 by omega]; rfl)) ⟨rfl, rfl, rfl, rfl, rfl, trivial⟩
            · refine g_aload_n (pc := 26) E dX0_turnedPairs_26 (i := 0) rfl rfl ?_
              refine g_iload (pc := 27) E dX0_turnedPairs_27 rfl ?_
              refine g_iload_n (pc := 29) E dX0_turnedPairs_29 (i := 1) rfl rfl ?_
              refine g_iload_n (pc := 30) E dX0_turnedPairs_30 (i := 2) rfl rfl ?_
              refine g_callV (pc := 31) (As := [_, _, _]) E dX0_turnedPairs_31 ml_X0_131 (ct_hasRaw hB hV (by omega) (by omega) (by omega) (by omega) (by omega) (by omega)) rfl rfl rfl rfl (by decide) (by decide) rfl (Nat.le_of_ble_eq_true rfl) (by decide) (fun x31 M31 hM31 => ?_)
              obtain ⟨rfl, rfl⟩ := hM31
              refine g_if_eq (pc := 34) (tgt := 63) E dX0_turnedPairs_34 (by decide) (fun qh34 => ?_) (fun qh34 => ?_) (Int.le_trans (by decide) (bi_R _).1) (Int.le_trans (bi_R _).2 (by decide))
              · replace qh34 := bi_0.mp qh34
                refine g_iinc (pc := 63) E dX0_turnedPairs_63 (ls' := [_, _, _, _, _, _]) rfl rfl rfl ?_
                refine g_goto (pc := 66) (tgt := 17) E dX0_turnedPairs_66 (by decide) ?_
                exact g_wk2 (ih17 (y + 1) w (by omega) (by omega) (by omega) (by rw [sz_s hy0, hw, show tpF S p cn x y = 0 from if_neg (fun h => qh34 h.1)]; omega)) ⟨rfl, rfl, rfl, rfl, rfl, rfl, trivial⟩
              · replace qh34 := bi_n.mp qh34
                refine g_aload_n (pc := 37) E dX0_turnedPairs_37 (i := 0) rfl rfl ?_
                refine g_iload (pc := 38) E dX0_turnedPairs_38 rfl ?_
                refine g_iload_n (pc := 40) E dX0_turnedPairs_40 (i := 1) rfl rfl ?_
                refine g_iload_n (pc := 41) E dX0_turnedPairs_41 (i := 2) rfl rfl ?_
                refine g_callV (pc := 42) (As := [_, _, _]) E dX0_turnedPairs_42 ml_X0_131 (ct_hasRaw hB hV (by omega) (by omega) (by omega) (by omega) (by omega) (by omega)) rfl rfl rfl rfl (by decide) (by decide) rfl (Nat.le_of_ble_eq_true rfl) (by decide) (fun x42 M42 hM42 => ?_)
                obtain ⟨rfl, rfl⟩ := hM42
                refine g_if_eq (pc := 45) (tgt := 63) E dX0_turnedPairs_45 (by decide) (fun qh45 => ?_) (fun qh45 => ?_) (Int.le_trans (by decide) (bi_R _).1) (Int.le_trans (bi_R _).2 (by decide))
                · replace qh45 := bi_0.mp qh45
                  refine g_iinc (pc := 63) E dX0_turnedPairs_63 (ls' := [_, _, _, _, _, _]) rfl rfl rfl ?_
                  refine g_goto (pc := 66) (tgt := 17) E dX0_turnedPairs_66 (by decide) ?_
                  exact g_wk2 (ih17 (y + 1) w (by omega) (by omega) (by omega) (by rw [sz_s hy0, hw, show tpF S p cn x y = 0 from if_neg (fun h => qh45 h.2.1)]; omega)) ⟨rfl, rfl, rfl, rfl, rfl, rfl, trivial⟩
                · replace qh45 := bi_n.mp qh45
                  refine g_aload_n (pc := 48) E dX0_turnedPairs_48 (i := 0) rfl rfl ?_
                  refine g_iload (pc := 49) E dX0_turnedPairs_49 rfl ?_
                  refine g_iload (pc := 51) E dX0_turnedPairs_51 rfl ?_
                  refine g_iload_n (pc := 53) E dX0_turnedPairs_53 (i := 1) rfl rfl ?_
                  refine g_callV (pc := 54) (As := [_, _, _]) E dX0_turnedPairs_54 ml_X0_135 (ct_isTurned hB hV (by omega) (by omega) (by omega) (by omega) (by omega) (by omega) qh34.2 qh45.2) rfl rfl rfl rfl (by decide) (by decide) rfl (Nat.le_of_ble_eq_true rfl) (by decide) (fun x54 M54 hM54 => ?_)
                  obtain ⟨rfl, rfl⟩ := hM54
                  refine g_if_eq (pc := 57) (tgt := 63) E dX0_turnedPairs_57 (by decide) (fun qh57 => ?_) (fun qh57 => ?_) (Int.le_trans (by decide) (bi_R _).1) (Int.le_trans (bi_R _).2 (by decide))
                  · replace qh57 := bi_0.mp qh57
                    refine g_iinc (pc := 63) E dX0_turnedPairs_63 (ls' := [_, _, _, _, _, _]) rfl rfl rfl ?_
                    refine g_goto (pc := 66) (tgt := 17) E dX0_turnedPairs_66 (by decide) ?_
                    exact g_wk2 (ih17 (y + 1) w (by omega) (by omega) (by omega) (by rw [sz_s hy0, hw, show tpF S p cn x y = 0 from if_neg (fun h => qh57 h.2.2)]; omega)) ⟨rfl, rfl, rfl, rfl, rfl, rfl, trivial⟩
                  · replace qh57 := bi_n.mp qh57
                    refine g_iinc (pc := 60) E dX0_turnedPairs_60 (ls' := [_, _, _, _, _, _]) rfl rfl rfl ?_
                    refine g_iinc (pc := 63) E dX0_turnedPairs_63 (ls' := [_, _, _, _, _, _]) rfl rfl rfl ?_
                    refine g_goto (pc := 66) (tgt := 17) E dX0_turnedPairs_66 (by decide) ?_
                    exact g_wk2 (ih17 (y + 1) (w + 1) (by omega) (by omega) (by omega) (by rw [sz_s hy0, hw, show tpF S p cn x y = 1 from if_pos ⟨qh34, qh45, qh57⟩]; omega)) ⟨rfl, rfl, rfl, rfl, rfl, rfl, trivial⟩
        exact g_wk2 (LP17 (S 7 + 1).toNat 0 a (by omega) (by omega) (by omega) (by rw [sz_0]; omega)) ⟨rfl, rfl, rfl, rfl, rfl, rfl, trivial⟩
  exact g_wk2 (LP5 (S 7 + 1).toNat 0 0 (by omega) (by omega) (by omega) rfl) ⟨rfl, rfl, rfl, rfl, rfl, trivial⟩

theorem ct_isFirstOf {cx : Cx} {M : Mem} {S : Int → Int} (hB : BD M S) (hV : SOK S) {sn p cn : Int} (hs0 : 0 ≤ sn) (hs1 : sn < S 7) (hp0 : 0 ≤ p) (hp1 : p < S 6) (hc0 : 0 ≤ cn) (hc1 : cn < 3) : Ct cx yX0_isFirstOfItsScaled cX0_isFirstOfItsScaled 6 (some .boolean) 4 0 0 [rf cx 0, .int (oi sn), .int (oi p), .int (oi cn)] M (fun rz M' => bi (sz (dfE S p cn sn) sn = 0) = rz ∧ M = M') := by
  refine ct_intro cd_X0_isFirstOfItsScaled (by decide +kernel) (Nat.le_of_ble_eq_true rfl) rfl (fun Pg Lc Ev s m args below meth c E hr => ?_)
  refine g_ent (ls' := [some (rf cx 0), some (.int (oi sn)), some (.int (oi p)), some (.int (oi cn)), none, none]) rfl ?_
  have hV0 := hV.1
  have hB0 := hB.c0
  have hB1 := hB.c1
  have hB2 := hB.c2
  have hB3 := hB.c3
  have hVp := hV.2.2.1 p (by omega) (by omega)
  have r3 := scS_R S sn p
  have hdp : ∀ j, 0 ≤ j → j < sn → 0 ≤ dfE S p cn sn j := fun j _ _ => by unfold dfE; split <;> omega
  refine g_aload_n (pc := 0) E dX0_isFirstOfItsScaled_0 (i := 0) rfl rfl ?_
  refine g_iload_n (pc := 1) E dX0_isFirstOfItsScaled_1 (i := 1) rfl rfl ?_
  refine g_iload_n (pc := 2) E dX0_isFirstOfItsScaled_2 (i := 2) rfl rfl ?_
  refine g_callV (pc := 3) (As := [_, _]) E dX0_isFirstOfItsScaled_3 ml_X0_103 (ct_firstScaled hB hV (by omega) (by omega) (by omega) (by omega)) rfl rfl rfl rfl (by decide) (by decide) rfl (Nat.le_of_ble_eq_true rfl) (by decide) (fun x3 M3 hM3 => ?_)
  obtain ⟨rfl, rfl⟩ := hM3
  refine g_istore (pc := 6) E dX0_isFirstOfItsScaled_6 (ls' := [_, _, _, _, _, _]) (Nat.le_of_ble_eq_true rfl) rfl ?_
  refine g_iconst (pc := 8) E dX0_isFirstOfItsScaled_8 rfl ?_
  refine g_istore (pc := 9) E dX0_isFirstOfItsScaled_9 (ls' := [_, _, _, _, _, _]) (Nat.le_of_ble_eq_true rfl) rfl ?_
  have LP11 : ∀ (n : Nat) (x : Int), sn - x < (n : Int) → 0 ≤ x → x ≤ sn → sz (dfE S p cn sn) x = 0 → G cx Pg Lc Ev (rmD 4 0 0) s m args below meth c (MQ below (QI cx (fun rz M' => bi (sz (dfE S p cn sn) sn = 0) = rz ∧ M = M')) args s 0 0 (cA0 cx)) 11 [some (rf cx 0), some (.int (oi sn)), some (.int (oi p)), some (.int (oi cn)), some (.int (oi (scS S sn p))), some (.int (oi x))] [] (M) 0 0 := by
    intro n
    induction n with
    | zero => intro x hn hx0 hx1 ha; exact absurd hn (by omega)
    | succ n ih11 =>
      intro x hn hx0 hx1 ha
      have r4 := scS_R S x p
      refine g_iload (pc := 11) E dX0_isFirstOfItsScaled_11 rfl ?_
      refine g_iload_n (pc := 13) E dX0_isFirstOfItsScaled_13 (i := 1) rfl rfl ?_
      refine g_icmp_ge (pc := 14) (tgt := 48) E dX0_isFirstOfItsScaled_14 (by decide) (fun qh14 => ?_) (fun qh14 => ?_) 
      · refine g_iconst (pc := 48) E dX0_isFirstOfItsScaled_48 rfl ?_
        refine g_zret (pc := 49) E hr dX0_isFirstOfItsScaled_49 (by first | exact Or.inl rfl | exact Or.inr rfl | exact bi_in _ | omega) ?_
        rw [show x = sn by omega] at ha
        exact ⟨bi_t ha, rfl⟩
      · refine g_aload_n (pc := 17) E dX0_isFirstOfItsScaled_17 (i := 0) rfl rfl ?_
        refine g_iload (pc := 18) E dX0_isFirstOfItsScaled_18 rfl ?_
        refine g_iload_n (pc := 20) E dX0_isFirstOfItsScaled_20 (i := 2) rfl rfl ?_
        refine g_iload_n (pc := 21) E dX0_isFirstOfItsScaled_21 (i := 3) rfl rfl ?_
        refine g_callV (pc := 22) (As := [_, _, _]) E dX0_isFirstOfItsScaled_22 ml_X0_131 (ct_hasRaw hB hV (by omega) (by omega) (by omega) (by omega) (by omega) (by omega)) rfl rfl rfl rfl (by decide) (by decide) rfl (Nat.le_of_ble_eq_true rfl) (by decide) (fun x22 M22 hM22 => ?_)
        obtain ⟨rfl, rfl⟩ := hM22
        refine g_if_eq (pc := 25) (tgt := 42) E dX0_isFirstOfItsScaled_25 (by decide) (fun qh25 => ?_) (fun qh25 => ?_) (Int.le_trans (by decide) (bi_R _).1) (Int.le_trans (bi_R _).2 (by decide))
        · replace qh25 := bi_0.mp qh25
          refine g_iinc (pc := 42) E dX0_isFirstOfItsScaled_42 (ls' := [_, _, _, _, _, _]) rfl rfl rfl ?_
          refine g_goto (pc := 45) (tgt := 11) E dX0_isFirstOfItsScaled_45 (by decide) ?_
          exact g_wk2 (ih11 (x + 1) (by omega) (by omega) (by omega) (by rw [sz_s hx0, ha, show dfE S p cn sn x = 0 from if_neg (fun h => qh25 h.1)]; rfl)) ⟨rfl, rfl, rfl, rfl, rfl, rfl, trivial⟩
        · replace qh25 := bi_n.mp qh25
          refine g_aload_n (pc := 28) E dX0_isFirstOfItsScaled_28 (i := 0) rfl rfl ?_
          refine g_iload (pc := 29) E dX0_isFirstOfItsScaled_29 rfl ?_
          refine g_iload_n (pc := 31) E dX0_isFirstOfItsScaled_31 (i := 2) rfl rfl ?_
          refine g_callV (pc := 32) (As := [_, _]) E dX0_isFirstOfItsScaled_32 ml_X0_103 (ct_firstScaled hB hV (by omega) (by omega) (by omega) (by omega)) rfl rfl rfl rfl (by decide) (by decide) rfl (Nat.le_of_ble_eq_true rfl) (by decide) (fun x32 M32 hM32 => ?_)
          obtain ⟨rfl, rfl⟩ := hM32
          refine g_iload (pc := 35) E dX0_isFirstOfItsScaled_35 rfl ?_
          refine g_icmp_ne (pc := 37) (tgt := 42) E dX0_isFirstOfItsScaled_37 (by decide) (fun qh37 => ?_) (fun qh37 => ?_) 
          · refine g_iinc (pc := 42) E dX0_isFirstOfItsScaled_42 (ls' := [_, _, _, _, _, _]) rfl rfl rfl ?_
            refine g_goto (pc := 45) (tgt := 11) E dX0_isFirstOfItsScaled_45 (by decide) ?_
            exact g_wk2 (ih11 (x + 1) (by omega) (by omega) (by omega) (by rw [sz_s hx0, ha, show dfE S p cn sn x = 0 from if_neg (fun h => qh37 h.2)]; rfl)) ⟨rfl, rfl, rfl, rfl, rfl, rfl, trivial⟩
          · refine g_iconst (pc := 40) E dX0_isFirstOfItsScaled_40 rfl ?_
            refine g_zret (pc := 41) E hr dX0_isFirstOfItsScaled_41 (by first | exact Or.inl rfl | exact Or.inr rfl | exact bi_in _ | omega) ?_
            have hge := sz_ge hdp hx0 (by omega)
            have h1 : dfE S p cn sn x = 1 := if_pos ⟨qh25, by omega⟩
            exact ⟨bi_f (by omega), rfl⟩
  exact g_wk2 (LP11 (sn + 1).toNat 0 (by omega) (by omega) (by omega) rfl) ⟨rfl, rfl, rfl, rfl, rfl, rfl, trivial⟩

theorem ct_differentScaled {cx : Cx} {M : Mem} {S : Int → Int} (hB : BD M S) (hV : SOK S) {p cn : Int} (hp0 : 0 ≤ p) (hp1 : p < S 6) (hc0 : 0 ≤ cn) (hc1 : cn < 3) : Ct cx yX0_differentScaled cX0_differentScaled 5 (some .int) 5 0 0 [rf cx 0, .int (oi p), .int (oi cn)] M (fun rz M' => sz (dfF S p cn) (S 7) = rz ∧ M = M') := by
  refine ct_intro cd_X0_differentScaled (by decide +kernel) (Nat.le_of_ble_eq_true rfl) rfl (fun Pg Lc Ev s m args below meth c E hr => ?_)
  refine g_ent (ls' := [some (rf cx 0), some (.int (oi p)), some (.int (oi cn)), none, none]) rfl ?_
  have hV0 := hV.1
  have hB0 := hB.c0
  have hB1 := hB.c1
  have hB2 := hB.c2
  have hB3 := hB.c3
  have hVp := hV.2.2.1 p (by omega) (by omega)
  refine g_iconst (pc := 0) E dX0_differentScaled_0 rfl ?_
  refine g_istore_n (pc := 1) E dX0_differentScaled_1 (i := 3) (ls' := [_, _, _, _, _]) rfl (Nat.le_of_ble_eq_true rfl) rfl ?_
  refine g_iconst (pc := 2) E dX0_differentScaled_2 rfl ?_
  refine g_istore (pc := 3) E dX0_differentScaled_3 (ls' := [_, _, _, _, _]) (Nat.le_of_ble_eq_true rfl) rfl ?_
  have LP5 : ∀ (n : Nat) (x a : Int), S 7 - x < (n : Int) → 0 ≤ x → x ≤ S 7 → a = sz (dfF S p cn) x → G cx Pg Lc Ev (rmD 5 0 0) s m args below meth c (MQ below (QI cx (fun rz M' => sz (dfF S p cn) (S 7) = rz ∧ M = M')) args s 0 0 (cA0 cx)) 5 [some (rf cx 0), some (.int (oi p)), some (.int (oi cn)), some (.int (oi a)), some (.int (oi x))] [] (M) 0 0 := by
    intro n
    induction n with
    | zero => intro x a hn hx0 hx1 ha; exact absurd hn (by omega)
    | succ n ih5 =>
      intro x a hn hx0 hx1 ha
      refine g_iload (pc := 5) E dX0_differentScaled_5 rfl ?_
      refine g_aload_n (pc := 7) E dX0_differentScaled_7 (i := 0) rfl rfl ?_
      refine g_geti (i := 0) (t := 0) (f := 2) (fz := 2) (pc := 8) E dX0_differentScaled_8 fl_X0_18 rfl (by decide) (by decide) rfl rfl hB.c2 (fun _ _ => ?_)
      refine g_icmp_ge (pc := 11) (tgt := 45) E dX0_differentScaled_11 (by decide) (fun qh11 => ?_) (fun qh11 => ?_) 
      · refine g_iload_n (pc := 45) E dX0_differentScaled_45 (i := 3) rfl rfl ?_
        refine g_iret (pc := 46) E hr dX0_differentScaled_46 ?_
        exact ⟨by rw [ha, show x = S 7 by omega], rfl⟩
      · refine g_aload_n (pc := 14) E dX0_differentScaled_14 (i := 0) rfl rfl ?_
        refine g_iload (pc := 15) E dX0_differentScaled_15 rfl ?_
        refine g_iload_n (pc := 17) E dX0_differentScaled_17 (i := 1) rfl rfl ?_
        refine g_iload_n (pc := 18) E dX0_differentScaled_18 (i := 2) rfl rfl ?_
        refine g_callV (pc := 19) (As := [_, _, _]) E dX0_differentScaled_19 ml_X0_131 (ct_hasRaw hB hV (by omega) (by omega) (by omega) (by omega) (by omega) (by omega)) rfl rfl rfl rfl (by decide) (by decide) rfl (Nat.le_of_ble_eq_true rfl) (by decide) (fun x19 M19 hM19 => ?_)
        obtain ⟨rfl, rfl⟩ := hM19
        refine g_if_eq (pc := 22) (tgt := 39) E dX0_differentScaled_22 (by decide) (fun qh22 => ?_) (fun qh22 => ?_) (Int.le_trans (by decide) (bi_R _).1) (Int.le_trans (bi_R _).2 (by decide))
        · replace qh22 := bi_0.mp qh22
          refine g_iinc (pc := 39) E dX0_differentScaled_39 (ls' := [_, _, _, _, _]) rfl rfl rfl ?_
          refine g_goto (pc := 42) (tgt := 5) E dX0_differentScaled_42 (by decide) ?_
          exact g_wk2 (ih5 (x + 1) a (by omega) (by omega) (by omega) (by rw [sz_s hx0, ha, show (dfF S p cn) x = 0 from if_neg (fun h => qh22 h.1)]; omega)) ⟨rfl, rfl, rfl, rfl, rfl, trivial⟩
        · replace qh22 := bi_n.mp qh22
          refine g_aload_n (pc := 25) E dX0_differentScaled_25 (i := 0) rfl rfl ?_
          refine g_iload (pc := 26) E dX0_differentScaled_26 rfl ?_
          refine g_iload_n (pc := 28) E dX0_differentScaled_28 (i := 1) rfl rfl ?_
          refine g_iload_n (pc := 29) E dX0_differentScaled_29 (i := 2) rfl rfl ?_
          refine g_callV (pc := 30) (As := [_, _, _]) E dX0_differentScaled_30 ml_X0_138 (ct_isFirstOf hB hV (by omega) (by omega) (by omega) (by omega) (by omega) (by omega)) rfl rfl rfl rfl (by decide) (by decide) rfl (Nat.le_of_ble_eq_true rfl) (by decide) (fun x30 M30 hM30 => ?_)
          obtain ⟨rfl, rfl⟩ := hM30
          refine g_if_eq (pc := 33) (tgt := 39) E dX0_differentScaled_33 (by decide) (fun qh33 => ?_) (fun qh33 => ?_) (Int.le_trans (by decide) (bi_R _).1) (Int.le_trans (bi_R _).2 (by decide))
          · replace qh33 := bi_0.mp qh33
            refine g_iinc (pc := 39) E dX0_differentScaled_39 (ls' := [_, _, _, _, _]) rfl rfl rfl ?_
            refine g_goto (pc := 42) (tgt := 5) E dX0_differentScaled_42 (by decide) ?_
            exact g_wk2 (ih5 (x + 1) a (by omega) (by omega) (by omega) (by rw [sz_s hx0, ha, show (dfF S p cn) x = 0 from if_neg (fun h => qh33 h.2)]; omega)) ⟨rfl, rfl, rfl, rfl, rfl, trivial⟩
          · replace qh33 := bi_n.mp qh33
            refine g_iinc (pc := 36) E dX0_differentScaled_36 (ls' := [_, _, _, _, _]) rfl rfl rfl ?_
            refine g_iinc (pc := 39) E dX0_differentScaled_39 (ls' := [_, _, _, _, _]) rfl rfl rfl ?_
            refine g_goto (pc := 42) (tgt := 5) E dX0_differentScaled_42 (by decide) ?_
            exact g_wk2 (ih5 (x + 1) (a + 1) (by omega) (by omega) (by omega) (by rw [sz_s hx0, ha, show (dfF S p cn) x = 1 from if_pos ⟨qh22, qh33⟩])) ⟨rfl, rfl, rfl, rfl, rfl, trivial⟩
  exact g_wk2 (LP5 (S 7 + 1).toNat 0 0 (by omega) (by omega) (by omega) rfl) ⟨rfl, rfl, rfl, rfl, rfl, trivial⟩

theorem ct_resitCount0 {cx : Cx} {M : Mem} {S : Int → Int} (hB : BD M S) (hV : SOK S)  : Ct cx yX0_resitCount cX0_resitCount 3 (some .int) 3 0 0 [rf cx 0] M (fun rz M' => sz (fun p => sz (paF S p 4) (S 7)) (S 6) = rz ∧ M = M') := by
  refine ct_intro cd_X0_resitCount (by decide +kernel) (Nat.le_of_ble_eq_true rfl) rfl (fun Pg Lc Ev s m args below meth c E hr => ?_)
  refine g_ent (ls' := [some (rf cx 0), none, none]) rfl ?_
  have hV0 := hV.1
  have hB0 := hB.c0
  have hB1 := hB.c1
  have hB2 := hB.c2
  have hB3 := hB.c3
  refine g_iconst (pc := 0) E dX0_resitCount_0 rfl ?_
  refine g_istore_n (pc := 1) E dX0_resitCount_1 (i := 1) (ls' := [_, _, _]) rfl (Nat.le_of_ble_eq_true rfl) rfl ?_
  refine g_iconst (pc := 2) E dX0_resitCount_2 rfl ?_
  refine g_istore_n (pc := 3) E dX0_resitCount_3 (i := 2) (ls' := [_, _, _]) rfl (Nat.le_of_ble_eq_true rfl) rfl ?_
  have LP4 : ∀ (n : Nat) (x a : Int), S 6 - x < (n : Int) → 0 ≤ x → x ≤ S 6 → a = sz (fun p => sz (paF S p 4) (S 7)) x → G cx Pg Lc Ev (rmD 3 0 0) s m args below meth c (MQ below (QI cx (fun rz M' => sz (fun p => sz (paF S p 4) (S 7)) (S 6) = rz ∧ M = M')) args s 0 0 (cA0 cx)) 4 [some (rf cx 0), some (.int (oi a)), some (.int (oi x))] [] (M) 0 0 := by
    intro n
    induction n with
    | zero => intro x a hn hx0 hx1 ha; exact absurd hn (by omega)
    | succ n ih4 =>
      intro x a hn hx0 hx1 ha
      refine g_iload_n (pc := 4) E dX0_resitCount_4 (i := 2) rfl rfl ?_
      refine g_aload_n (pc := 5) E dX0_resitCount_5 (i := 0) rfl rfl ?_
      refine g_geti (i := 0) (t := 0) (f := 1) (fz := 1) (pc := 6) E dX0_resitCount_6 fl_X0_15 rfl (by decide) (by decide) rfl rfl hB.c1 (fun _ _ => ?_)
      refine g_icmp_ge (pc := 9) (tgt := 26) E dX0_resitCount_9 (by decide) (fun qh9 => ?_) (fun qh9 => ?_) 
      · refine g_iload_n (pc := 26) E dX0_resitCount_26 (i := 1) rfl rfl ?_
        refine g_iret (pc := 27) E hr dX0_resitCount_27 ?_
        exact ⟨by rw [ha, show x = S 6 by omega], rfl⟩
      · refine g_iload_n (pc := 12) E dX0_resitCount_12 (i := 1) rfl rfl ?_
        refine g_aload_n (pc := 13) E dX0_resitCount_13 (i := 0) rfl rfl ?_
        refine g_iload_n (pc := 14) E dX0_resitCount_14 (i := 2) rfl rfl ?_
        refine g_callV (pc := 15) (As := [_]) E dX0_resitCount_15 ml_X0_141 (ct_resitsIn hB hV (by omega) (by omega)) rfl rfl rfl rfl (by decide) (by decide) rfl (Nat.le_of_ble_eq_true rfl) (by decide) (fun x15 M15 hM15 => ?_)
        obtain ⟨rfl, rfl⟩ := hM15
        refine g_iadd (pc := 18) E dX0_resitCount_18 ?_
        refine g_istore_n (pc := 19) E dX0_resitCount_19 (i := 1) (ls' := [_, _, _]) rfl (Nat.le_of_ble_eq_true rfl) rfl ?_
        refine g_iinc (pc := 20) E dX0_resitCount_20 (ls' := [_, _, _]) rfl rfl rfl ?_
        refine g_goto (pc := 23) (tgt := 4) E dX0_resitCount_23 (by decide) ?_
        exact g_wk2 (ih4 (x + 1) (a + sz (paF S x 4) (S 7)) (by omega) (by omega) (by omega) (by rw [sz_s hx0, ha])) ⟨rfl, rfl, rfl, trivial⟩
  exact g_wk2 (LP4 (S 6 + 1).toNat 0 0 (by omega) (by omega) (by omega) rfl) ⟨rfl, rfl, rfl, trivial⟩

theorem BD.f7s {M : Mem} {S : Int → Int} (h : BD M S) (a : Int) (h0 : 0 ≤ a) (h1 : a < 160) (e : 8 * (a / 8) + a % 8 = a) : M 7 a = S (57 + 3 * (8 * (a / 8) + a % 8)) := by rw [e]; exact h.f7a a h0 h1

theorem ct_absenceCount {cx : Cx} {M : Mem} {S : Int → Int} (hB : BD M S) (hV : SOK S) (hI : SI S) : Ct cx yX0_absenceCount cX0_absenceCount 3 (some .int) 1 0 0 [rf cx 0] M (fun rz M' => sz (acF S 5) (S 8) = rz ∧ M = M') := by
  refine ct_intro cd_X0_absenceCount (by decide +kernel) (Nat.le_of_ble_eq_true rfl) rfl (fun Pg Lc Ev s m args below meth c E hr => ?_)
  refine g_ent (ls' := [some (rf cx 0), none, none]) rfl ?_
  have hV0 := hV.1
  have hB0 := hB.c0
  have hB1 := hB.c1
  have hB2 := hB.c2
  have hB3 := hB.c3
  refine g_iconst (pc := 0) E dX0_absenceCount_0 rfl ?_
  refine g_istore_n (pc := 1) E dX0_absenceCount_1 (i := 1) (ls' := [_, _, _]) rfl (Nat.le_of_ble_eq_true rfl) rfl ?_
  refine g_iconst (pc := 2) E dX0_absenceCount_2 rfl ?_
  refine g_istore_n (pc := 3) E dX0_absenceCount_3 (i := 2) (ls' := [_, _, _]) rfl (Nat.le_of_ble_eq_true rfl) rfl ?_
  have LP4 : ∀ (n : Nat) (x a : Int), S 8 - x < (n : Int) → 0 ≤ x → x ≤ S 8 → a = sz (acF S 5) x → G cx Pg Lc Ev (rmD 1 0 0) s m args below meth c (MQ below (QI cx (fun rz M' => sz (acF S 5) (S 8) = rz ∧ M = M')) args s 0 0 (cA0 cx)) 4 [some (rf cx 0), some (.int (oi a)), some (.int (oi x))] [] (M) 0 0 := by
    intro n
    induction n with
    | zero => intro x a hn hx0 hx1 ha; exact absurd hn (by omega)
    | succ n ih4 =>
      intro x a hn hx0 hx1 ha
      refine g_iload_n (pc := 4) E dX0_absenceCount_4 (i := 2) rfl rfl ?_
      refine g_aload_n (pc := 5) E dX0_absenceCount_5 (i := 0) rfl rfl ?_
      refine g_geti (i := 0) (t := 0) (f := 3) (fz := 3) (pc := 6) E dX0_absenceCount_6 fl_X0_21 rfl (by decide) (by decide) rfl rfl hB.c3 (fun _ _ => ?_)
      refine g_icmp_ge (pc := 9) (tgt := 36) E dX0_absenceCount_9 (by decide) (fun qh9 => ?_) (fun qh9 => ?_) 
      · refine g_iload_n (pc := 36) E dX0_absenceCount_36 (i := 1) rfl rfl ?_
        refine g_iret (pc := 37) E hr dX0_absenceCount_37 ?_
        exact ⟨by rw [ha, show x = S 8 by omega], rfl⟩
      · have hoj := hI.1.2.1 x (by omega) (by omega)
        have e8 : 8 * (S (585 + x) / 8) + S (585 + x) % 8 = S (585 + x) := by omega
        have hVa := hV.2.2.2.2.1 (S (585 + x) / 8) (S (585 + x) % 8) (by omega) (by omega) (by omega) (by omega)
        rw [e8] at hVa
        refine g_aload_n (pc := 12) E dX0_absenceCount_12 (i := 0) rfl rfl ?_
        refine g_getr (i := 0) (j := 7) (t := 0) (f := 10) (pc := 13) E dX0_absenceCount_13 fl_X0_43 rfl (by decide) (by decide) rfl rfl ?_
        refine g_aload_n (pc := 16) E dX0_absenceCount_16 (i := 0) rfl rfl ?_
        refine g_getr (i := 0) (j := 10) (t := 0) (f := 13) (pc := 17) E dX0_absenceCount_17 fl_X0_52 rfl (by decide) (by decide) rfl rfl ?_
        refine g_iload_n (pc := 20) E dX0_absenceCount_20 (i := 2) rfl rfl ?_
        refine g_iald (q := 160) (pc := 21) E dX0_absenceCount_21 rfl (by omega) (by omega) (hB.f10 x (by omega) (by omega)) (fun _ _ => ?_)
        refine g_iald (q := 160) (pc := 22) E dX0_absenceCount_22 rfl (by omega) (by omega) (hB.f7a _ (by omega) (by omega)) (fun _ _ => ?_)
        refine g_iconst (pc := 23) E dX0_absenceCount_23 rfl ?_
        refine g_icmp_eq (pc := 24) (tgt := 30) E dX0_absenceCount_24 (by decide) (fun qh24 => ?_) (fun qh24 => ?_) 
        · refine g_iinc (pc := 30) E dX0_absenceCount_30 (ls' := [_, _, _]) rfl rfl rfl ?_
          refine g_goto (pc := 33) (tgt := 4) E dX0_absenceCount_33 (by decide) ?_
          exact g_wk2 (ih4 (x + 1) a (by omega) (by omega) (by omega) (by rw [sz_s hx0, ha, show (acF S 5) x = 0 from by rw [acF, if_neg (by omega), if_pos rfl, e8, if_neg (by omega)]]; omega)) ⟨rfl, rfl, rfl, trivial⟩
        · refine g_iinc (pc := 27) E dX0_absenceCount_27 (ls' := [_, _, _]) rfl rfl rfl ?_
          refine g_iinc (pc := 30) E dX0_absenceCount_30 (ls' := [_, _, _]) rfl rfl rfl ?_
          refine g_goto (pc := 33) (tgt := 4) E dX0_absenceCount_33 (by decide) ?_
          exact g_wk2 (ih4 (x + 1) (a + 1) (by omega) (by omega) (by omega) (by rw [sz_s hx0, ha, show (acF S 5) x = 1 from by rw [acF, if_neg (by omega), if_pos rfl, e8, if_pos (by omega)]])) ⟨rfl, rfl, rfl, trivial⟩
  exact g_wk2 (LP4 (S 8 + 1).toNat 0 0 (by omega) (by omega) (by omega) rfl) ⟨rfl, rfl, rfl, trivial⟩

theorem ct_markSum {cx : Cx} {M : Mem} {S : Int → Int} (hB : BD M S) (hV : SOK S) (hI : SI S) : Ct cx yX0_markSum cX0_markSum 3 (some .int) 5 0 0 [rf cx 0] M (fun rz M' => sz (acF S 6) (S 8) = rz ∧ M = M') := by
  refine ct_intro cd_X0_markSum (by decide +kernel) (Nat.le_of_ble_eq_true rfl) rfl (fun Pg Lc Ev s m args below meth c E hr => ?_)
  refine g_ent (ls' := [some (rf cx 0), none, none]) rfl ?_
  have hV0 := hV.1
  have hB0 := hB.c0
  have hB1 := hB.c1
  have hB2 := hB.c2
  have hB3 := hB.c3
  refine g_iconst (pc := 0) E dX0_markSum_0 rfl ?_
  refine g_istore_n (pc := 1) E dX0_markSum_1 (i := 1) (ls' := [_, _, _]) rfl (Nat.le_of_ble_eq_true rfl) rfl ?_
  refine g_iconst (pc := 2) E dX0_markSum_2 rfl ?_
  refine g_istore_n (pc := 3) E dX0_markSum_3 (i := 2) (ls' := [_, _, _]) rfl (Nat.le_of_ble_eq_true rfl) rfl ?_
  have LP4 : ∀ (n : Nat) (x a : Int), S 8 - x < (n : Int) → 0 ≤ x → x ≤ S 8 → a = sz (acF S 6) x → G cx Pg Lc Ev (rmD 5 0 0) s m args below meth c (MQ below (QI cx (fun rz M' => sz (acF S 6) (S 8) = rz ∧ M = M')) args s 0 0 (cA0 cx)) 4 [some (rf cx 0), some (.int (oi a)), some (.int (oi x))] [] (M) 0 0 := by
    intro n
    induction n with
    | zero => intro x a hn hx0 hx1 ha; exact absurd hn (by omega)
    | succ n ih4 =>
      intro x a hn hx0 hx1 ha
      refine g_iload_n (pc := 4) E dX0_markSum_4 (i := 2) rfl rfl ?_
      refine g_aload_n (pc := 5) E dX0_markSum_5 (i := 0) rfl rfl ?_
      refine g_geti (i := 0) (t := 0) (f := 3) (fz := 3) (pc := 6) E dX0_markSum_6 fl_X0_21 rfl (by decide) (by decide) rfl rfl hB.c3 (fun _ _ => ?_)
      refine g_icmp_ge (pc := 9) (tgt := 43) E dX0_markSum_9 (by decide) (fun qh9 => ?_) (fun qh9 => ?_) 
      · refine g_iload_n (pc := 43) E dX0_markSum_43 (i := 1) rfl rfl ?_
        refine g_iret (pc := 44) E hr dX0_markSum_44 ?_
        exact ⟨by rw [ha, show x = S 8 by omega], rfl⟩
      · have hoj := hI.1.2.1 x (by omega) (by omega)
        have e8 : 8 * (S (585 + x) / 8) + S (585 + x) % 8 = S (585 + x) := by omega
        refine g_iload_n (pc := 12) E dX0_markSum_12 (i := 1) rfl rfl ?_
        refine g_aload_n (pc := 13) E dX0_markSum_13 (i := 0) rfl rfl ?_
        refine g_aload_n (pc := 14) E dX0_markSum_14 (i := 0) rfl rfl ?_
        refine g_getr (i := 0) (j := 10) (t := 0) (f := 13) (pc := 15) E dX0_markSum_15 fl_X0_52 rfl (by decide) (by decide) rfl rfl ?_
        refine g_iload_n (pc := 18) E dX0_markSum_18 (i := 2) rfl rfl ?_
        refine g_iald (q := 160) (pc := 19) E dX0_markSum_19 rfl (by omega) (by omega) (hB.f10 x (by omega) (by omega)) (fun _ _ => ?_)
        refine g_bipush (pc := 20) E dX0_markSum_20 rfl ?_
        refine g_idiv (pc := 22) E dX0_markSum_22 (by omega) (by omega) (by omega) (by omega) ?_
        refine g_aload_n (pc := 23) E dX0_markSum_23 (i := 0) rfl rfl ?_
        refine g_getr (i := 0) (j := 10) (t := 0) (f := 13) (pc := 24) E dX0_markSum_24 fl_X0_52 rfl (by decide) (by decide) rfl rfl ?_
        refine g_iload_n (pc := 27) E dX0_markSum_27 (i := 2) rfl rfl ?_
        refine g_iald (q := 160) (pc := 28) E dX0_markSum_28 rfl (by omega) (by omega) (hB.f10 x (by omega) (by omega)) (fun _ _ => ?_)
        refine g_bipush (pc := 29) E dX0_markSum_29 rfl ?_
        refine g_irem (pc := 31) E dX0_markSum_31 (by omega) (by omega) (by omega) (by omega) ?_
        refine g_callV (pc := 32) (As := [_, _]) E dX0_markSum_32 ml_X0_145 (ct_finalMark hB hV (by omega) (by omega) (by omega) (by omega)) rfl rfl rfl rfl (by decide) (by decide) rfl (Nat.le_of_ble_eq_true rfl) (by decide) (fun x32 M32 hM32 => ?_)
        obtain ⟨rfl, rfl⟩ := hM32
        refine g_iadd (pc := 35) E dX0_markSum_35 ?_
        refine g_istore_n (pc := 36) E dX0_markSum_36 (i := 1) (ls' := [_, _, _]) rfl (Nat.le_of_ble_eq_true rfl) rfl ?_
        refine g_iinc (pc := 37) E dX0_markSum_37 (ls' := [_, _, _]) rfl rfl rfl ?_
        refine g_goto (pc := 40) (tgt := 4) E dX0_markSum_40 (by decide) ?_
        exact g_wk2 (ih4 (x + 1) (a + mkS S (S (585 + x) / 8) (S (585 + x) % 8)) (by omega) (by omega) (by omega) (by rw [sz_s hx0, ha, show (acF S 6) x = mkS S (S (585 + x) / 8) (S (585 + x) % 8) from by rw [acF, if_neg (by omega), if_neg (by omega)]])) ⟨rfl, rfl, rfl, trivial⟩
  exact g_wk2 (LP4 (S 8 + 1).toNat 0 0 (by omega) (by omega) (by omega) rfl) ⟨rfl, rfl, rfl, trivial⟩

theorem ct_countingCredits {cx : Cx} {M : Mem} {S : Int → Int} (hB : BD M S) (hV : SOK S)  : Ct cx yX0_countingCredits cX0_countingCredits 3 (some .int) 2 0 0 [rf cx 0] M (fun rz M' => allS S = rz ∧ M = M') := by
  refine ct_intro cd_X0_countingCredits (by decide +kernel) (Nat.le_of_ble_eq_true rfl) rfl (fun Pg Lc Ev s m args below meth c E hr => ?_)
  refine g_ent (ls' := [some (rf cx 0), none, none]) rfl ?_
  have hV0 := hV.1
  have hB0 := hB.c0
  have hB1 := hB.c1
  have hB2 := hB.c2
  have hB3 := hB.c3
  refine g_iconst (pc := 0) E dX0_countingCredits_0 rfl ?_
  refine g_istore_n (pc := 1) E dX0_countingCredits_1 (i := 1) (ls' := [_, _, _]) rfl (Nat.le_of_ble_eq_true rfl) rfl ?_
  refine g_iconst (pc := 2) E dX0_countingCredits_2 rfl ?_
  refine g_istore_n (pc := 3) E dX0_countingCredits_3 (i := 2) (ls' := [_, _, _]) rfl (Nat.le_of_ble_eq_true rfl) rfl ?_
  have LP4 : ∀ (n : Nat) (x a : Int), S 5 - x < (n : Int) → 0 ≤ x → x ≤ S 5 → a = sz (aF S) x → G cx Pg Lc Ev (rmD 2 0 0) s m args below meth c (MQ below (QI cx (fun rz M' => allS S = rz ∧ M = M')) args s 0 0 (cA0 cx)) 4 [some (rf cx 0), some (.int (oi a)), some (.int (oi x))] [] (M) 0 0 := by
    intro n
    induction n with
    | zero => intro x a hn hx0 hx1 ha; exact absurd hn (by omega)
    | succ n ih4 =>
      intro x a hn hx0 hx1 ha
      refine g_iload_n (pc := 4) E dX0_countingCredits_4 (i := 2) rfl rfl ?_
      refine g_aload_n (pc := 5) E dX0_countingCredits_5 (i := 0) rfl rfl ?_
      refine g_geti (i := 0) (t := 0) (f := 0) (fz := 0) (pc := 6) E dX0_countingCredits_6 fl_X0_9 rfl (by decide) (by decide) rfl rfl hB.c0 (fun _ _ => ?_)
      refine g_icmp_ge (pc := 9) (tgt := 35) E dX0_countingCredits_9 (by decide) (fun qh9 => ?_) (fun qh9 => ?_) 
      · refine g_iload_n (pc := 35) E dX0_countingCredits_35 (i := 1) rfl rfl ?_
        refine g_iret (pc := 36) E hr dX0_countingCredits_36 ?_
        exact ⟨by rw [ha, show x = S 5 by omega]; rfl, rfl⟩
      · refine g_aload_n (pc := 12) E dX0_countingCredits_12 (i := 0) rfl rfl ?_
        refine g_iload_n (pc := 13) E dX0_countingCredits_13 (i := 2) rfl rfl ?_
        refine g_callV (pc := 14) (As := [_]) E dX0_countingCredits_14 ml_X0_148 (ct_papersOf hB hV (by omega)) rfl rfl rfl rfl (by decide) (by decide) rfl (Nat.le_of_ble_eq_true rfl) (by decide) (fun x14 M14 hM14 => ?_)
        obtain ⟨rfl, rfl⟩ := hM14
        have hpR := pcnt_R S x
        have hpR2 : pcnt S x ≤ 8 := by have := sz_R (f := pcF S x) (a := 0) (b := 1) (x := S 6) (by omega) (fun j _ _ => pcF_R S x j); unfold pcnt; omega
        refine g_if_le (pc := 17) (tgt := 29) E dX0_countingCredits_17 (by decide) (fun qh17 => ?_) (fun qh17 => ?_) 
        · refine g_iinc (pc := 29) E dX0_countingCredits_29 (ls' := [_, _, _]) rfl rfl rfl ?_
          refine g_goto (pc := 32) (tgt := 4) E dX0_countingCredits_32 (by decide) ?_
          exact g_wk2 (ih4 (x + 1) a (by omega) (by omega) (by omega) (by rw [sz_s hx0, ha, show (aF S) x = 0 from if_neg (by omega)]; omega)) ⟨rfl, rfl, rfl, trivial⟩
        · refine g_iload_n (pc := 20) E dX0_countingCredits_20 (i := 1) rfl rfl ?_
          refine g_aload_n (pc := 21) E dX0_countingCredits_21 (i := 0) rfl rfl ?_
          refine g_getr (i := 0) (j := 2) (t := 0) (f := 5) (pc := 22) E dX0_countingCredits_22 fl_X0_28 rfl (by decide) (by decide) rfl rfl ?_
          refine g_iload_n (pc := 25) E dX0_countingCredits_25 (i := 2) rfl rfl ?_
          refine g_iald (q := 4) (pc := 26) E dX0_countingCredits_26 rfl (by omega) (by omega) (hB.f2 _ (by omega) (by omega)) (fun _ _ => ?_)
          refine g_iadd (pc := 27) E dX0_countingCredits_27 ?_
          refine g_istore_n (pc := 28) E dX0_countingCredits_28 (i := 1) (ls' := [_, _, _]) rfl (Nat.le_of_ble_eq_true rfl) rfl ?_
          refine g_iinc (pc := 29) E dX0_countingCredits_29 (ls' := [_, _, _]) rfl rfl rfl ?_
          refine g_goto (pc := 32) (tgt := 4) E dX0_countingCredits_32 (by decide) ?_
          exact g_wk2 (ih4 (x + 1) (a + S (9 + x)) (by omega) (by omega) (by omega) (by rw [sz_s hx0, ha, show (aF S) x = S (9 + x) from if_pos (by omega)])) ⟨rfl, rfl, rfl, trivial⟩
  exact g_wk2 (LP4 (S 5 + 1).toNat 0 0 (by omega) (by omega) (by omega) rfl) ⟨rfl, rfl, rfl, trivial⟩

/-- a sum over the entries is one over the pairs -/
theorem sz_ord {S : Int → Int} (hI : SO S) (g : Int → Int) : sz (fun i => g (S (585 + i))) (S 8) = sz (fun a => if S (57 + 3 * a) = 0 then 0 else g a) 160 := by
  have h8 := hI.1.1
  have e1 : sz (fun i => g (S (585 + i))) (S 8) = sz (fun i => sz (fun a => if S (585 + i) = a then g a else 0) 160) (S 8) := sz_c (fun i a b => by
    have hj := hI.2.1 i a b
    rw [sz_1 (x := S (585 + i)) (by omega) (fun j _ _ q => if_neg (fun z => q z.symm)), if_pos ⟨hj.1, hj.2.1⟩, if_pos rfl])
  rw [e1, sz_swap (fun i a => if S (585 + i) = a then g a else 0) (by omega)]
  refine sz_c (fun a a0 a1 => ?_)
  by_cases hz : S (57 + 3 * a) = 0
  · rw [if_pos hz]
    refine sz_z (fun i i0 i1 => if_neg (fun q => ?_))
    have := (hI.2.1 i i0 i1).2.2.2.2
    rw [q] at this
    exact this hz
  · rw [if_neg hz]
    obtain ⟨i, i0, i1, e⟩ := hI.2.2.2 a a0 a1 hz
    rw [sz_1 (x := i) (by omega) (fun j j0 j1 q => if_neg (fun z => ?_)), if_pos ⟨i0, i1⟩, if_pos e]
    rcases Int.lt_or_gt_of_ne q with l | l
    · exact hI.2.2.1 j i j0 l i1 (z.trans e.symm)
    · exact hI.2.2.1 i j i0 l j1 (e.trans z.symm)
/-- rows of eight -/
theorem sz_8 (f : Int → Int) : ∀ k : Nat, sz f (8 * k) = sz (fun s => sz (fun p => f (8 * s + p)) 8) k
  | 0 => rfl
  | k + 1 => by
    have e : ((k + 1 : Nat) : Int) = (k : Int) + 1 := rfl
    rw [e, sz_s (x := (k : Int)) (by omega), ← sz_8 f k, show 8 * ((k : Int) + 1) = 8 * k + 1 + 1 + 1 + 1 + 1 + 1 + 1 + 1 by omega]
    rw [sz_s (by omega), sz_s (by omega), sz_s (by omega), sz_s (by omega), sz_s (by omega), sz_s (by omega), sz_s (by omega), sz_s (by omega)]
    show _ = sz f (8 * k) + (0 + f (8 * k + 0) + f (8 * k + 1) + f (8 * k + 2) + f (8 * k + 3) + f (8 * k + 4) + f (8 * k + 5) + f (8 * k + 6) + f (8 * k + 7))
    rw [show 8 * (k : Int) + 1 + 1 + 1 + 1 + 1 + 1 + 1 = 8 * k + 7 by omega, show 8 * (k : Int) + 1 + 1 + 1 + 1 + 1 + 1 = 8 * k + 6 by omega, show 8 * (k : Int) + 1 + 1 + 1 + 1 + 1 = 8 * k + 5 by omega, show 8 * (k : Int) + 1 + 1 + 1 + 1 = 8 * k + 4 by omega, show 8 * (k : Int) + 1 + 1 + 1 = 8 * k + 3 by omega, show 8 * (k : Int) + 1 + 1 = 8 * k + 2 by omega, show 8 * (k : Int) + 0 = 8 * k by omega]
    omega
theorem smN_add (f : Int → Int) (k : Nat) : ∀ d : Nat, smN f (k + d) = smN f k + smN (fun j => f (k + j)) d
  | 0 => by show smN f k = smN f k + 0; omega
  | d + 1 => by
    show smN f (k + d) + f ((k + d : Nat) : Int) = smN f k + (smN (fun j => f (k + j)) d + f ((k : Int) + (d : Int)))
    rw [smN_add f k d, show ((k + d : Nat) : Int) = (k : Int) + (d : Int) from rfl]
    omega
/-- zeros at the end -/
theorem sz_tail {f : Int → Int} {x y : Int} (h0 : 0 ≤ x) (h : x ≤ y) (hz : ∀ j, x ≤ j → j < y → f j = 0) : sz f y = sz f x := by
  unfold sz
  obtain ⟨d, hd⟩ : ∃ d : Nat, y.toNat = x.toNat + d := ⟨y.toNat - x.toNat, by omega⟩
  rw [hd, smN_add]
  have : smN (fun j => f (((x.toNat : Nat) : Int) + j)) d = 0 := by
    have := sz_z (f := fun j => f (((x.toNat : Nat) : Int) + j)) (x := (d : Int)) (fun j a b => hz _ (by omega) (by omega))
    exact this
  omega
def rsF (S : Int → Int) (a : Int) : Int := if 0 ≤ S (57 + 3 * a + 2) then 1 else 0
theorem pa4 (S : Int → Int) (p s : Int) : paF S p 4 s = rsF S (8 * s + p) := by rw [paF, if_neg (by decide), if_pos rfl]; rfl
/-- resits, by papers and by entries -/
theorem rc_eq {S : Int → Int} (hI : SI S) : sz (fun p => sz (paF S p 4) (S 7)) (S 6) = sz (acF S 4) (S 8) := by
  have hV := hI.1.1
  have h0 := hV.1
  have e1 : sz (acF S 4) (S 8) = sz (fun i => rsF S (S (585 + i))) (S 8) := sz_c (fun i a b => by
    have := hI.1.2.1 i a b
    rw [rsF, acF, if_pos rfl, show 8 * (S (585 + i) / 8) + S (585 + i) % 8 = S (585 + i) by omega])
  rw [e1, sz_ord hI.1 (rsF S)]
  have e2 := sz_8 (fun a => if S (57 + 3 * a) = 0 then 0 else rsF S a) 20
  rw [show (8 : Int) * ((20 : Nat) : Int) = 160 from rfl] at e2
  rw [e2, show ((20 : Nat) : Int) = 20 from rfl]
  rw [sz_swap (fun p s => paF S p 4 s) (by omega)]
  have e3 : ∀ s, 0 ≤ s → s < 20 → sz (fun p => if S (57 + 3 * (8 * s + p)) = 0 then (0 : Int) else rsF S (8 * s + p)) 8 = if s < S 7 then sz (fun p => paF S p 4 s) (S 6) else 0 := fun s a b => by
    by_cases hs : s < S 7
    · rw [if_pos hs, sz_tail (x := S 6) (by omega) (by omega) (fun p c d => if_pos (SO_out hI.1 (a := 8 * s + p) (by omega) (by omega) (by omega)))]
      refine sz_c (fun p c d => ?_)
      have hA := hV.2.2.2.2.1 s p a hs c d
      rw [pa4]
      by_cases q : S (57 + 3 * (8 * s + p)) = 0
      · rw [if_pos q, rsF, if_neg (by omega)]
      · rw [if_neg q]
    · rw [if_neg hs]
      exact sz_z (fun p c d => if_pos (SO_out hI.1 (a := 8 * s + p) (by omega) (by omega) (by omega)))
  rw [sz_c e3, sz_tail (x := S 7) (y := 20) (by omega) (by omega) (fun j a b => if_neg (by omega))]
  exact sz_c (fun s a b => (if_pos b).symm)
theorem ct_resitCount {cx : Cx} {M : Mem} {S : Int → Int} (hB : BD M S) (hV : SOK S) (hI : SI S) : Ct cx yX0_resitCount cX0_resitCount 3 (some .int) 3 0 0 [rf cx 0] M (fun rz M' => sz (acF S 4) (S 8) = rz ∧ M = M') := by
  rw [← rc_eq hI]
  exact ct_resitCount0 hB hV
