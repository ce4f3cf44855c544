abbrev setOK (w v : Int) : Prop := (w = 0 ∧ 30 ≤ v ∧ v ≤ 60) ∨ (w = 1 ∧ 0 ≤ v ∧ v ≤ 60) ∨ (w = 2 ∧ 0 ≤ v ∧ v ≤ 8) ∨ (w = 3 ∧ 0 ≤ v ∧ v ≤ 5) ∨ (w = 4 ∧ 0 ≤ v ∧ v ≤ 100)
abbrev ruleOK (r v : Int) : Prop := (r = 0 ∧ v = 0) ∨ (r = 1 ∧ -30 ≤ v ∧ v ≤ 30) ∨ (r = 2 ∧ 50 ≤ v ∧ v ≤ 150) ∨ (r = 3 ∧ 0 ≤ v ∧ v ≤ 100)
def pcF (S : Int → Int) (m p : Int) : Int := if S (13 + 3 * p) = m then 1 else 0
/-- how many papers a module has -/
def pcnt (S : Int → Int) (m : Int) : Int := sz (pcF S m) (S 6)
theorem smN_pos {f : Int → Int} : ∀ k : Nat, (∀ j : Int, 0 ≤ j → j < k → 0 ≤ f j) → 0 ≤ smN f k
  | 0, _ => by simp [smN]
  | k + 1, h => by
    have h1 := smN_pos k (fun j h0 h1 => h j h0 (by omega))
    have h2 := h k (by omega) (by omega)
    show 0 ≤ smN f k + f k
    omega
theorem smN_ge {f : Int → Int} : ∀ k : Nat, (∀ j : Int, 0 ≤ j → j < k → 0 ≤ f j) → ∀ x : Int, 0 ≤ x → x < k → f x ≤ smN f k
  | 0, _, x, h0, h1 => by omega
  | k + 1, h, x, h0, h1 => by
    have h2 := smN_pos k (fun j h0 h1 => h j h0 (by omega))
    have h3 := h k (by omega) (by omega)
    show f x ≤ smN f k + f k
    by_cases hx : x = k
    · subst hx; omega
    · have := smN_ge k (fun j h0 h1 => h j h0 (by omega)) x h0 (by omega)
      omega
theorem sz_ge {f : Int → Int} {n x : Int} (h : ∀ j : Int, 0 ≤ j → j < n → 0 ≤ f j) (h0 : 0 ≤ x) (h1 : x < n) : f x ≤ sz f n := smN_ge n.toNat (fun j a b => h j a (by omega)) x h0 (by omega)
theorem sz_pos {f : Int → Int} {n : Int} (h : ∀ j : Int, 0 ≤ j → j < n → 0 ≤ f j) : 0 ≤ sz f n := smN_pos n.toNat (fun j a b => h j a (by omega))
theorem pcF_R (S : Int → Int) (m p : Int) : 0 ≤ pcF S m p ∧ pcF S m p ≤ 1 := by unfold pcF; split <;> omega
theorem pcnt_R (S : Int → Int) (m : Int) : 0 ≤ pcnt S m := sz_pos (fun j _ _ => (pcF_R S m j).1)

theorem ct_isSetting {cx : Cx} {M : Mem} {w v : Int} (hw : -2147483648 ≤ w ∧ w ≤ 2147483647) (hv : -2147483648 ≤ v ∧ v ≤ 2147483647) : Ct cx yX6_isSetting cX6_isSetting 2 (some .boolean) 2 0 0 [.int (oi w), .int (oi v)] M (fun rz M' => bi (setOK w v) = rz ∧ M = M') := by
  refine ct_intro cd_X6_isSetting (by decide +kernel) (Nat.le_of_ble_eq_true rfl) rfl (fun Pg Lc Ev s m args below meth c E hr => ?_)
  refine g_ent (ls' := [some (.int (oi w)), some (.int (oi v))]) rfl ?_
  refine g_iload_n (pc := 0) E dX6_isSetting_0 (i := 0) rfl rfl ?_
  by_cases qs1_0 : w = 0
  · refine g_tableIn (pc := 1) (tgt := 36) (off := 35) E dX6_isSetting_1 (by omega) (by omega) (by rw [qs1_0]; rfl) (by decide) ?_
    refine g_iload_n (pc := 36) E dX6_isSetting_36 (i := 1) rfl rfl ?_
    refine g_bipush (pc := 37) E dX6_isSetting_37 rfl ?_
    refine g_bipush (pc := 39) E dX6_isSetting_39 rfl ?_
    refine g_callS (pc := 41) (As := [_, _, _]) E dX6_isSetting_41 ml_X6_66 (ct_in (by omega) (by omega) (by omega)) rfl rfl (by decide) (by decide) rfl (Nat.le_of_ble_eq_true rfl) (by decide) (fun x41 M41 hM41 => ?_)
    obtain ⟨rfl, rfl⟩ := hM41
    refine g_zret (pc := 44) E hr dX6_isSetting_44 (by first | exact Or.inl rfl | exact Or.inr rfl | exact bi_in _ | omega) ?_
    exact ⟨bi_c (by unfold setOK; omega), rfl⟩
  by_cases qs1_1 : w = 1
  · refine g_tableIn (pc := 1) (tgt := 45) (off := 44) E dX6_isSetting_1 (by omega) (by omega) (by rw [qs1_1]; rfl) (by decide) ?_
    refine g_iload_n (pc := 45) E dX6_isSetting_45 (i := 1) rfl rfl ?_
    refine g_iconst (pc := 46) E dX6_isSetting_46 rfl ?_
    refine g_bipush (pc := 47) E dX6_isSetting_47 rfl ?_
    refine g_callS (pc := 49) (As := [_, _, _]) E dX6_isSetting_49 ml_X6_66 (ct_in (by omega) (by omega) (by omega)) rfl rfl (by decide) (by decide) rfl (Nat.le_of_ble_eq_true rfl) (by decide) (fun x49 M49 hM49 => ?_)
    obtain ⟨rfl, rfl⟩ := hM49
    refine g_zret (pc := 52) E hr dX6_isSetting_52 (by first | exact Or.inl rfl | exact Or.inr rfl | exact bi_in _ | omega) ?_
    exact ⟨bi_c (by unfold setOK; omega), rfl⟩
  by_cases qs1_2 : w = 2
  · refine g_tableIn (pc := 1) (tgt := 53) (off := 52) E dX6_isSetting_1 (by omega) (by omega) (by rw [qs1_2]; rfl) (by decide) ?_
    refine g_iload_n (pc := 53) E dX6_isSetting_53 (i := 1) rfl rfl ?_
    refine g_iconst (pc := 54) E dX6_isSetting_54 rfl ?_
    refine g_bipush (pc := 55) E dX6_isSetting_55 rfl ?_
    refine g_callS (pc := 57) (As := [_, _, _]) E dX6_isSetting_57 ml_X6_66 (ct_in (by omega) (by omega) (by omega)) rfl rfl (by decide) (by decide) rfl (Nat.le_of_ble_eq_true rfl) (by decide) (fun x57 M57 hM57 => ?_)
    obtain ⟨rfl, rfl⟩ := hM57
    refine g_zret (pc := 60) E hr dX6_isSetting_60 (by first | exact Or.inl rfl | exact Or.inr rfl | exact bi_in _ | omega) ?_
    exact ⟨bi_c (by unfold setOK; omega), rfl⟩
  by_cases qs1_3 : w = 3
  · refine g_tableIn (pc := 1) (tgt := 61) (off := 60) E dX6_isSetting_1 (by omega) (by omega) (by rw [qs1_3]; rfl) (by decide) ?_
    refine g_iload_n (pc := 61) E dX6_isSetting_61 (i := 1) rfl rfl ?_
    refine g_iconst (pc := 62) E dX6_isSetting_62 rfl ?_
    refine g_iconst (pc := 63) E dX6_isSetting_63 rfl ?_
    refine g_callS (pc := 64) (As := [_, _, _]) E dX6_isSetting_64 ml_X6_66 (ct_in (by omega) (by omega) (by omega)) rfl rfl (by decide) (by decide) rfl (Nat.le_of_ble_eq_true rfl) (by decide) (fun x64 M64 hM64 => ?_)
    obtain ⟨rfl, rfl⟩ := hM64
    refine g_zret (pc := 67) E hr dX6_isSetting_67 (by first | exact Or.inl rfl | exact Or.inr rfl | exact bi_in _ | omega) ?_
    exact ⟨bi_c (by unfold setOK; omega), rfl⟩
  by_cases qs1_4 : w = 4
  · refine g_tableIn (pc := 1) (tgt := 68) (off := 67) E dX6_isSetting_1 (by omega) (by omega) (by rw [qs1_4]; rfl) (by decide) ?_
    refine g_iload_n (pc := 68) E dX6_isSetting_68 (i := 1) rfl rfl ?_
    refine g_iconst (pc := 69) E dX6_isSetting_69 rfl ?_
    refine g_bipush (pc := 70) E dX6_isSetting_70 rfl ?_
    refine g_callS (pc := 72) (As := [_, _, _]) E dX6_isSetting_72 ml_X6_66 (ct_in (by omega) (by omega) (by omega)) rfl rfl (by decide) (by decide) rfl (Nat.le_of_ble_eq_true rfl) (by decide) (fun x72 M72 hM72 => ?_)
    obtain ⟨rfl, rfl⟩ := hM72
    refine g_zret (pc := 75) E hr dX6_isSetting_75 (by first | exact Or.inl rfl | exact Or.inr rfl | exact bi_in _ | omega) ?_
    exact ⟨bi_c (by unfold setOK; omega), rfl⟩
  refine g_tableOut (pc := 1) (tgt := 76) E dX6_isSetting_1 (by omega) (by decide) ?_
  refine g_iconst (pc := 76) E dX6_isSetting_76 rfl ?_
  refine g_zret (pc := 77) E hr dX6_isSetting_77 (by first | exact Or.inl rfl | exact Or.inr rfl | exact bi_in _ | omega) ?_
  exact ⟨bi_f (by unfold setOK; omega), rfl⟩

theorem ct_isRule {cx : Cx} {M : Mem} {r v : Int} (hr : -2147483648 ≤ r ∧ r ≤ 2147483647) (hv : -2147483648 ≤ v ∧ v ≤ 2147483647) : Ct cx yX6_isRule cX6_isRule 2 (some .boolean) 2 0 0 [.int (oi r), .int (oi v)] M (fun rz M' => bi (ruleOK r v) = rz ∧ M = M') := by
  refine ct_intro cd_X6_isRule (by decide +kernel) (Nat.le_of_ble_eq_true rfl) rfl (fun Pg Lc Ev s m args below meth c E hr => ?_)
  refine g_ent (ls' := [some (.int (oi r)), some (.int (oi v))]) rfl ?_
  refine g_iload_n (pc := 0) E dX6_isRule_0 (i := 0) rfl rfl ?_
  by_cases qs1_0 : r = 0
  · refine g_tableIn (pc := 1) (tgt := 32) (off := 31) E dX6_isRule_1 (by omega) (by omega) (by rw [qs1_0]; rfl) (by decide) ?_
    refine g_iload_n (pc := 32) E dX6_isRule_32 (i := 1) rfl rfl ?_
    refine g_if_ne (pc := 33) (tgt := 40) E dX6_isRule_33 (by decide) (fun qh33 => ?_) (fun qh33 => ?_) 
    · refine g_iconst (pc := 40) E dX6_isRule_40 rfl ?_
      refine g_zret (pc := 41) E hr dX6_isRule_41 (by first | exact Or.inl rfl | exact Or.inr rfl | exact bi_in _ | omega) ?_
      exact ⟨bi_f (by unfold ruleOK; omega), rfl⟩
    · refine g_iconst (pc := 36) E dX6_isRule_36 rfl ?_
      refine g_goto (pc := 37) (tgt := 41) E dX6_isRule_37 (by decide) ?_
      refine g_zret (pc := 41) E hr dX6_isRule_41 (by first | exact Or.inl rfl | exact Or.inr rfl | exact bi_in _ | omega) ?_
      exact ⟨bi_t (by unfold ruleOK; omega), rfl⟩
  by_cases qs1_1 : r = 1
  · refine g_tableIn (pc := 1) (tgt := 42) (off := 41) E dX6_isRule_1 (by omega) (by omega) (by rw [qs1_1]; rfl) (by decide) ?_
    refine g_iload_n (pc := 42) E dX6_isRule_42 (i := 1) rfl rfl ?_
    refine g_bipush (pc := 43) E dX6_isRule_43 rfl ?_
    refine g_bipush (pc := 45) E dX6_isRule_45 rfl ?_
    refine g_callS (pc := 47) (As := [_, _, _]) E dX6_isRule_47 ml_X6_66 (ct_in (by omega) (by omega) (by omega)) rfl rfl (by decide) (by decide) rfl (Nat.le_of_ble_eq_true rfl) (by decide) (fun x47 M47 hM47 => ?_)
    obtain ⟨rfl, rfl⟩ := hM47
    refine g_zret (pc := 50) E hr dX6_isRule_50 (by first | exact Or.inl rfl | exact Or.inr rfl | exact bi_in _ | omega) ?_
    exact ⟨bi_c (by unfold ruleOK; omega), rfl⟩
  by_cases qs1_2 : r = 2
  · refine g_tableIn (pc := 1) (tgt := 51) (off := 50) E dX6_isRule_1 (by omega) (by omega) (by rw [qs1_2]; rfl) (by decide) ?_
    refine g_iload_n (pc := 51) E dX6_isRule_51 (i := 1) rfl rfl ?_
    refine g_bipush (pc := 52) E dX6_isRule_52 rfl ?_
    refine g_sipush (pc := 54) E dX6_isRule_54 rfl ?_
    refine g_callS (pc := 57) (As := [_, _, _]) E dX6_isRule_57 ml_X6_66 (ct_in (by omega) (by omega) (by omega)) rfl rfl (by decide) (by decide) rfl (Nat.le_of_ble_eq_true rfl) (by decide) (fun x57 M57 hM57 => ?_)
    obtain ⟨rfl, rfl⟩ := hM57
    refine g_zret (pc := 60) E hr dX6_isRule_60 (by first | exact Or.inl rfl | exact Or.inr rfl | exact bi_in _ | omega) ?_
    exact ⟨bi_c (by unfold ruleOK; omega), rfl⟩
  by_cases qs1_3 : r = 3
  · refine g_tableIn (pc := 1) (tgt := 61) (off := 60) E dX6_isRule_1 (by omega) (by omega) (by rw [qs1_3]; rfl) (by decide) ?_
    refine g_iload_n (pc := 61) E dX6_isRule_61 (i := 1) rfl rfl ?_
    refine g_iconst (pc := 62) E dX6_isRule_62 rfl ?_
    refine g_bipush (pc := 63) E dX6_isRule_63 rfl ?_
    refine g_callS (pc := 65) (As := [_, _, _]) E dX6_isRule_65 ml_X6_66 (ct_in (by omega) (by omega) (by omega)) rfl rfl (by decide) (by decide) rfl (Nat.le_of_ble_eq_true rfl) (by decide) (fun x65 M65 hM65 => ?_)
    obtain ⟨rfl, rfl⟩ := hM65
    refine g_zret (pc := 68) E hr dX6_isRule_68 (by first | exact Or.inl rfl | exact Or.inr rfl | exact bi_in _ | omega) ?_
    exact ⟨bi_c (by unfold ruleOK; omega), rfl⟩
  refine g_tableOut (pc := 1) (tgt := 69) E dX6_isRule_1 (by omega) (by decide) ?_
  refine g_iconst (pc := 69) E dX6_isRule_69 rfl ?_
  refine g_zret (pc := 70) E hr dX6_isRule_70 (by first | exact Or.inl rfl | exact Or.inr rfl | exact bi_in _ | omega) ?_
  exact ⟨bi_f (by unfold ruleOK; omega), rfl⟩

theorem ct_credits {cx : Cx} {M : Mem} {S : Int → Int} (e5 : M 185 = S) {mn : Int} (hm0 : 0 ≤ mn) (hm1 : mn < 4) : Ct cx yX6_credits cX6_credits 2 (some .int) 1 0 0 [rf cx 184, .int (oi mn)] M (fun rz M' => S (9 + mn) = rz ∧ M = M') := by
  refine ct_intro cd_X6_credits (by decide +kernel) (Nat.le_of_ble_eq_true rfl) rfl (fun Pg Lc Ev s m args below meth c E hr => ?_)
  refine g_ent (ls' := [some (rf cx 184), some (.int (oi mn))]) rfl ?_
  refine g_aload_n (pc := 0) E dX6_credits_0 (i := 0) rfl rfl ?_
  refine g_getr (i := 184) (j := 185) (t := 6) (f := 0) (pc := 1) E dX6_credits_1 fl_X6_9 rfl (by decide) (by decide) rfl rfl ?_
  refine g_bipush (pc := 4) E dX6_credits_4 rfl ?_
  refine g_iload_n (pc := 6) E dX6_credits_6 (i := 1) rfl rfl ?_
  refine g_iadd (pc := 7) E dX6_credits_7 ?_
  refine g_iald (pc := 8) E dX6_credits_8 rfl (by omega) (by omega) (congrFun e5 _) (fun _ _ => ?_)
  refine g_iret (pc := 9) E hr dX6_credits_9 ?_
  exact ⟨rfl, rfl⟩

def limS (g : Int) : Int := if g = 1 then 70 else if g = 2 then 60 else if g = 3 then 50 else 0

theorem ct_limit {cx : Cx} {M : Mem} {gn : Int} (hgn : -2147483648 ≤ gn ∧ gn ≤ 2147483647) : Ct cx yX6_limit cX6_limit 1 (some .int) 1 0 0 [.int (oi gn)] M (fun rz M' => limS gn = rz ∧ M = M') := by
  refine ct_intro cd_X6_limit (by decide +kernel) (Nat.le_of_ble_eq_true rfl) rfl (fun Pg Lc Ev s m args below meth c E hr => ?_)
  refine g_ent (ls' := [some (.int (oi gn))]) rfl ?_
  refine g_iload_n (pc := 0) E dX6_limit_0 (i := 0) rfl rfl ?_
  refine g_iconst (pc := 1) E dX6_limit_1 rfl ?_
  refine g_icmp_ne (pc := 2) (tgt := 10) E dX6_limit_2 (by decide) (fun qh2 => ?_) (fun qh2 => ?_) 
  · refine g_iload_n (pc := 10) E dX6_limit_10 (i := 0) rfl rfl ?_
    refine g_iconst (pc := 11) E dX6_limit_11 rfl ?_
    refine g_icmp_ne (pc := 12) (tgt := 20) E dX6_limit_12 (by decide) (fun qh12 => ?_) (fun qh12 => ?_) 
    · refine g_iload_n (pc := 20) E dX6_limit_20 (i := 0) rfl rfl ?_
      refine g_iconst (pc := 21) E dX6_limit_21 rfl ?_
      refine g_icmp_ne (pc := 22) (tgt := 30) E dX6_limit_22 (by decide) (fun qh22 => ?_) (fun qh22 => ?_) 
      · refine g_iconst (pc := 30) E dX6_limit_30 rfl ?_
        refine g_iret (pc := 31) E hr dX6_limit_31 ?_
        exact ⟨by rw [limS, if_neg (by omega), if_neg (by omega), if_neg (by omega)], rfl⟩
      · refine g_bipush (pc := 25) E dX6_limit_25 rfl ?_
        refine g_goto (pc := 27) (tgt := 31) E dX6_limit_27 (by decide) ?_
        refine g_iret (pc := 31) E hr dX6_limit_31 ?_
        exact ⟨by rw [limS, if_neg (by omega), if_neg (by omega), if_pos (by omega)], rfl⟩
    · refine g_bipush (pc := 15) E dX6_limit_15 rfl ?_
      refine g_goto (pc := 17) (tgt := 31) E dX6_limit_17 (by decide) ?_
      refine g_iret (pc := 31) E hr dX6_limit_31 ?_
      exact ⟨by rw [limS, if_neg (by omega), if_pos (by omega)], rfl⟩
  · refine g_bipush (pc := 5) E dX6_limit_5 rfl ?_
    refine g_goto (pc := 7) (tgt := 31) E dX6_limit_7 (by decide) ?_
    refine g_iret (pc := 31) E hr dX6_limit_31 ?_
    exact ⟨by rw [limS, if_pos (by omega)], rfl⟩

theorem ct_counts {cx : Cx} {M : Mem} {S : Int → Int} (e5 : M 185 = S) {mn : Int} (hV : SOK S) (hmn : -2147483648 ≤ mn ∧ mn ≤ 2147483647) : Ct cx yX6_counts cX6_counts 3 (some .boolean) 2 0 0 [rf cx 184, .int (oi mn)] M (fun rz M' => bi (0 < pcnt S mn) = rz ∧ M = M') := by
  refine ct_intro cd_X6_counts (by decide +kernel) (Nat.le_of_ble_eq_true rfl) rfl (fun Pg Lc Ev s m args below meth c E hr => ?_)
  refine g_ent (ls' := [some (rf cx 184), some (.int (oi mn)), none]) rfl ?_
  have hV0 := hV.1
  refine g_iconst (pc := 0) E dX6_counts_0 rfl ?_
  refine g_istore_n (pc := 1) E dX6_counts_1 (i := 2) (ls' := [_, _, _]) rfl (Nat.le_of_ble_eq_true rfl) rfl ?_
  have LP2 : ∀ (n : Nat) (x : Int), S 6 - x < (n : Int) → 0 ≤ x → x ≤ S 6 → sz (pcF S mn) x = 0 → G cx Pg Lc Ev (rmD 2 0 0) s m args below meth c (MQ below (QI cx (fun rz M' => bi (0 < pcnt S mn) = rz ∧ M = M')) args s 0 0 (cA0 cx)) 2 [some (rf cx 184), some (.int (oi mn)), some (.int (oi x))] [] (M) 0 0 := by
    intro n
    induction n with
    | zero => intro x hn hx0 hx1 ha; exact absurd hn (by omega)
    | succ n ih2 =>
      intro x hn hx0 hx1 ha
      refine g_iload_n (pc := 2) E dX6_counts_2 (i := 2) rfl rfl ?_
      refine g_aload_n (pc := 3) E dX6_counts_3 (i := 0) rfl rfl ?_
      refine g_getr (i := 184) (j := 185) (t := 6) (f := 0) (pc := 4) E dX6_counts_4 fl_X6_9 rfl (by decide) (by decide) rfl rfl ?_
      refine g_bipush (pc := 7) E dX6_counts_7 rfl ?_
      refine g_iald (pc := 9) E dX6_counts_9 rfl (by omega) (by omega) (congrFun e5 _) (fun _ _ => ?_)
      refine g_icmp_ge (pc := 10) (tgt := 31) E dX6_counts_10 (by decide) (fun qh10 => ?_) (fun qh10 => ?_) 
      · refine g_iconst (pc := 31) E dX6_counts_31 rfl ?_
        refine g_zret (pc := 32) E hr dX6_counts_32 (by first | exact Or.inl rfl | exact Or.inr rfl | exact bi_in _ | omega) ?_
        exact ⟨bi_f (by unfold pcnt; rw [show S 6 = x by omega, ha]; omega), rfl⟩
      · have hVp := hV.2.2.1 x (by omega) (by omega)
        refine g_aload_n (pc := 13) E dX6_counts_13 (i := 0) rfl rfl ?_
        refine g_iload_n (pc := 14) E dX6_counts_14 (i := 2) rfl rfl ?_
        refine g_iconst (pc := 15) E dX6_counts_15 rfl ?_
        refine g_callV (pc := 16) (As := [_, _]) E dX6_counts_16 ml_X6_87 (ct_of e5 (e := 13 + 3 * x) (by omega) (by omega) (by omega) (by omega) (by omega)) rfl rfl rfl rfl (by decide) (by decide) rfl (Nat.le_of_ble_eq_true rfl) (by decide) (fun x16 M16 hM16 => ?_)
        obtain ⟨rfl, rfl⟩ := hM16
        refine g_iload_n (pc := 19) E dX6_counts_19 (i := 1) rfl rfl ?_
        refine g_icmp_ne (pc := 20) (tgt := 25) E dX6_counts_20 (by decide) (fun qh20 => ?_) (fun qh20 => ?_) 
        · refine g_iinc (pc := 25) E dX6_counts_25 (ls' := [_, _, _]) rfl rfl rfl ?_
          refine g_goto (pc := 28) (tgt := 2) E dX6_counts_28 (by decide) ?_
          exact g_wk2 (ih2 (x + 1) (by omega) (by omega) (by omega) (by rw [sz_s hx0, ha, show pcF S mn x = 0 from if_neg (by omega)]; rfl)) ⟨rfl, rfl, rfl, trivial⟩
        · refine g_iconst (pc := 23) E dX6_counts_23 rfl ?_
          refine g_zret (pc := 24) E hr dX6_counts_24 (by first | exact Or.inl rfl | exact Or.inr rfl | exact bi_in _ | omega) ?_
          have hg := sz_ge (f := pcF S mn) (n := S 6) (fun j _ _ => (pcF_R _ _ j).1) hx0 (by omega)
          have he : pcF S mn x = 1 := if_pos (by omega)
          exact ⟨bi_t (by unfold pcnt; omega), rfl⟩
  exact g_wk2 (LP2 (S 6 + 1).toNat 0 (by omega) (by omega) (by omega) rfl) ⟨rfl, rfl, rfl, trivial⟩

theorem ct_hasRule {cx : Cx} {M : Mem} {S : Int → Int} (e5 : M 185 = S) {p cn : Int} (hV : SOK S) (hp : -2147483648 ≤ p ∧ p ≤ 2147483647) (hcn : -2147483648 ≤ cn ∧ cn ≤ 2147483647) : Ct cx yX6_hasRule cX6_hasRule 3 (some .boolean) 3 0 0 [rf cx 184, .int (oi p), .int (oi cn)] M (fun rz M' => bi (0 ≤ p ∧ p < S 6 ∧ 0 ≤ cn ∧ cn < 3) = rz ∧ M = M') := by
  refine ct_intro cd_X6_hasRule (by decide +kernel) (Nat.le_of_ble_eq_true rfl) rfl (fun Pg Lc Ev s m args below meth c E hr => ?_)
  refine g_ent (ls' := [some (rf cx 184), some (.int (oi p)), some (.int (oi cn))]) rfl ?_
  refine g_aload_n (pc := 0) E dX6_hasRule_0 (i := 0) rfl rfl ?_
  refine g_iload_n (pc := 1) E dX6_hasRule_1 (i := 1) rfl rfl ?_
  refine g_callV (pc := 2) (As := [_]) E dX6_hasRule_2 ml_X6_84 (ct_isPaper e5 hV (by omega)) rfl rfl rfl rfl (by decide) (by decide) rfl (Nat.le_of_ble_eq_true rfl) (by decide) (fun x2 M2 hM2 => ?_)
  obtain ⟨rfl, rfl⟩ := hM2
  refine g_if_eq (pc := 5) (tgt := 21) E dX6_hasRule_5 (by decide) (fun qh5 => ?_) (fun qh5 => ?_) (Int.le_trans (by decide) (bi_R _).1) (Int.le_trans (bi_R _).2 (by decide))
  · replace qh5 := bi_0.mp qh5
    refine g_iconst (pc := 21) E dX6_hasRule_21 rfl ?_
    refine g_zret (pc := 22) E hr dX6_hasRule_22 (by first | exact Or.inl rfl | exact Or.inr rfl | exact bi_in _ | omega) ?_
    first | exact ⟨bi_t (by omega), rfl⟩ | exact ⟨bi_f (by omega), rfl⟩
  · replace qh5 := bi_n.mp qh5
    refine g_iload_n (pc := 8) E dX6_hasRule_8 (i := 2) rfl rfl ?_
    refine g_iconst (pc := 9) E dX6_hasRule_9 rfl ?_
    refine g_iconst (pc := 10) E dX6_hasRule_10 rfl ?_
    refine g_callS (pc := 11) (As := [_, _, _]) E dX6_hasRule_11 ml_X6_66 (ct_in (by omega) (by omega) (by omega)) rfl rfl (by decide) (by decide) rfl (Nat.le_of_ble_eq_true rfl) (by decide) (fun x11 M11 hM11 => ?_)
    obtain ⟨rfl, rfl⟩ := hM11
    refine g_if_eq (pc := 14) (tgt := 21) E dX6_hasRule_14 (by decide) (fun qh14 => ?_) (fun qh14 => ?_) (Int.le_trans (by decide) (bi_R _).1) (Int.le_trans (bi_R _).2 (by decide))
    · replace qh14 := bi_0.mp qh14
      refine g_iconst (pc := 21) E dX6_hasRule_21 rfl ?_
      refine g_zret (pc := 22) E hr dX6_hasRule_22 (by first | exact Or.inl rfl | exact Or.inr rfl | exact bi_in _ | omega) ?_
      first | exact ⟨bi_t (by omega), rfl⟩ | exact ⟨bi_f (by omega), rfl⟩
    · replace qh14 := bi_n.mp qh14
      refine g_iconst (pc := 17) E dX6_hasRule_17 rfl ?_
      refine g_goto (pc := 18) (tgt := 22) E dX6_hasRule_18 (by decide) ?_
      refine g_zret (pc := 22) E hr dX6_hasRule_22 (by first | exact Or.inl rfl | exact Or.inr rfl | exact bi_in _ | omega) ?_
      first | exact ⟨bi_t (by omega), rfl⟩ | exact ⟨bi_f (by omega), rfl⟩

theorem ct_belongs {cx : Cx} {M : Mem} {S : Int → Int} (e5 : M 185 = S) {sn p cn : Int} (hV : SOK S) (hs0 : 0 ≤ sn) (hs1 : sn < S 7) (hp0 : 0 ≤ p) (hp1 : p < S 6) (hc0 : 0 ≤ cn) (hc1 : cn < 3) : Ct cx yX6_belongs cX6_belongs 4 (some .boolean) 2 0 0 [rf cx 184, .int (oi sn), .int (oi p), .int (oi cn)] M (fun rz M' => bi (rawIn S p cn sn) = rz ∧ M = M') := by
  refine ct_intro cd_X6_belongs (by decide +kernel) (Nat.le_of_ble_eq_true rfl) rfl (fun Pg Lc Ev s m args below meth c E hr => ?_)
  refine g_ent (ls' := [some (rf cx 184), some (.int (oi sn)), some (.int (oi p)), some (.int (oi cn))]) rfl ?_
  have hV0 := hV.1
  have hVp := hV.2.2.1 p (by omega) (by omega)
  have hVa := hV.2.2.2.2.1 sn p (by omega) (by omega) (by omega) (by omega)
  have hVs := hV.2.2.2.1 sn (by omega) (by omega)
  refine g_aload_n (pc := 0) E dX6_belongs_0 (i := 0) rfl rfl ?_
  refine g_getr (i := 184) (j := 185) (t := 6) (f := 0) (pc := 1) E dX6_belongs_1 fl_X6_9 rfl (by decide) (by decide) rfl rfl ?_
  refine g_bipush (pc := 4) E dX6_belongs_4 rfl ?_
  refine g_iload_n (pc := 6) E dX6_belongs_6 (i := 1) rfl rfl ?_
  refine g_iadd (pc := 7) E dX6_belongs_7 ?_
  refine g_iald (pc := 8) E dX6_belongs_8 rfl (by omega) (by omega) (congrFun e5 _) (fun _ _ => ?_)
  refine g_iload_n (pc := 9) E dX6_belongs_9 (i := 3) rfl rfl ?_
  refine g_icmp_ne (pc := 10) (tgt := 31) E dX6_belongs_10 (by decide) (fun qh10 => ?_) (fun qh10 => ?_) 
  · refine g_iconst (pc := 31) E dX6_belongs_31 rfl ?_
    refine g_zret (pc := 32) E hr dX6_belongs_32 (by first | exact Or.inl rfl | exact Or.inr rfl | exact bi_in _ | omega) ?_
    first | exact ⟨bi_t (by unfold rawIn; omega), rfl⟩ | exact ⟨bi_f (by unfold rawIn; omega), rfl⟩
  · refine g_aload_n (pc := 13) E dX6_belongs_13 (i := 0) rfl rfl ?_
    refine g_getr (i := 184) (j := 185) (t := 6) (f := 0) (pc := 14) E dX6_belongs_14 fl_X6_9 rfl (by decide) (by decide) rfl rfl ?_
    refine g_iload_n (pc := 17) E dX6_belongs_17 (i := 1) rfl rfl ?_
    refine g_iload_n (pc := 18) E dX6_belongs_18 (i := 2) rfl rfl ?_
    refine g_callS (pc := 19) (As := [_, _]) E dX6_belongs_19 ml_X6_81 ct_attemptAt rfl rfl (by decide) (by decide) rfl (Nat.le_of_ble_eq_true rfl) (by decide) (fun x19 M19 hM19 => ?_)
    obtain ⟨rfl, rfl⟩ := hM19
    refine g_iald (pc := 22) E dX6_belongs_22 rfl (by omega) (by omega) (congrFun e5 _) (fun _ _ => ?_)
    refine g_iconst (pc := 23) E dX6_belongs_23 rfl ?_
    refine g_icmp_ne (pc := 24) (tgt := 31) E dX6_belongs_24 (by decide) (fun qh24 => ?_) (fun qh24 => ?_) 
    · refine g_iconst (pc := 31) E dX6_belongs_31 rfl ?_
      refine g_zret (pc := 32) E hr dX6_belongs_32 (by first | exact Or.inl rfl | exact Or.inr rfl | exact bi_in _ | omega) ?_
      first | exact ⟨bi_t (by unfold rawIn; omega), rfl⟩ | exact ⟨bi_f (by unfold rawIn; omega), rfl⟩
    · refine g_iconst (pc := 27) E dX6_belongs_27 rfl ?_
      refine g_goto (pc := 28) (tgt := 32) E dX6_belongs_28 (by decide) ?_
      refine g_zret (pc := 32) E hr dX6_belongs_32 (by first | exact Or.inl rfl | exact Or.inr rfl | exact bi_in _ | omega) ?_
      first | exact ⟨bi_t (by unfold rawIn; omega), rfl⟩ | exact ⟨bi_f (by unfold rawIn; omega), rfl⟩

theorem ct_refuses {cx : Cx} {M : Mem} {w v : Int} (hw : -2147483648 ≤ w ∧ w ≤ 2147483647) (hv : -2147483648 ≤ v ∧ v ≤ 2147483647) : Ct cx yX6_refuses cX6_refuses 3 (some .int) 1 0 0 [rf cx 184, .int (oi w), .int (oi v)] M (fun rz M' => w = rz ∧ st (st M 184 11 w) 184 13 v = M') := by
  refine ct_intro cd_X6_refuses (by decide +kernel) (Nat.le_of_ble_eq_true rfl) rfl (fun Pg Lc Ev s m args below meth c E hr => ?_)
  refine g_ent (ls' := [some (rf cx 184), some (.int (oi w)), some (.int (oi v))]) rfl ?_
  refine g_aload_n (pc := 0) E dX6_refuses_0 (i := 0) rfl rfl ?_
  refine g_iload_n (pc := 1) E dX6_refuses_1 (i := 1) rfl rfl ?_
  refine g_puti (i := 184) (t := 6) (f := 11) (fz := 11) (pc := 2) E dX6_refuses_2 fl_X6_162 rfl (by decide) (by decide) rfl rfl ?_ 
  refine g_aload_n (pc := 5) E dX6_refuses_5 (i := 0) rfl rfl ?_
  refine g_iload_n (pc := 6) E dX6_refuses_6 (i := 2) rfl rfl ?_
  refine g_puti (i := 184) (t := 6) (f := 13) (fz := 13) (pc := 7) E dX6_refuses_7 fl_X6_165 rfl (by decide) (by decide) rfl rfl ?_ 
  refine g_iload_n (pc := 10) E dX6_refuses_10 (i := 1) rfl rfl ?_
  refine g_iret (pc := 11) E hr dX6_refuses_11 ?_
  exact ⟨rfl, rfl⟩

theorem cv_graded {cx : Cx} {M : Mem} {a b d : Int} (ha : -2147483648 ≤ a ∧ a ≤ 2147483647) (hb : -2147483648 ≤ b ∧ b ≤ 2147483647) (hd : -2147483648 ≤ d ∧ d ≤ 2147483647) : Cv cx yX6_graded cX6_graded 4 1 0 0 [rf cx 184, .int (oi a), .int (oi b), .int (oi d)] M (fun M' => st (st (st M 184 21 a) 184 22 b) 184 23 d = M') := by
  refine cv_intro cd_X6_graded (by decide +kernel) (Nat.le_of_ble_eq_true rfl) rfl (fun Pg Lc Ev s m args below meth c E hr => ?_)
  refine g_ent (ls' := [some (rf cx 184), some (.int (oi a)), some (.int (oi b)), some (.int (oi d))]) rfl ?_
  refine g_aload_n (pc := 0) E dX6_graded_0 (i := 0) rfl rfl ?_
  refine g_iload_n (pc := 1) E dX6_graded_1 (i := 1) rfl rfl ?_
  refine g_puti (i := 184) (t := 6) (f := 21) (fz := 21) (pc := 2) E dX6_graded_2 fl_X6_134 rfl (by decide) (by decide) rfl rfl ?_ 
  refine g_aload_n (pc := 5) E dX6_graded_5 (i := 0) rfl rfl ?_
  refine g_iload_n (pc := 6) E dX6_graded_6 (i := 2) rfl rfl ?_
  refine g_puti (i := 184) (t := 6) (f := 22) (fz := 22) (pc := 7) E dX6_graded_7 fl_X6_137 rfl (by decide) (by decide) rfl rfl ?_ 
  refine g_aload_n (pc := 10) E dX6_graded_10 (i := 0) rfl rfl ?_
  refine g_iload_n (pc := 11) E dX6_graded_11 (i := 3) rfl rfl ?_
  refine g_puti (i := 184) (t := 6) (f := 23) (fz := 23) (pc := 12) E dX6_graded_12 fl_X6_140 rfl (by decide) (by decide) rfl rfl ?_ 
  refine g_vret (pc := 15) E hr dX6_graded_15 ?_
  rfl
