/-! what the calls that only look answer, out of S; and the reference's -/
abbrev inT (S : Int → Int) (s : Int) : Prop := 0 ≤ s ∧ s < S 7
abbrev inP (S : Int → Int) (p : Int) : Prop := 0 ≤ p ∧ p < S 6
abbrev inM (S : Int → Int) (m : Int) : Prop := 0 ≤ m ∧ m < S 5
def paF (S : Int → Int) (p w s : Int) : Int := if w = 3 then (if 0 < S (57 + 3 * (8 * s + p)) then 1 else 0) else if w = 4 then (if 0 ≤ S (57 + 3 * (8 * s + p) + 2) then 1 else 0) else (if stA S (lkM S s (-1) 0) p = w - 4 then 1 else 0)
def paS (S : Int → Int) (p w : Int) : Int := if ¬ inP S p then -1 else if ¬ (0 ≤ w ∧ w ≤ 7) then -2 else if w < 3 then S (13 + 3 * p + w) else sz (paF S p w) (S 7)
def atS (S : Int → Int) (s p w : Int) : Int := if ¬ (inT S s ∧ inP S p) then -1 else if ¬ (0 ≤ w ∧ w ≤ 7) then -2 else if S (57 + 3 * (8 * s + p)) = 0 ∨ ((w = 3 ∨ w = 4) ∧ S (57 + 3 * (8 * s + p) + 2) < 0) then -5 else if w = 0 then (if S (57 + 3 * (8 * s + p)) = 1 then S (57 + 3 * (8 * s + p) + 1) else -5) else if w = 1 then fstS S s p else if w = 2 then scS S s p else if w = 3 then S (57 + 3 * (8 * s + p) + 2) else if w = 4 then agS S s p else if w = 5 then mkS S s p else if w = 6 then stA S (lkM S s (-1) 0) p else S (57 + 3 * (8 * s + p)) - 1
def etS (S : Int → Int) (i w : Int) : Int := if ¬ (0 ≤ i ∧ i < S 8) then -1 else if w = 0 then S (585 + i) / 8 else if w = 1 then S (585 + i) % 8 else if w = 2 then mkS S (S (585 + i) / 8) (S (585 + i) % 8) else -2
def sdS (S : Int → Int) (p c x : Int) : Int := if ¬ (0 ≤ p ∧ p < S 6 ∧ 0 ≤ c ∧ c < 3) then -1 else if ¬ (0 ≤ x ∧ x ≤ 100) then -2 else byS S p c x
def whyA (S : Int → Int) (s w : Int) : Int := if ¬ inT S s then -1 else if ¬ (0 ≤ w ∧ w ≤ 1) then -2 else if w = 0 then whS S (lkM S s (-1) 0) else wnS S (lkM S s (-1) 0)
def agnA (S : Int → Int) (s : Int) : Int := if ¬ inT S s then -1 else grS S (lkM S s (-1) 0)
def cifA (S : Int → Int) (s p x : Int) : Int := if ¬ (inT S s ∧ inP S p) then -1 else if ¬ (0 ≤ x ∧ x ≤ 100) then -2 else grS S (lkM S s p x)
/-- what looks and ranks may change -/
def SCm (M N : Mem) : Prop := (∀ i, i ≠ 184 → i < 191 ∨ 197 < i → N i = M i) ∧ ∀ f : Int, f < 18 ∨ 23 < f → N 184 f = M 184 f
theorem SCm.rf (M : Mem) : SCm M M := ⟨fun _ _ _ => rfl, fun _ _ => rfl⟩
theorem LKf.sc {M N : Mem} (h : LKf M N) : SCm M N := ⟨fun i h1 h2 => h.1 i h1 (by omega) (by omega) (by omega) (by omega), h.2⟩
theorem LKf.tr {M N O : Mem} (h : LKf M N) (g : LKf N O) : LKf M O := ⟨fun i h1 h2 h3 h4 h5 => (g.1 i h1 h2 h3 h4 h5).trans (h.1 i h1 h2 h3 h4 h5), fun f hf => (g.2 f hf).trans (h.2 f hf)⟩
theorem LKf.e {M N : Mem} {S : Int → Int} (h : LKf M N) (e : M 185 = S) : N 185 = S := (h.1 185 (by decide) (by decide) (by decide) (by decide) (by decide)).trans e
theorem grS_R (S mk : Int → Int) : 0 ≤ grS S mk ∧ grS S mk ≤ 5 := by
  have := clA_R (avS S mk)
  unfold grS
  split
  · omega
  · split
    · omega
    · split
      · next h => have := h.1; omega
      · omega

theorem ct_again_ {cx : Cx} {M : Mem} {S : Int → Int} (e5 : M 185 = S) {sn : Int} (hV : SOK S) (hsn : -2147483648 ≤ sn ∧ sn ≤ 2147483647) : Ct cx yX6_again_ cX6_again_ 2 (some .int) 10 0 0 [rf cx 184, .int (oi sn)] M (fun rz M' => agnA S sn = rz ∧ SCm M M') := by
  refine ct_intro cd_X6_again_ (by decide +kernel) (Nat.le_of_ble_eq_true rfl) rfl (fun Pg Lc Ev s m args below meth c E hr => ?_)
  refine g_ent (ls' := [some (rf cx 184), some (.int (oi sn))]) rfl ?_
  have hV0 := hV.1
  have e5M := e5
  have hf := LKf.rf M
  refine g_aload_n (pc := 0) E dX6_again__0 (i := 0) rfl rfl ?_
  refine g_iload_n (pc := 1) E dX6_again__1 (i := 1) rfl rfl ?_
  refine g_callV (pc := 2) (As := [_]) E dX6_again__2 ml_X6_168 (ct_isStudent e5 hV (by omega)) rfl rfl rfl rfl (by decide) (by decide) rfl (Nat.le_of_ble_eq_true rfl) (by decide) (fun x2 M2 hM2 => ?_)
  obtain ⟨rfl, rfl⟩ := hM2
  refine g_if_ne (pc := 5) (tgt := 10) E dX6_again__5 (by decide) (fun qh5 => ?_) (fun qh5 => ?_) (Int.le_trans (by decide) (bi_R _).1) (Int.le_trans (bi_R _).2 (by decide))
  · replace qh5 := bi_n.mp qh5
    refine g_aload_n (pc := 10) E dX6_again__10 (i := 0) rfl rfl ?_
    refine g_iload_n (pc := 11) E dX6_again__11 (i := 1) rfl rfl ?_
    refine g_iconst (pc := 12) E dX6_again__12 rfl ?_
    refine g_iconst (pc := 13) E dX6_again__13 rfl ?_
    refine g_callVv (pc := 14) (As := [_, _, _]) E dX6_again__14 ml_X6_90 (cv_looks e5 hV (by omega) (by omega) (by omega) (by omega)) rfl rfl rfl rfl (by decide) (by decide) rfl (Nat.le_of_ble_eq_true rfl) (by decide) (fun M14 hM14 => ?_)
    have hf14 := LKf.tr hf hM14.1
    have e5 : M14 185 = S := hf14.e e5M
    refine g_aload_n (pc := 17) E dX6_again__17 (i := 0) rfl rfl ?_
    refine g_geti (i := 184) (t := 6) (f := 21) (fz := 21) (pc := 18) E dX6_again__18 fl_X6_134 rfl (by decide) (by decide) rfl rfl hM14.2.2.2.2.2.2.1 (fun _ _ => ?_)
    refine g_iret (pc := 21) E hr dX6_again__21 ?_
    exact ⟨by rw [agnA, if_neg (by omega)], hf14.sc⟩
  · replace qh5 := bi_0.mp qh5
    refine g_iconst (pc := 8) E dX6_again__8 rfl ?_
    refine g_iret (pc := 9) E hr dX6_again__9 ?_
    exact ⟨by rw [agnA, if_pos (by omega)], SCm.rf M⟩

theorem ct_why {cx : Cx} {M : Mem} {S : Int → Int} (e5 : M 185 = S) {sn w : Int} (hV : SOK S) (hsn : -2147483648 ≤ sn ∧ sn ≤ 2147483647) (hw : -2147483648 ≤ w ∧ w ≤ 2147483647) : Ct cx yX6_why cX6_why 3 (some .int) 10 0 0 [rf cx 184, .int (oi sn), .int (oi w)] M (fun rz M' => whyA S sn w = rz ∧ SCm M M') := by
  refine ct_intro cd_X6_why (by decide +kernel) (Nat.le_of_ble_eq_true rfl) rfl (fun Pg Lc Ev s m args below meth c E hr => ?_)
  refine g_ent (ls' := [some (rf cx 184), some (.int (oi sn)), some (.int (oi w))]) rfl ?_
  have hV0 := hV.1
  have e5M := e5
  have hf := LKf.rf M
  refine g_aload_n (pc := 0) E dX6_why_0 (i := 0) rfl rfl ?_
  refine g_iload_n (pc := 1) E dX6_why_1 (i := 1) rfl rfl ?_
  refine g_callV (pc := 2) (As := [_]) E dX6_why_2 ml_X6_168 (ct_isStudent e5 hV (by omega)) rfl rfl rfl rfl (by decide) (by decide) rfl (Nat.le_of_ble_eq_true rfl) (by decide) (fun x2 M2 hM2 => ?_)
  obtain ⟨rfl, rfl⟩ := hM2
  refine g_if_ne (pc := 5) (tgt := 10) E dX6_why_5 (by decide) (fun qh5 => ?_) (fun qh5 => ?_) (Int.le_trans (by decide) (bi_R _).1) (Int.le_trans (bi_R _).2 (by decide))
  · replace qh5 := bi_n.mp qh5
    refine g_iload_n (pc := 10) E dX6_why_10 (i := 2) rfl rfl ?_
    refine g_iconst (pc := 11) E dX6_why_11 rfl ?_
    refine g_iconst (pc := 12) E dX6_why_12 rfl ?_
    refine g_callS (pc := 13) (As := [_, _, _]) E dX6_why_13 ml_X6_66 (ct_in (by omega) (by omega) (by omega)) rfl rfl (by decide) (by decide) rfl (Nat.le_of_ble_eq_true rfl) (by decide) (fun x13 M13 hM13 => ?_)
    obtain ⟨rfl, rfl⟩ := hM13
    refine g_if_ne (pc := 16) (tgt := 22) E dX6_why_16 (by decide) (fun qh16 => ?_) (fun qh16 => ?_) (Int.le_trans (by decide) (bi_R _).1) (Int.le_trans (bi_R _).2 (by decide))
    · replace qh16 := bi_n.mp qh16
      refine g_aload_n (pc := 22) E dX6_why_22 (i := 0) rfl rfl ?_
      refine g_iload_n (pc := 23) E dX6_why_23 (i := 1) rfl rfl ?_
      refine g_iconst (pc := 24) E dX6_why_24 rfl ?_
      refine g_iconst (pc := 25) E dX6_why_25 rfl ?_
      refine g_callVv (pc := 26) (As := [_, _, _]) E dX6_why_26 ml_X6_90 (cv_looks e5 hV (by omega) (by omega) (by omega) (by omega)) rfl rfl rfl rfl (by decide) (by decide) rfl (Nat.le_of_ble_eq_true rfl) (by decide) (fun M26 hM26 => ?_)
      have hf26 := LKf.tr hf hM26.1
      have e5 : M26 185 = S := hf26.e e5M
      refine g_iload_n (pc := 29) E dX6_why_29 (i := 2) rfl rfl ?_
      refine g_if_ne (pc := 30) (tgt := 40) E dX6_why_30 (by decide) (fun qh30 => ?_) (fun qh30 => ?_) 
      · refine g_aload_n (pc := 40) E dX6_why_40 (i := 0) rfl rfl ?_
        refine g_geti (i := 184) (t := 6) (f := 23) (fz := 23) (pc := 41) E dX6_why_41 fl_X6_140 rfl (by decide) (by decide) rfl rfl hM26.2.2.2.2.2.2.2.2 (fun _ _ => ?_)
        refine g_iret (pc := 44) E hr dX6_why_44 ?_
        exact ⟨by rw [whyA, if_neg (by omega), if_neg (by omega), if_neg (by omega)], hf26.sc⟩
      · refine g_aload_n (pc := 33) E dX6_why_33 (i := 0) rfl rfl ?_
        refine g_geti (i := 184) (t := 6) (f := 22) (fz := 22) (pc := 34) E dX6_why_34 fl_X6_137 rfl (by decide) (by decide) rfl rfl hM26.2.2.2.2.2.2.2.1 (fun _ _ => ?_)
        refine g_goto (pc := 37) (tgt := 44) E dX6_why_37 (by decide) ?_
        refine g_iret (pc := 44) E hr dX6_why_44 ?_
        exact ⟨by rw [whyA, if_neg (by omega), if_neg (by omega), if_pos (by omega)], hf26.sc⟩
    · replace qh16 := bi_0.mp qh16
      refine g_bipush (pc := 19) E dX6_why_19 rfl ?_
      refine g_iret (pc := 21) E hr dX6_why_21 ?_
      exact ⟨by rw [whyA, if_neg (by omega), if_pos (by omega)], SCm.rf M⟩
  · replace qh5 := bi_0.mp qh5
    refine g_iconst (pc := 8) E dX6_why_8 rfl ?_
    refine g_iret (pc := 9) E hr dX6_why_9 ?_
    exact ⟨by rw [whyA, if_pos (by omega)], SCm.rf M⟩

theorem ct_classIf {cx : Cx} {M : Mem} {S : Int → Int} (e5 : M 185 = S) {sn p x : Int} (hV : SOK S) (hsn : -2147483648 ≤ sn ∧ sn ≤ 2147483647) (hp : -2147483648 ≤ p ∧ p ≤ 2147483647) (hx : -2147483648 ≤ x ∧ x ≤ 2147483647) : Ct cx yX6_classIf cX6_classIf 4 (some .int) 10 0 0 [rf cx 184, .int (oi sn), .int (oi p), .int (oi x)] M (fun rz M' => cifA S sn p x = rz ∧ SCm M M') := by
  refine ct_intro cd_X6_classIf (by decide +kernel) (Nat.le_of_ble_eq_true rfl) rfl (fun Pg Lc Ev s m args below meth c E hr => ?_)
  refine g_ent (ls' := [some (rf cx 184), some (.int (oi sn)), some (.int (oi p)), some (.int (oi x))]) rfl ?_
  have hV0 := hV.1
  have e5M := e5
  have hf := LKf.rf M
  refine g_aload_n (pc := 0) E dX6_classIf_0 (i := 0) rfl rfl ?_
  refine g_iload_n (pc := 1) E dX6_classIf_1 (i := 1) rfl rfl ?_
  refine g_callV (pc := 2) (As := [_]) E dX6_classIf_2 ml_X6_168 (ct_isStudent e5 hV (by omega)) rfl rfl rfl rfl (by decide) (by decide) rfl (Nat.le_of_ble_eq_true rfl) (by decide) (fun x2 M2 hM2 => ?_)
  obtain ⟨rfl, rfl⟩ := hM2
  refine g_if_eq (pc := 5) (tgt := 16) E dX6_classIf_5 (by decide) (fun qh5 => ?_) (fun qh5 => ?_) (Int.le_trans (by decide) (bi_R _).1) (Int.le_trans (bi_R _).2 (by decide))
  · replace qh5 := bi_0.mp qh5
    refine g_iconst (pc := 16) E dX6_classIf_16 rfl ?_
    refine g_iret (pc := 17) E hr dX6_classIf_17 ?_
    exact ⟨by rw [cifA, if_pos (by omega)], SCm.rf M⟩
  · replace qh5 := bi_n.mp qh5
    refine g_aload_n (pc := 8) E dX6_classIf_8 (i := 0) rfl rfl ?_
    refine g_iload_n (pc := 9) E dX6_classIf_9 (i := 2) rfl rfl ?_
    refine g_callV (pc := 10) (As := [_]) E dX6_classIf_10 ml_X6_84 (ct_isPaper e5 hV (by omega)) rfl rfl rfl rfl (by decide) (by decide) rfl (Nat.le_of_ble_eq_true rfl) (by decide) (fun x10 M10 hM10 => ?_)
    obtain ⟨rfl, rfl⟩ := hM10
    refine g_if_ne (pc := 13) (tgt := 18) E dX6_classIf_13 (by decide) (fun qh13 => ?_) (fun qh13 => ?_) (Int.le_trans (by decide) (bi_R _).1) (Int.le_trans (bi_R _).2 (by decide))
    · replace qh13 := bi_n.mp qh13
      refine g_iload_n (pc := 18) E dX6_classIf_18 (i := 3) rfl rfl ?_
      refine g_iconst (pc := 19) E dX6_classIf_19 rfl ?_
      refine g_bipush (pc := 20) E dX6_classIf_20 rfl ?_
      refine g_callS (pc := 22) (As := [_, _, _]) E dX6_classIf_22 ml_X6_66 (ct_in (by omega) (by omega) (by omega)) rfl rfl (by decide) (by decide) rfl (Nat.le_of_ble_eq_true rfl) (by decide) (fun x22 M22 hM22 => ?_)
      obtain ⟨rfl, rfl⟩ := hM22
      refine g_if_ne (pc := 25) (tgt := 31) E dX6_classIf_25 (by decide) (fun qh25 => ?_) (fun qh25 => ?_) (Int.le_trans (by decide) (bi_R _).1) (Int.le_trans (bi_R _).2 (by decide))
      · replace qh25 := bi_n.mp qh25
        refine g_aload_n (pc := 31) E dX6_classIf_31 (i := 0) rfl rfl ?_
        refine g_iload_n (pc := 32) E dX6_classIf_32 (i := 1) rfl rfl ?_
        refine g_iload_n (pc := 33) E dX6_classIf_33 (i := 2) rfl rfl ?_
        refine g_iload_n (pc := 34) E dX6_classIf_34 (i := 3) rfl rfl ?_
        refine g_callVv (pc := 35) (As := [_, _, _]) E dX6_classIf_35 ml_X6_90 (cv_looks e5 hV (by omega) (by omega) (by omega) (by omega)) rfl rfl rfl rfl (by decide) (by decide) rfl (Nat.le_of_ble_eq_true rfl) (by decide) (fun M35 hM35 => ?_)
        have hf35 := LKf.tr hf hM35.1
        have e5 : M35 185 = S := hf35.e e5M
        refine g_aload_n (pc := 38) E dX6_classIf_38 (i := 0) rfl rfl ?_
        refine g_geti (i := 184) (t := 6) (f := 21) (fz := 21) (pc := 39) E dX6_classIf_39 fl_X6_134 rfl (by decide) (by decide) rfl rfl hM35.2.2.2.2.2.2.1 (fun _ _ => ?_)
        refine g_iret (pc := 42) E hr dX6_classIf_42 ?_
        exact ⟨by rw [cifA, if_neg (by omega), if_neg (by omega)], hf35.sc⟩
      · replace qh25 := bi_0.mp qh25
        refine g_bipush (pc := 28) E dX6_classIf_28 rfl ?_
        refine g_iret (pc := 30) E hr dX6_classIf_30 ?_
        exact ⟨by rw [cifA, if_neg (by omega), if_pos (by omega)], SCm.rf M⟩
    · replace qh13 := bi_0.mp qh13
      refine g_iconst (pc := 16) E dX6_classIf_16 rfl ?_
      refine g_iret (pc := 17) E hr dX6_classIf_17 ?_
      exact ⟨by rw [cifA, if_pos (by omega)], SCm.rf M⟩

theorem ct_scaled {cx : Cx} {M : Mem} {S : Int → Int} (e5 : M 185 = S) {p cn x : Int} (hV : SOK S) (hp : -2147483648 ≤ p ∧ p ≤ 2147483647) (hcn : -2147483648 ≤ cn ∧ cn ≤ 2147483647) (hx : -2147483648 ≤ x ∧ x ≤ 2147483647) : Ct cx yX6_scaled cX6_scaled 4 (some .int) 7 0 0 [rf cx 184, .int (oi p), .int (oi cn), .int (oi x)] M (fun rz M' => sdS S p cn x = rz ∧ SCm M M') := by
  refine ct_intro cd_X6_scaled (by decide +kernel) (Nat.le_of_ble_eq_true rfl) rfl (fun Pg Lc Ev s m args below meth c E hr => ?_)
  refine g_ent (ls' := [some (rf cx 184), some (.int (oi p)), some (.int (oi cn)), some (.int (oi x))]) rfl ?_
  have hV0 := hV.1
  have e5M := e5
  have hf := LKf.rf M
  refine g_aload_n (pc := 0) E dX6_scaled_0 (i := 0) rfl rfl ?_
  refine g_iload_n (pc := 1) E dX6_scaled_1 (i := 1) rfl rfl ?_
  refine g_iload_n (pc := 2) E dX6_scaled_2 (i := 2) rfl rfl ?_
  refine g_callV (pc := 3) (As := [_, _]) E dX6_scaled_3 ml_X6_190 (ct_hasRule e5 hV (by omega) (by omega)) rfl rfl rfl rfl (by decide) (by decide) rfl (Nat.le_of_ble_eq_true rfl) (by decide) (fun x3 M3 hM3 => ?_)
  obtain ⟨rfl, rfl⟩ := hM3
  refine g_if_ne (pc := 6) (tgt := 11) E dX6_scaled_6 (by decide) (fun qh6 => ?_) (fun qh6 => ?_) (Int.le_trans (by decide) (bi_R _).1) (Int.le_trans (bi_R _).2 (by decide))
  · replace qh6 := bi_n.mp qh6
    refine g_iload_n (pc := 11) E dX6_scaled_11 (i := 3) rfl rfl ?_
    refine g_iconst (pc := 12) E dX6_scaled_12 rfl ?_
    refine g_bipush (pc := 13) E dX6_scaled_13 rfl ?_
    refine g_callS (pc := 15) (As := [_, _, _]) E dX6_scaled_15 ml_X6_66 (ct_in (by omega) (by omega) (by omega)) rfl rfl (by decide) (by decide) rfl (Nat.le_of_ble_eq_true rfl) (by decide) (fun x15 M15 hM15 => ?_)
    obtain ⟨rfl, rfl⟩ := hM15
    refine g_if_eq (pc := 18) (tgt := 31) E dX6_scaled_18 (by decide) (fun qh18 => ?_) (fun qh18 => ?_) (Int.le_trans (by decide) (bi_R _).1) (Int.le_trans (bi_R _).2 (by decide))
    · replace qh18 := bi_0.mp qh18
      refine g_bipush (pc := 31) E dX6_scaled_31 rfl ?_
      refine g_iret (pc := 33) E hr dX6_scaled_33 ?_
      exact ⟨by rw [sdS, if_neg (by omega), if_pos (by omega)], SCm.rf M⟩
    · replace qh18 := bi_n.mp qh18
      refine g_aload_n (pc := 21) E dX6_scaled_21 (i := 0) rfl rfl ?_
      refine g_iload_n (pc := 22) E dX6_scaled_22 (i := 1) rfl rfl ?_
      refine g_iload_n (pc := 23) E dX6_scaled_23 (i := 2) rfl rfl ?_
      refine g_iload_n (pc := 24) E dX6_scaled_24 (i := 3) rfl rfl ?_
      refine g_callV (pc := 25) (As := [_, _, _]) E dX6_scaled_25 ml_X6_113 (ct_by e5 hV (by omega) (by omega) (by omega) (by omega) (by omega) (by omega)) rfl rfl rfl rfl (by decide) (by decide) rfl (Nat.le_of_ble_eq_true rfl) (by decide) (fun x25 M25 hM25 => ?_)
      obtain ⟨rfl, rfl⟩ := hM25
      refine g_goto (pc := 28) (tgt := 33) E dX6_scaled_28 (by decide) ?_
      refine g_iret (pc := 33) E hr dX6_scaled_33 ?_
      exact ⟨by rw [sdS, if_neg (by omega), if_neg (by omega)], SCm.rf M⟩
  · replace qh6 := bi_0.mp qh6
    refine g_iconst (pc := 9) E dX6_scaled_9 rfl ?_
    refine g_iret (pc := 10) E hr dX6_scaled_10 ?_
    exact ⟨by rw [sdS, if_pos (by omega)], SCm.rf M⟩

theorem ct_attempt {cx : Cx} {M : Mem} {S : Int → Int} (e5 : M 185 = S) {sn p w : Int} (hV : SOK S) (hsn : -2147483648 ≤ sn ∧ sn ≤ 2147483647) (hp : -2147483648 ≤ p ∧ p ≤ 2147483647) (hw : -2147483648 ≤ w ∧ w ≤ 2147483647) : Ct cx yX6_attempt cX6_attempt 5 (some .int) 10 0 0 [rf cx 184, .int (oi sn), .int (oi p), .int (oi w)] M (fun rz M' => atS S sn p w = rz ∧ SCm M M') := by
  refine ct_intro cd_X6_attempt (by decide +kernel) (Nat.le_of_ble_eq_true rfl) rfl (fun Pg Lc Ev s m args below meth c E hr => ?_)
  refine g_ent (ls' := [some (rf cx 184), some (.int (oi sn)), some (.int (oi p)), some (.int (oi w)), none]) rfl ?_
  have hV0 := hV.1
  have e5M := e5
  have hf := LKf.rf M
  refine g_aload_n (pc := 0) E dX6_attempt_0 (i := 0) rfl rfl ?_
  refine g_iload_n (pc := 1) E dX6_attempt_1 (i := 1) rfl rfl ?_
  refine g_callV (pc := 2) (As := [_]) E dX6_attempt_2 ml_X6_168 (ct_isStudent e5 hV (by omega)) rfl rfl rfl rfl (by decide) (by decide) rfl (Nat.le_of_ble_eq_true rfl) (by decide) (fun x2 M2 hM2 => ?_)
  obtain ⟨rfl, rfl⟩ := hM2
  refine g_if_eq (pc := 5) (tgt := 16) E dX6_attempt_5 (by decide) (fun qh5 => ?_) (fun qh5 => ?_) (Int.le_trans (by decide) (bi_R _).1) (Int.le_trans (bi_R _).2 (by decide))
  · replace qh5 := bi_0.mp qh5
    refine g_iconst (pc := 16) E dX6_attempt_16 rfl ?_
    refine g_iret (pc := 17) E hr dX6_attempt_17 ?_
    exact ⟨by rw [atS, if_pos (by omega)], SCm.rf M⟩
  · replace qh5 := bi_n.mp qh5
    refine g_aload_n (pc := 8) E dX6_attempt_8 (i := 0) rfl rfl ?_
    refine g_iload_n (pc := 9) E dX6_attempt_9 (i := 2) rfl rfl ?_
    refine g_callV (pc := 10) (As := [_]) E dX6_attempt_10 ml_X6_84 (ct_isPaper e5 hV (by omega)) rfl rfl rfl rfl (by decide) (by decide) rfl (Nat.le_of_ble_eq_true rfl) (by decide) (fun x10 M10 hM10 => ?_)
    obtain ⟨rfl, rfl⟩ := hM10
    refine g_if_ne (pc := 13) (tgt := 18) E dX6_attempt_13 (by decide) (fun qh13 => ?_) (fun qh13 => ?_) (Int.le_trans (by decide) (bi_R _).1) (Int.le_trans (bi_R _).2 (by decide))
    · replace qh13 := bi_n.mp qh13
      refine g_iload_n (pc := 18) E dX6_attempt_18 (i := 3) rfl rfl ?_
      refine g_iconst (pc := 19) E dX6_attempt_19 rfl ?_
      refine g_bipush (pc := 20) E dX6_attempt_20 rfl ?_
      refine g_callS (pc := 22) (As := [_, _, _]) E dX6_attempt_22 ml_X6_66 (ct_in (by omega) (by omega) (by omega)) rfl rfl (by decide) (by decide) rfl (Nat.le_of_ble_eq_true rfl) (by decide) (fun x22 M22 hM22 => ?_)
      obtain ⟨rfl, rfl⟩ := hM22
      refine g_if_ne (pc := 25) (tgt := 31) E dX6_attempt_25 (by decide) (fun qh25 => ?_) (fun qh25 => ?_) (Int.le_trans (by decide) (bi_R _).1) (Int.le_trans (bi_R _).2 (by decide))
      · replace qh25 := bi_n.mp qh25
        have hV0 := hV.1
        have hVp := hV.2.2.1 p (by omega) (by omega)
        have hVa := hV.2.2.2.2.1 sn p (by omega) (by omega) (by omega) (by omega)
        refine g_iload_n (pc := 31) E dX6_attempt_31 (i := 1) rfl rfl ?_
        refine g_iload_n (pc := 32) E dX6_attempt_32 (i := 2) rfl rfl ?_
        refine g_callS (pc := 33) (As := [_, _]) E dX6_attempt_33 ml_X6_81 ct_attemptAt rfl rfl (by decide) (by decide) rfl (Nat.le_of_ble_eq_true rfl) (by decide) (fun x33 M33 hM33 => ?_)
        obtain ⟨rfl, rfl⟩ := hM33
        refine g_istore (pc := 36) E dX6_attempt_36 (ls' := [_, _, _, _, _]) (Nat.le_of_ble_eq_true rfl) rfl ?_
        refine g_aload_n (pc := 38) E dX6_attempt_38 (i := 0) rfl rfl ?_
        refine g_getr (i := 184) (j := 185) (t := 6) (f := 0) (pc := 39) E dX6_attempt_39 fl_X6_9 rfl (by decide) (by decide) rfl rfl ?_
        refine g_iload (pc := 42) E dX6_attempt_42 rfl ?_
        refine g_iald (pc := 44) E dX6_attempt_44 rfl (by omega) (by omega) (congrFun e5 _) (fun _ _ => ?_)
        refine g_if_eq (pc := 45) (tgt := 70) E dX6_attempt_45 (by decide) (fun qh45 => ?_) (fun qh45 => ?_) 
        · refine g_bipush (pc := 70) E dX6_attempt_70 rfl ?_
          refine g_iret (pc := 72) E hr dX6_attempt_72 ?_
          exact ⟨by rw [atS, if_neg (by omega), if_neg (by omega), if_pos (by omega)], SCm.rf M⟩
        · refine g_iload_n (pc := 48) E dX6_attempt_48 (i := 3) rfl rfl ?_
          refine g_iconst (pc := 49) E dX6_attempt_49 rfl ?_
          refine g_icmp_eq (pc := 50) (tgt := 58) E dX6_attempt_50 (by decide) (fun qh50 => ?_) (fun qh50 => ?_) 
          · refine g_aload_n (pc := 58) E dX6_attempt_58 (i := 0) rfl rfl ?_
            refine g_getr (i := 184) (j := 185) (t := 6) (f := 0) (pc := 59) E dX6_attempt_59 fl_X6_9 rfl (by decide) (by decide) rfl rfl ?_
            refine g_iload (pc := 62) E dX6_attempt_62 rfl ?_
            refine g_iconst (pc := 64) E dX6_attempt_64 rfl ?_
            refine g_iadd (pc := 65) E dX6_attempt_65 ?_
            refine g_iald (pc := 66) E dX6_attempt_66 rfl (by omega) (by omega) (congrFun e5 _) (fun _ _ => ?_)
            refine g_if_ge (pc := 67) (tgt := 73) E dX6_attempt_67 (by decide) (fun qh67 => ?_) (fun qh67 => ?_) 
            · refine g_iload_n (pc := 73) E dX6_attempt_73 (i := 3) rfl rfl ?_
              by_cases qs74_0 : w = 0
              · refine g_tableIn (pc := 74) (tgt := 116) (off := 42) E dX6_attempt_74 (by omega) (by omega) (by rw [qs74_0]; rfl) (by decide) ?_
                refine g_aload_n (pc := 116) E dX6_attempt_116 (i := 0) rfl rfl ?_
                refine g_getr (i := 184) (j := 185) (t := 6) (f := 0) (pc := 117) E dX6_attempt_117 fl_X6_9 rfl (by decide) (by decide) rfl rfl ?_
                refine g_iload (pc := 120) E dX6_attempt_120 rfl ?_
                refine g_iald (pc := 122) E dX6_attempt_122 rfl (by omega) (by omega) (congrFun e5 _) (fun _ _ => ?_)
                refine g_iconst (pc := 123) E dX6_attempt_123 rfl ?_
                refine g_icmp_ne (pc := 124) (tgt := 139) E dX6_attempt_124 (by decide) (fun qh124 => ?_) (fun qh124 => ?_) 
                · refine g_bipush (pc := 139) E dX6_attempt_139 rfl ?_
                  refine g_iret (pc := 141) E hr dX6_attempt_141 ?_
                  exact ⟨by rw [atS, if_neg (by omega), if_neg (by omega), if_neg (by omega), if_pos (by omega), if_neg (by omega)], SCm.rf M⟩
                · refine g_aload_n (pc := 127) E dX6_attempt_127 (i := 0) rfl rfl ?_
                  refine g_getr (i := 184) (j := 185) (t := 6) (f := 0) (pc := 128) E dX6_attempt_128 fl_X6_9 rfl (by decide) (by decide) rfl rfl ?_
                  refine g_iload (pc := 131) E dX6_attempt_131 rfl ?_
                  refine g_iconst (pc := 133) E dX6_attempt_133 rfl ?_
                  refine g_iadd (pc := 134) E dX6_attempt_134 ?_
                  refine g_iald (pc := 135) E dX6_attempt_135 rfl (by omega) (by omega) (congrFun e5 _) (fun _ _ => ?_)
                  refine g_goto (pc := 136) (tgt := 141) E dX6_attempt_136 (by decide) ?_
                  refine g_iret (pc := 141) E hr dX6_attempt_141 ?_
                  exact ⟨by rw [atS, if_neg (by omega), if_neg (by omega), if_neg (by omega), if_pos (by omega), if_pos (by omega)], SCm.rf M⟩
              by_cases qs74_1 : w = 1
              · refine g_tableIn (pc := 74) (tgt := 142) (off := 68) E dX6_attempt_74 (by omega) (by omega) (by rw [qs74_1]; rfl) (by decide) ?_
                refine g_aload_n (pc := 142) E dX6_attempt_142 (i := 0) rfl rfl ?_
                refine g_iload_n (pc := 143) E dX6_attempt_143 (i := 1) rfl rfl ?_
                refine g_iload_n (pc := 144) E dX6_attempt_144 (i := 2) rfl rfl ?_
                refine g_callV (pc := 145) (As := [_, _]) E dX6_attempt_145 ml_X6_100 (ct_first e5 hV (by omega) (by omega) (by omega) (by omega)) rfl rfl rfl rfl (by decide) (by decide) rfl (Nat.le_of_ble_eq_true rfl) (by decide) (fun x145 M145 hM145 => ?_)
                obtain ⟨rfl, rfl⟩ := hM145
                refine g_iret (pc := 148) E hr dX6_attempt_148 ?_
                exact ⟨by rw [atS, if_neg (by omega), if_neg (by omega), if_neg (by omega), if_neg (by omega), if_pos (by omega)], SCm.rf M⟩
              by_cases qs74_2 : w = 2
              · refine g_tableIn (pc := 74) (tgt := 149) (off := 75) E dX6_attempt_74 (by omega) (by omega) (by rw [qs74_2]; rfl) (by decide) ?_
                refine g_aload_n (pc := 149) E dX6_attempt_149 (i := 0) rfl rfl ?_
                refine g_iload_n (pc := 150) E dX6_attempt_150 (i := 1) rfl rfl ?_
                refine g_iload_n (pc := 151) E dX6_attempt_151 (i := 2) rfl rfl ?_
                refine g_callV (pc := 152) (As := [_, _]) E dX6_attempt_152 ml_X6_117 (ct_scaledOf e5 hV (by omega) (by omega) (by omega) (by omega)) rfl rfl rfl rfl (by decide) (by decide) rfl (Nat.le_of_ble_eq_true rfl) (by decide) (fun x152 M152 hM152 => ?_)
                obtain ⟨rfl, rfl⟩ := hM152
                refine g_iret (pc := 155) E hr dX6_attempt_155 ?_
                exact ⟨by rw [atS, if_neg (by omega), if_neg (by omega), if_neg (by omega), if_neg (by omega), if_neg (by omega), if_pos (by omega)], SCm.rf M⟩
              by_cases qs74_3 : w = 3
              · refine g_tableIn (pc := 74) (tgt := 156) (off := 82) E dX6_attempt_74 (by omega) (by omega) (by rw [qs74_3]; rfl) (by decide) ?_
                refine g_aload_n (pc := 156) E dX6_attempt_156 (i := 0) rfl rfl ?_
                refine g_getr (i := 184) (j := 185) (t := 6) (f := 0) (pc := 157) E dX6_attempt_157 fl_X6_9 rfl (by decide) (by decide) rfl rfl ?_
                refine g_iload (pc := 160) E dX6_attempt_160 rfl ?_
                refine g_iconst (pc := 162) E dX6_attempt_162 rfl ?_
                refine g_iadd (pc := 163) E dX6_attempt_163 ?_
                refine g_iald (pc := 164) E dX6_attempt_164 rfl (by omega) (by omega) (congrFun e5 _) (fun _ _ => ?_)
                refine g_iret (pc := 165) E hr dX6_attempt_165 ?_
                exact ⟨by rw [atS, if_neg (by omega), if_neg (by omega), if_neg (by omega), if_neg (by omega), if_neg (by omega), if_neg (by omega), if_pos (by omega)], SCm.rf M⟩
              by_cases qs74_4 : w = 4
              · refine g_tableIn (pc := 74) (tgt := 166) (off := 92) E dX6_attempt_74 (by omega) (by omega) (by rw [qs74_4]; rfl) (by decide) ?_
                refine g_aload_n (pc := 166) E dX6_attempt_166 (i := 0) rfl rfl ?_
                refine g_iload_n (pc := 167) E dX6_attempt_167 (i := 1) rfl rfl ?_
                refine g_iload_n (pc := 168) E dX6_attempt_168 (i := 2) rfl rfl ?_
                refine g_callV (pc := 169) (As := [_, _]) E dX6_attempt_169 ml_X6_120 (ct_again e5 hV (by omega) (by omega) (by omega) (by omega)) rfl rfl rfl rfl (by decide) (by decide) rfl (Nat.le_of_ble_eq_true rfl) (by decide) (fun x169 M169 hM169 => ?_)
                obtain ⟨rfl, rfl⟩ := hM169
                refine g_iret (pc := 172) E hr dX6_attempt_172 ?_
                exact ⟨by rw [atS, if_neg (by omega), if_neg (by omega), if_neg (by omega), if_neg (by omega), if_neg (by omega), if_neg (by omega), if_neg (by omega), if_pos (by omega)], SCm.rf M⟩
              by_cases qs74_5 : w = 5
              · refine g_tableIn (pc := 74) (tgt := 173) (off := 99) E dX6_attempt_74 (by omega) (by omega) (by rw [qs74_5]; rfl) (by decide) ?_
                refine g_aload_n (pc := 173) E dX6_attempt_173 (i := 0) rfl rfl ?_
                refine g_iload_n (pc := 174) E dX6_attempt_174 (i := 1) rfl rfl ?_
                refine g_iload_n (pc := 175) E dX6_attempt_175 (i := 2) rfl rfl ?_
                refine g_callV (pc := 176) (As := [_, _]) E dX6_attempt_176 ml_X6_129 (ct_markOf e5 hV (by omega) (by omega) (by omega) (by omega)) rfl rfl rfl rfl (by decide) (by decide) rfl (Nat.le_of_ble_eq_true rfl) (by decide) (fun x176 M176 hM176 => ?_)
                obtain ⟨rfl, rfl⟩ := hM176
                refine g_iret (pc := 179) E hr dX6_attempt_179 ?_
                exact ⟨by rw [atS, if_neg (by omega), if_neg (by omega), if_neg (by omega), if_neg (by omega), if_neg (by omega), if_neg (by omega), if_neg (by omega), if_neg (by omega), if_pos (by omega)], SCm.rf M⟩
              by_cases qs74_6 : w = 6
              · refine g_tableIn (pc := 74) (tgt := 180) (off := 106) E dX6_attempt_74 (by omega) (by omega) (by rw [qs74_6]; rfl) (by decide) ?_
                refine g_aload_n (pc := 180) E dX6_attempt_180 (i := 0) rfl rfl ?_
                refine g_iload_n (pc := 181) E dX6_attempt_181 (i := 1) rfl rfl ?_
                refine g_iconst (pc := 182) E dX6_attempt_182 rfl ?_
                refine g_iconst (pc := 183) E dX6_attempt_183 rfl ?_
                refine g_callVv (pc := 184) (As := [_, _, _]) E dX6_attempt_184 ml_X6_90 (cv_looks e5 hV (by omega) (by omega) (by omega) (by omega)) rfl rfl rfl rfl (by decide) (by decide) rfl (Nat.le_of_ble_eq_true rfl) (by decide) (fun M184 hM184 => ?_)
                have hf184 := LKf.tr hf hM184.1
                have e5 : M184 185 = S := hf184.e e5M
                refine g_aload_n (pc := 187) E dX6_attempt_187 (i := 0) rfl rfl ?_
                refine g_getr (i := 184) (j := 192) (t := 6) (f := 15) (pc := 188) E dX6_attempt_188 fl_X6_31 rfl (by decide) (by decide) rfl rfl ?_
                refine g_iload_n (pc := 191) E dX6_attempt_191 (i := 2) rfl rfl ?_
                refine g_iald (pc := 192) E dX6_attempt_192 rfl (by omega) (by omega) (hM184.2.1 p (by omega) (by omega)).2 (fun _ _ => ?_)
                refine g_iret (pc := 193) E hr dX6_attempt_193 ?_
                exact ⟨by rw [atS, if_neg (by omega), if_neg (by omega), if_neg (by omega), if_neg (by omega), if_neg (by omega), if_neg (by omega), if_neg (by omega), if_neg (by omega), if_neg (by omega), if_pos (by omega)], hf184.sc⟩
              refine g_tableOut (pc := 74) (tgt := 194) E dX6_attempt_74 (by omega) (by decide) ?_
              refine g_aload_n (pc := 194) E dX6_attempt_194 (i := 0) rfl rfl ?_
              refine g_getr (i := 184) (j := 185) (t := 6) (f := 0) (pc := 195) E dX6_attempt_195 fl_X6_9 rfl (by decide) (by decide) rfl rfl ?_
              refine g_iload (pc := 198) E dX6_attempt_198 rfl ?_
              refine g_iald (pc := 200) E dX6_attempt_200 rfl (by omega) (by omega) (congrFun e5 _) (fun _ _ => ?_)
              refine g_iconst (pc := 201) E dX6_attempt_201 rfl ?_
              refine g_isub (pc := 202) E dX6_attempt_202 ?_
              refine g_iret (pc := 203) E hr dX6_attempt_203 ?_
              exact ⟨by rw [atS, if_neg (by omega), if_neg (by omega), if_neg (by omega), if_neg (by omega), if_neg (by omega), if_neg (by omega), if_neg (by omega), if_neg (by omega), if_neg (by omega), if_neg (by omega)], SCm.rf M⟩
            · refine g_bipush (pc := 70) E dX6_attempt_70 rfl ?_
              refine g_iret (pc := 72) E hr dX6_attempt_72 ?_
              exact ⟨by rw [atS, if_neg (by omega), if_neg (by omega), if_pos (by omega)], SCm.rf M⟩
          · refine g_iload_n (pc := 53) E dX6_attempt_53 (i := 3) rfl rfl ?_
            refine g_iconst (pc := 54) E dX6_attempt_54 rfl ?_
            refine g_icmp_ne (pc := 55) (tgt := 73) E dX6_attempt_55 (by decide) (fun qh55 => ?_) (fun qh55 => ?_) 
            · refine g_iload_n (pc := 73) E dX6_attempt_73 (i := 3) rfl rfl ?_
              by_cases qs74_0 : w = 0
              · refine g_tableIn (pc := 74) (tgt := 116) (off := 42) E dX6_attempt_74 (by omega) (by omega) (by rw [qs74_0]; rfl) (by decide) ?_
                refine g_aload_n (pc := 116) E dX6_attempt_116 (i := 0) rfl rfl ?_
                refine g_getr (i := 184) (j := 185) (t := 6) (f := 0) (pc := 117) E dX6_attempt_117 fl_X6_9 rfl (by decide) (by decide) rfl rfl ?_
                refine g_iload (pc := 120) E dX6_attempt_120 rfl ?_
                refine g_iald (pc := 122) E dX6_attempt_122 rfl (by omega) (by omega) (congrFun e5 _) (fun _ _ => ?_)
                refine g_iconst (pc := 123) E dX6_attempt_123 rfl ?_
                refine g_icmp_ne (pc := 124) (tgt := 139) E dX6_attempt_124 (by decide) (fun qh124 => ?_) (fun qh124 => ?_) 
                · refine g_bipush (pc := 139) E dX6_attempt_139 rfl ?_
                  refine g_iret (pc := 141) E hr dX6_attempt_141 ?_
                  exact ⟨by rw [atS, if_neg (by omega), if_neg (by omega), if_neg (by omega), if_pos (by omega), if_neg (by omega)], SCm.rf M⟩
                · refine g_aload_n (pc := 127) E dX6_attempt_127 (i := 0) rfl rfl ?_
                  refine g_getr (i := 184) (j := 185) (t := 6) (f := 0) (pc := 128) E dX6_attempt_128 fl_X6_9 rfl (by decide) (by decide) rfl rfl ?_
                  refine g_iload (pc := 131) E dX6_attempt_131 rfl ?_
                  refine g_iconst (pc := 133) E dX6_attempt_133 rfl ?_
                  refine g_iadd (pc := 134) E dX6_attempt_134 ?_
                  refine g_iald (pc := 135) E dX6_attempt_135 rfl (by omega) (by omega) (congrFun e5 _) (fun _ _ => ?_)
                  refine g_goto (pc := 136) (tgt := 141) E dX6_attempt_136 (by decide) ?_
                  refine g_iret (pc := 141) E hr dX6_attempt_141 ?_
                  exact ⟨by rw [atS, if_neg (by omega), if_neg (by omega), if_neg (by omega), if_pos (by omega), if_pos (by omega)], SCm.rf M⟩
              by_cases qs74_1 : w = 1
              · refine g_tableIn (pc := 74) (tgt := 142) (off := 68) E dX6_attempt_74 (by omega) (by omega) (by rw [qs74_1]; rfl) (by decide) ?_
                refine g_aload_n (pc := 142) E dX6_attempt_142 (i := 0) rfl rfl ?_
                refine g_iload_n (pc := 143) E dX6_attempt_143 (i := 1) rfl rfl ?_
                refine g_iload_n (pc := 144) E dX6_attempt_144 (i := 2) rfl rfl ?_
                refine g_callV (pc := 145) (As := [_, _]) E dX6_attempt_145 ml_X6_100 (ct_first e5 hV (by omega) (by omega) (by omega) (by omega)) rfl rfl rfl rfl (by decide) (by decide) rfl (Nat.le_of_ble_eq_true rfl) (by decide) (fun x145 M145 hM145 => ?_)
                obtain ⟨rfl, rfl⟩ := hM145
                refine g_iret (pc := 148) E hr dX6_attempt_148 ?_
                exact ⟨by rw [atS, if_neg (by omega), if_neg (by omega), if_neg (by omega), if_neg (by omega), if_pos (by omega)], SCm.rf M⟩
              by_cases qs74_2 : w = 2
              · refine g_tableIn (pc := 74) (tgt := 149) (off := 75) E dX6_attempt_74 (by omega) (by omega) (by rw [qs74_2]; rfl) (by decide) ?_
                refine g_aload_n (pc := 149) E dX6_attempt_149 (i := 0) rfl rfl ?_
                refine g_iload_n (pc := 150) E dX6_attempt_150 (i := 1) rfl rfl ?_
                refine g_iload_n (pc := 151) E dX6_attempt_151 (i := 2) rfl rfl ?_
                refine g_callV (pc := 152) (As := [_, _]) E dX6_attempt_152 ml_X6_117 (ct_scaledOf e5 hV (by omega) (by omega) (by omega) (by omega)) rfl rfl rfl rfl (by decide) (by decide) rfl (Nat.le_of_ble_eq_true rfl) (by decide) (fun x152 M152 hM152 => ?_)
                obtain ⟨rfl, rfl⟩ := hM152
                refine g_iret (pc := 155) E hr dX6_attempt_155 ?_
                exact ⟨by rw [atS, if_neg (by omega), if_neg (by omega), if_neg (by omega), if_neg (by omega), if_neg (by omega), if_pos (by omega)], SCm.rf M⟩
              by_cases qs74_3 : w = 3
              · refine g_tableIn (pc := 74) (tgt := 156) (off := 82) E dX6_attempt_74 (by omega) (by omega) (by rw [qs74_3]; rfl) (by decide) ?_
                refine g_aload_n (pc := 156) E dX6_attempt_156 (i := 0) rfl rfl ?_
                refine g_getr (i := 184) (j := 185) (t := 6) (f := 0) (pc := 157) E dX6_attempt_157 fl_X6_9 rfl (by decide) (by decide) rfl rfl ?_
                refine g_iload (pc := 160) E dX6_attempt_160 rfl ?_
                refine g_iconst (pc := 162) E dX6_attempt_162 rfl ?_
                refine g_iadd (pc := 163) E dX6_attempt_163 ?_
                refine g_iald (pc := 164) E dX6_attempt_164 rfl (by omega) (by omega) (congrFun e5 _) (fun _ _ => ?_)
                refine g_iret (pc := 165) E hr dX6_attempt_165 ?_
                exact ⟨by rw [atS, if_neg (by omega), if_neg (by omega), if_neg (by omega), if_neg (by omega), if_neg (by omega), if_neg (by omega), if_pos (by omega)], SCm.rf M⟩
              by_cases qs74_4 : w = 4
              · refine g_tableIn (pc := 74) (tgt := 166) (off := 92) E dX6_attempt_74 (by omega) (by omega) (by rw [qs74_4]; rfl) (by decide) ?_
                refine g_aload_n (pc := 166) E dX6_attempt_166 (i := 0) rfl rfl ?_
                refine g_iload_n (pc := 167) E dX6_attempt_167 (i := 1) rfl rfl ?_
                refine g_iload_n (pc := 168) E dX6_attempt_168 (i := 2) rfl rfl ?_
                refine g_callV (pc := 169) (As := [_, _]) E dX6_attempt_169 ml_X6_120 (ct_again e5 hV (by omega) (by omega) (by omega) (by omega)) rfl rfl rfl rfl (by decide) (by decide) rfl (Nat.le_of_ble_eq_true rfl) (by decide) (fun x169 M169 hM169 => ?_)
                obtain ⟨rfl, rfl⟩ := hM169
                refine g_iret (pc := 172) E hr dX6_attempt_172 ?_
                exact ⟨by rw [atS, if_neg (by omega), if_neg (by omega), if_neg (by omega), if_neg (by omega), if_neg (by omega), if_neg (by omega), if_neg (by omega), if_pos (by omega)], SCm.rf M⟩
              by_cases qs74_5 : w = 5
              · refine g_tableIn (pc := 74) (tgt := 173) (off := 99) E dX6_attempt_74 (by omega) (by omega) (by rw [qs74_5]; rfl) (by decide) ?_
                refine g_aload_n (pc := 173) E dX6_attempt_173 (i := 0) rfl rfl ?_
                refine g_iload_n (pc := 174) E dX6_attempt_174 (i := 1) rfl rfl ?_
                refine g_iload_n (pc := 175) E dX6_attempt_175 (i := 2) rfl rfl ?_
                refine g_callV (pc := 176) (As := [_, _]) E dX6_attempt_176 ml_X6_129 (ct_markOf e5 hV (by omega) (by omega) (by omega) (by omega)) rfl rfl rfl rfl (by decide) (by decide) rfl (Nat.le_of_ble_eq_true rfl) (by decide) (fun x176 M176 hM176 => ?_)
                obtain ⟨rfl, rfl⟩ := hM176
                refine g_iret (pc := 179) E hr dX6_attempt_179 ?_
                exact ⟨by rw [atS, if_neg (by omega), if_neg (by omega), if_neg (by omega), if_neg (by omega), if_neg (by omega), if_neg (by omega), if_neg (by omega), if_neg (by omega), if_pos (by omega)], SCm.rf M⟩
              by_cases qs74_6 : w = 6
              · refine g_tableIn (pc := 74) (tgt := 180) (off := 106) E dX6_attempt_74 (by omega) (by omega) (by rw [qs74_6]; rfl) (by decide) ?_
                refine g_aload_n (pc := 180) E dX6_attempt_180 (i := 0) rfl rfl ?_
                refine g_iload_n (pc := 181) E dX6_attempt_181 (i := 1) rfl rfl ?_
                refine g_iconst (pc := 182) E dX6_attempt_182 rfl ?_
                refine g_iconst (pc := 183) E dX6_attempt_183 rfl ?_
                refine g_callVv (pc := 184) (As := [_, _, _]) E dX6_attempt_184 ml_X6_90 (cv_looks e5 hV (by omega) (by omega) (by omega) (by omega)) rfl rfl rfl rfl (by decide) (by decide) rfl (Nat.le_of_ble_eq_true rfl) (by decide) (fun M184 hM184 => ?_)
                have hf184 := LKf.tr hf hM184.1
                have e5 : M184 185 = S := hf184.e e5M
                refine g_aload_n (pc := 187) E dX6_attempt_187 (i := 0) rfl rfl ?_
                refine g_getr (i := 184) (j := 192) (t := 6) (f := 15) (pc := 188) E dX6_attempt_188 fl_X6_31 rfl (by decide) (by decide) rfl rfl ?_
                refine g_iload_n (pc := 191) E dX6_attempt_191 (i := 2) rfl rfl ?_
                refine g_iald (pc := 192) E dX6_attempt_192 rfl (by omega) (by omega) (hM184.2.1 p (by omega) (by omega)).2 (fun _ _ => ?_)
                refine g_iret (pc := 193) E hr dX6_attempt_193 ?_
                exact ⟨by rw [atS, if_neg (by omega), if_neg (by omega), if_neg (by omega), if_neg (by omega), if_neg (by omega), if_neg (by omega), if_neg (by omega), if_neg (by omega), if_neg (by omega), if_pos (by omega)], hf184.sc⟩
              refine g_tableOut (pc := 74) (tgt := 194) E dX6_attempt_74 (by omega) (by decide) ?_
              refine g_aload_n (pc := 194) E dX6_attempt_194 (i := 0) rfl rfl ?_
              refine g_getr (i := 184) (j := 185) (t := 6) (f := 0) (pc := 195) E dX6_attempt_195 fl_X6_9 rfl (by decide) (by decide) rfl rfl ?_
              refine g_iload (pc := 198) E dX6_attempt_198 rfl ?_
              refine g_iald (pc := 200) E dX6_attempt_200 rfl (by omega) (by omega) (congrFun e5 _) (fun _ _ => ?_)
              refine g_iconst (pc := 201) E dX6_attempt_201 rfl ?_
              refine g_isub (pc := 202) E dX6_attempt_202 ?_
              refine g_iret (pc := 203) E hr dX6_attempt_203 ?_
              exact ⟨by rw [atS, if_neg (by omega), if_neg (by omega), if_neg (by omega), if_neg (by omega), if_neg (by omega), if_neg (by omega), if_neg (by omega), if_neg (by omega), if_neg (by omega), if_neg (by omega)], SCm.rf M⟩
            · refine g_aload_n (pc := 58) E dX6_attempt_58 (i := 0) rfl rfl ?_
              refine g_getr (i := 184) (j := 185) (t := 6) (f := 0) (pc := 59) E dX6_attempt_59 fl_X6_9 rfl (by decide) (by decide) rfl rfl ?_
              refine g_iload (pc := 62) E dX6_attempt_62 rfl ?_
              refine g_iconst (pc := 64) E dX6_attempt_64 rfl ?_
              refine g_iadd (pc := 65) E dX6_attempt_65 ?_
              refine g_iald (pc := 66) E dX6_attempt_66 rfl (by omega) (by omega) (congrFun e5 _) (fun _ _ => ?_)
              refine g_if_ge (pc := 67) (tgt := 73) E dX6_attempt_67 (by decide) (fun qh67 => ?_) (fun qh67 => ?_) 
              · refine g_iload_n (pc := 73) E dX6_attempt_73 (i := 3) rfl rfl ?_
                by_cases qs74_0 : w = 0
                · refine g_tableIn (pc := 74) (tgt := 116) (off := 42) E dX6_attempt_74 (by omega) (by omega) (by rw [qs74_0]; rfl) (by decide) ?_
                  refine g_aload_n (pc := 116) E dX6_attempt_116 (i := 0) rfl rfl ?_
                  refine g_getr (i := 184) (j := 185) (t := 6) (f := 0) (pc := 117) E dX6_attempt_117 fl_X6_9 rfl (by decide) (by decide) rfl rfl ?_
                  refine g_iload (pc := 120) E dX6_attempt_120 rfl ?_
                  refine g_iald (pc := 122) E dX6_attempt_122 rfl (by omega) (by omega) (congrFun e5 _) (fun _ _ => ?_)
                  refine g_iconst (pc := 123) E dX6_attempt_123 rfl ?_
                  refine g_icmp_ne (pc := 124) (tgt := 139) E dX6_attempt_124 (by decide) (fun qh124 => ?_) (fun qh124 => ?_) 
                  · refine g_bipush (pc := 139) E dX6_attempt_139 rfl ?_
                    refine g_iret (pc := 141) E hr dX6_attempt_141 ?_
                    exact ⟨by rw [atS, if_neg (by omega), if_neg (by omega), if_neg (by omega), if_pos (by omega), if_neg (by omega)], SCm.rf M⟩
                  · refine g_aload_n (pc := 127) E dX6_attempt_127 (i := 0) rfl rfl ?_
                    refine g_getr (i := 184) (j := 185) (t := 6) (f := 0) (pc := 128) E dX6_attempt_128 fl_X6_9 rfl (by decide) (by decide) rfl rfl ?_
                    refine g_iload (pc := 131) E dX6_attempt_131 rfl ?_
                    refine g_iconst (pc := 133) E dX6_attempt_133 rfl ?_
                    refine g_iadd (pc := 134) E dX6_attempt_134 ?_
                    refine g_iald (pc := 135) E dX6_attempt_135 rfl (by omega) (by omega) (congrFun e5 _) (fun _ _ => ?_)
                    refine g_goto (pc := 136) (tgt := 141) E dX6_attempt_136 (by decide) ?_
                    refine g_iret (pc := 141) E hr dX6_attempt_141 ?_
                    exact ⟨by rw [atS, if_neg (by omega), if_neg (by omega), if_neg (by omega), if_pos (by omega), if_pos (by omega)], SCm.rf M⟩
                by_cases qs74_1 : w = 1
                · refine g_tableIn (pc := 74) (tgt := 142) (off := 68) E dX6_attempt_74 (by omega) (by omega) (by rw [qs74_1]; rfl) (by decide) ?_
                  refine g_aload_n (pc := 142) E dX6_attempt_142 (i := 0) rfl rfl ?_
                  refine g_iload_n (pc := 143) E dX6_attempt_143 (i := 1) rfl rfl ?_
                  refine g_iload_n (pc := 144) E dX6_attempt_144 (i := 2) rfl rfl ?_
                  refine g_callV (pc := 145) (As := [_, _]) E dX6_attempt_145 ml_X6_100 (ct_first e5 hV (by omega) (by omega) (by omega) (by omega)) rfl rfl rfl rfl (by decide) (by decide) rfl (Nat.le_of_ble_eq_true rfl) (by decide) (fun x145 M145 hM145 => ?_)
                  obtain ⟨rfl, rfl⟩ := hM145
                  refine g_iret (pc := 148) E hr dX6_attempt_148 ?_
                  exact ⟨by rw [atS, if_neg (by omega), if_neg (by omega), if_neg (by omega), if_neg (by omega), if_pos (by omega)], SCm.rf M⟩
                by_cases qs74_2 : w = 2
                · refine g_tableIn (pc := 74) (tgt := 149) (off := 75) E dX6_attempt_74 (by omega) (by omega) (by rw [qs74_2]; rfl) (by decide) ?_
                  refine g_aload_n (pc := 149) E dX6_attempt_149 (i := 0) rfl rfl ?_
                  refine g_iload_n (pc := 150) E dX6_attempt_150 (i := 1) rfl rfl ?_
                  refine g_iload_n (pc := 151) E dX6_attempt_151 (i := 2) rfl rfl ?_
                  refine g_callV (pc := 152) (As := [_, _]) E dX6_attempt_152 ml_X6_117 (ct_scaledOf e5 hV (by omega) (by omega) (by omega) (by omega)) rfl rfl rfl rfl (by decide) (by decide) rfl (Nat.le_of_ble_eq_true rfl) (by decide) (fun x152 M152 hM152 => ?_)
                  obtain ⟨rfl, rfl⟩ := hM152
                  refine g_iret (pc := 155) E hr dX6_attempt_155 ?_
                  exact ⟨by rw [atS, if_neg (by omega), if_neg (by omega), if_neg (by omega), if_neg (by omega), if_neg (by omega), if_pos (by omega)], SCm.rf M⟩
                by_cases qs74_3 : w = 3
                · refine g_tableIn (pc := 74) (tgt := 156) (off := 82) E dX6_attempt_74 (by omega) (by omega) (by rw [qs74_3]; rfl) (by decide) ?_
                  refine g_aload_n (pc := 156) E dX6_attempt_156 (i := 0) rfl rfl ?_
                  refine g_getr (i := 184) (j := 185) (t := 6) (f := 0) (pc := 157) E dX6_attempt_157 fl_X6_9 rfl (by decide) (by decide) rfl rfl ?_
                  refine g_iload (pc := 160) E dX6_attempt_160 rfl ?_
                  refine g_iconst (pc := 162) E dX6_attempt_162 rfl ?_
                  refine g_iadd (pc := 163) E dX6_attempt_163 ?_
                  refine g_iald (pc := 164) E dX6_attempt_164 rfl (by omega) (by omega) (congrFun e5 _) (fun _ _ => ?_)
                  refine g_iret (pc := 165) E hr dX6_attempt_165 ?_
                  exact ⟨by rw [atS, if_neg (by omega), if_neg (by omega), if_neg (by omega), if_neg (by omega), if_neg (by omega), if_neg (by omega), if_pos (by omega)], SCm.rf M⟩
                by_cases qs74_4 : w = 4
                · refine g_tableIn (pc := 74) (tgt := 166) (off := 92) E dX6_attempt_74 (by omega) (by omega) (by rw [qs74_4]; rfl) (by decide) ?_
                  refine g_aload_n (pc := 166) E dX6_attempt_166 (i := 0) rfl rfl ?_
                  refine g_iload_n (pc := 167) E dX6_attempt_167 (i := 1) rfl rfl ?_
                  refine g_iload_n (pc := 168) E dX6_attempt_168 (i := 2) rfl rfl ?_
                  refine g_callV (pc := 169) (As := [_, _]) E dX6_attempt_169 ml_X6_120 (ct_again e5 hV (by omega) (by omega) (by omega) (by omega)) rfl rfl rfl rfl (by decide) (by decide) rfl (Nat.le_of_ble_eq_true rfl) (by decide) (fun x169 M169 hM169 => ?_)
                  obtain ⟨rfl, rfl⟩ := hM169
                  refine g_iret (pc := 172) E hr dX6_attempt_172 ?_
                  exact ⟨by rw [atS, if_neg (by omega), if_neg (by omega), if_neg (by omega), if_neg (by omega), if_neg (by omega), if_neg (by omega), if_neg (by omega), if_pos (by omega)], SCm.rf M⟩
                by_cases qs74_5 : w = 5
                · refine g_tableIn (pc := 74) (tgt := 173) (off := 99) E dX6_attempt_74 (by omega) (by omega) (by rw [qs74_5]; rfl) (by decide) ?_
                  refine g_aload_n (pc := 173) E dX6_attempt_173 (i := 0) rfl rfl ?_
                  refine g_iload_n (pc := 174) E dX6_attempt_174 (i := 1) rfl rfl ?_
                  refine g_iload_n (pc := 175) E dX6_attempt_175 (i := 2) rfl rfl ?_
                  refine g_callV (pc := 176) (As := [_, _]) E dX6_attempt_176 ml_X6_129 (ct_markOf e5 hV (by omega) (by omega) (by omega) (by omega)) rfl rfl rfl rfl (by decide) (by decide) rfl (Nat.le_of_ble_eq_true rfl) (by decide) (fun x176 M176 hM176 => ?_)
                  obtain ⟨rfl, rfl⟩ := hM176
                  refine g_iret (pc := 179) E hr dX6_attempt_179 ?_
                  exact ⟨by rw [atS, if_neg (by omega), if_neg (by omega), if_neg (by omega), if_neg (by omega), if_neg (by omega), if_neg (by omega), if_neg (by omega), if_neg (by omega), if_pos (by omega)], SCm.rf M⟩
                by_cases qs74_6 : w = 6
                · refine g_tableIn (pc := 74) (tgt := 180) (off := 106) E dX6_attempt_74 (by omega) (by omega) (by rw [qs74_6]; rfl) (by decide) ?_
                  refine g_aload_n (pc := 180) E dX6_attempt_180 (i := 0) rfl rfl ?_
                  refine g_iload_n (pc := 181) E dX6_attempt_181 (i := 1) rfl rfl ?_
                  refine g_iconst (pc := 182) E dX6_attempt_182 rfl ?_
                  refine g_iconst (pc := 183) E dX6_attempt_183 rfl ?_
                  refine g_callVv (pc := 184) (As := [_, _, _]) E dX6_attempt_184 ml_X6_90 (cv_looks e5 hV (by omega) (by omega) (by omega) (by omega)) rfl rfl rfl rfl (by decide) (by decide) rfl (Nat.le_of_ble_eq_true rfl) (by decide) (fun M184 hM184 => ?_)
                  have hf184 := LKf.tr hf hM184.1
                  have e5 : M184 185 = S := hf184.e e5M
                  refine g_aload_n (pc := 187) E dX6_attempt_187 (i := 0) rfl rfl ?_
                  refine g_getr (i := 184) (j := 192) (t := 6) (f := 15) (pc := 188) E dX6_attempt_188 fl_X6_31 rfl (by decide) (by decide) rfl rfl ?_
                  refine g_iload_n (pc := 191) E dX6_attempt_191 (i := 2) rfl rfl ?_
                  refine g_iald (pc := 192) E dX6_attempt_192 rfl (by omega) (by omega) (hM184.2.1 p (by omega) (by omega)).2 (fun _ _ => ?_)
                  refine g_iret (pc := 193) E hr dX6_attempt_193 ?_
                  exact ⟨by rw [atS, if_neg (by omega), if_neg (by omega), if_neg (by omega), if_neg (by omega), if_neg (by omega), if_neg (by omega), if_neg (by omega), if_neg (by omega), if_neg (by omega), if_pos (by omega)], hf184.sc⟩
                refine g_tableOut (pc := 74) (tgt := 194) E dX6_attempt_74 (by omega) (by decide) ?_
                refine g_aload_n (pc := 194) E dX6_attempt_194 (i := 0) rfl rfl ?_
                refine g_getr (i := 184) (j := 185) (t := 6) (f := 0) (pc := 195) E dX6_attempt_195 fl_X6_9 rfl (by decide) (by decide) rfl rfl ?_
                refine g_iload (pc := 198) E dX6_attempt_198 rfl ?_
                refine g_iald (pc := 200) E dX6_attempt_200 rfl (by omega) (by omega) (congrFun e5 _) (fun _ _ => ?_)
                refine g_iconst (pc := 201) E dX6_attempt_201 rfl ?_
                refine g_isub (pc := 202) E dX6_attempt_202 ?_
                refine g_iret (pc := 203) E hr dX6_attempt_203 ?_
                exact ⟨by rw [atS, if_neg (by omega), if_neg (by omega), if_neg (by omega), if_neg (by omega), if_neg (by omega), if_neg (by omega), if_neg (by omega), if_neg (by omega), if_neg (by omega), if_neg (by omega)], SCm.rf M⟩
              · refine g_bipush (pc := 70) E dX6_attempt_70 rfl ?_
                refine g_iret (pc := 72) E hr dX6_attempt_72 ?_
                exact ⟨by rw [atS, if_neg (by omega), if_neg (by omega), if_pos (by omega)], SCm.rf M⟩
      · replace qh25 := bi_0.mp qh25
        refine g_bipush (pc := 28) E dX6_attempt_28 rfl ?_
        refine g_iret (pc := 30) E hr dX6_attempt_30 ?_
        exact ⟨by rw [atS, if_neg (by omega), if_pos (by omega)], SCm.rf M⟩
    · replace qh13 := bi_0.mp qh13
      refine g_iconst (pc := 16) E dX6_attempt_16 rfl ?_
      refine g_iret (pc := 17) E hr dX6_attempt_17 ?_
      exact ⟨by rw [atS, if_pos (by omega)], SCm.rf M⟩

theorem ct_entered {cx : Cx} {M : Mem} {S : Int → Int} (e5 : M 185 = S) {i w : Int} (hV : SOK S) (hi : -2147483648 ≤ i ∧ i ≤ 2147483647) (hw : -2147483648 ≤ w ∧ w ≤ 2147483647) (ho : ∀ j, 0 ≤ j → j < S 8 → 0 ≤ S (585 + j) ∧ S (585 + j) / 8 < S 7 ∧ S (585 + j) % 8 < S 6) : Ct cx yX6_entered cX6_entered 5 (some .int) 9 0 0 [rf cx 184, .int (oi i), .int (oi w)] M (fun rz M' => etS S i w = rz ∧ SCm M M') := by
  refine ct_intro cd_X6_entered (by decide +kernel) (Nat.le_of_ble_eq_true rfl) rfl (fun Pg Lc Ev s m args below meth c E hr => ?_)
  refine g_ent (ls' := [some (rf cx 184), some (.int (oi i)), some (.int (oi w)), none, none]) rfl ?_
  have hV0 := hV.1
  have e5M := e5
  have hf := LKf.rf M
  refine g_iload_n (pc := 0) E dX6_entered_0 (i := 1) rfl rfl ?_
  refine g_iconst (pc := 1) E dX6_entered_1 rfl ?_
  refine g_aload_n (pc := 2) E dX6_entered_2 (i := 0) rfl rfl ?_
  refine g_getr (i := 184) (j := 185) (t := 6) (f := 0) (pc := 3) E dX6_entered_3 fl_X6_9 rfl (by decide) (by decide) rfl rfl ?_
  refine g_bipush (pc := 6) E dX6_entered_6 rfl ?_
  refine g_iald (pc := 8) E dX6_entered_8 rfl (by omega) (by omega) (congrFun e5 _) (fun _ _ => ?_)
  refine g_iconst (pc := 9) E dX6_entered_9 rfl ?_
  refine g_isub (pc := 10) E dX6_entered_10 ?_
  refine g_callS (pc := 11) (As := [_, _, _]) E dX6_entered_11 ml_X6_66 (ct_in (by omega) (by omega) (by omega)) rfl rfl (by decide) (by decide) rfl (Nat.le_of_ble_eq_true rfl) (by decide) (fun x11 M11 hM11 => ?_)
  obtain ⟨rfl, rfl⟩ := hM11
  refine g_if_ne (pc := 14) (tgt := 19) E dX6_entered_14 (by decide) (fun qh14 => ?_) (fun qh14 => ?_) (Int.le_trans (by decide) (bi_R _).1) (Int.le_trans (bi_R _).2 (by decide))
  · replace qh14 := bi_n.mp qh14
    have ho := ho i (by omega) (by omega)
    refine g_aload_n (pc := 19) E dX6_entered_19 (i := 0) rfl rfl ?_
    refine g_getr (i := 184) (j := 185) (t := 6) (f := 0) (pc := 20) E dX6_entered_20 fl_X6_9 rfl (by decide) (by decide) rfl rfl ?_
    refine g_sipush (pc := 23) E dX6_entered_23 rfl ?_
    refine g_iload_n (pc := 26) E dX6_entered_26 (i := 1) rfl rfl ?_
    refine g_iadd (pc := 27) E dX6_entered_27 ?_
    refine g_iald (pc := 28) E dX6_entered_28 rfl (by omega) (by omega) (congrFun e5 _) (fun _ _ => ?_)
    refine g_bipush (pc := 29) E dX6_entered_29 rfl ?_
    refine g_idiv (pc := 31) E dX6_entered_31 (by omega) (by omega) (by omega) (by omega) ?_
    refine g_istore_n (pc := 32) E dX6_entered_32 (i := 3) (ls' := [_, _, _, _, _]) rfl (Nat.le_of_ble_eq_true rfl) rfl ?_
    refine g_aload_n (pc := 33) E dX6_entered_33 (i := 0) rfl rfl ?_
    refine g_getr (i := 184) (j := 185) (t := 6) (f := 0) (pc := 34) E dX6_entered_34 fl_X6_9 rfl (by decide) (by decide) rfl rfl ?_
    refine g_sipush (pc := 37) E dX6_entered_37 rfl ?_
    refine g_iload_n (pc := 40) E dX6_entered_40 (i := 1) rfl rfl ?_
    refine g_iadd (pc := 41) E dX6_entered_41 ?_
    refine g_iald (pc := 42) E dX6_entered_42 rfl (by omega) (by omega) (congrFun e5 _) (fun _ _ => ?_)
    refine g_bipush (pc := 43) E dX6_entered_43 rfl ?_
    refine g_irem (pc := 45) E dX6_entered_45 (by omega) (by omega) (by omega) (by omega) ?_
    refine g_istore (pc := 46) E dX6_entered_46 (ls' := [_, _, _, _, _]) (Nat.le_of_ble_eq_true rfl) rfl ?_
    refine g_iload_n (pc := 48) E dX6_entered_48 (i := 2) rfl rfl ?_
    refine g_if_ne (pc := 49) (tgt := 56) E dX6_entered_49 (by decide) (fun qh49 => ?_) (fun qh49 => ?_) 
    · refine g_iload_n (pc := 56) E dX6_entered_56 (i := 2) rfl rfl ?_
      refine g_iconst (pc := 57) E dX6_entered_57 rfl ?_
      refine g_icmp_ne (pc := 58) (tgt := 66) E dX6_entered_58 (by decide) (fun qh58 => ?_) (fun qh58 => ?_) 
      · refine g_iload_n (pc := 66) E dX6_entered_66 (i := 2) rfl rfl ?_
        refine g_iconst (pc := 67) E dX6_entered_67 rfl ?_
        refine g_icmp_ne (pc := 68) (tgt := 81) E dX6_entered_68 (by decide) (fun qh68 => ?_) (fun qh68 => ?_) 
        · refine g_bipush (pc := 81) E dX6_entered_81 rfl ?_
          refine g_iret (pc := 83) E hr dX6_entered_83 ?_
          exact ⟨by rw [etS, if_neg (by omega), if_neg (by omega), if_neg (by omega), if_neg (by omega)], SCm.rf M⟩
        · refine g_aload_n (pc := 71) E dX6_entered_71 (i := 0) rfl rfl ?_
          refine g_iload_n (pc := 72) E dX6_entered_72 (i := 3) rfl rfl ?_
          refine g_iload (pc := 73) E dX6_entered_73 rfl ?_
          refine g_callV (pc := 75) (As := [_, _]) E dX6_entered_75 ml_X6_129 (ct_markOf e5 hV (by omega) (by omega) (by omega) (by omega)) rfl rfl rfl rfl (by decide) (by decide) rfl (Nat.le_of_ble_eq_true rfl) (by decide) (fun x75 M75 hM75 => ?_)
          obtain ⟨rfl, rfl⟩ := hM75
          refine g_goto (pc := 78) (tgt := 83) E dX6_entered_78 (by decide) ?_
          refine g_iret (pc := 83) E hr dX6_entered_83 ?_
          exact ⟨by rw [etS, if_neg (by omega), if_neg (by omega), if_neg (by omega), if_pos (by omega)], SCm.rf M⟩
      · refine g_iload (pc := 61) E dX6_entered_61 rfl ?_
        refine g_goto (pc := 63) (tgt := 83) E dX6_entered_63 (by decide) ?_
        refine g_iret (pc := 83) E hr dX6_entered_83 ?_
        exact ⟨by rw [etS, if_neg (by omega), if_neg (by omega), if_pos (by omega)], SCm.rf M⟩
    · refine g_iload_n (pc := 52) E dX6_entered_52 (i := 3) rfl rfl ?_
      refine g_goto (pc := 53) (tgt := 83) E dX6_entered_53 (by decide) ?_
      refine g_iret (pc := 83) E hr dX6_entered_83 ?_
      exact ⟨by rw [etS, if_neg (by omega), if_pos (by omega)], SCm.rf M⟩
  · replace qh14 := bi_0.mp qh14
    refine g_iconst (pc := 17) E dX6_entered_17 rfl ?_
    refine g_iret (pc := 18) E hr dX6_entered_18 ?_
    exact ⟨by rw [etS, if_pos (by omega)], SCm.rf M⟩

theorem ct_paper {cx : Cx} {M : Mem} {S : Int → Int} (e5 : M 185 = S) {p w : Int} (hV : SOK S) (hp : -2147483648 ≤ p ∧ p ≤ 2147483647) (hw : -2147483648 ≤ w ∧ w ≤ 2147483647) : Ct cx yX6_paper cX6_paper 6 (some .int) 10 0 0 [rf cx 184, .int (oi p), .int (oi w)] M (fun rz M' => paS S p w = rz ∧ SCm M M') := by
  refine ct_intro cd_X6_paper (by decide +kernel) (Nat.le_of_ble_eq_true rfl) rfl (fun Pg Lc Ev s m args below meth c E hr => ?_)
  refine g_ent (ls' := [some (rf cx 184), some (.int (oi p)), some (.int (oi w)), none, none, none]) rfl ?_
  have hV0 := hV.1
  have e5M := e5
  have hf := LKf.rf M
  refine g_aload_n (pc := 0) E dX6_paper_0 (i := 0) rfl rfl ?_
  refine g_iload_n (pc := 1) E dX6_paper_1 (i := 1) rfl rfl ?_
  refine g_callV (pc := 2) (As := [_]) E dX6_paper_2 ml_X6_84 (ct_isPaper e5 hV (by omega)) rfl rfl rfl rfl (by decide) (by decide) rfl (Nat.le_of_ble_eq_true rfl) (by decide) (fun x2 M2 hM2 => ?_)
  obtain ⟨rfl, rfl⟩ := hM2
  refine g_if_ne (pc := 5) (tgt := 10) E dX6_paper_5 (by decide) (fun qh5 => ?_) (fun qh5 => ?_) (Int.le_trans (by decide) (bi_R _).1) (Int.le_trans (bi_R _).2 (by decide))
  · replace qh5 := bi_n.mp qh5
    refine g_iload_n (pc := 10) E dX6_paper_10 (i := 2) rfl rfl ?_
    refine g_iconst (pc := 11) E dX6_paper_11 rfl ?_
    refine g_bipush (pc := 12) E dX6_paper_12 rfl ?_
    refine g_callS (pc := 14) (As := [_, _, _]) E dX6_paper_14 ml_X6_66 (ct_in (by omega) (by omega) (by omega)) rfl rfl (by decide) (by decide) rfl (Nat.le_of_ble_eq_true rfl) (by decide) (fun x14 M14 hM14 => ?_)
    obtain ⟨rfl, rfl⟩ := hM14
    refine g_if_ne (pc := 17) (tgt := 23) E dX6_paper_17 (by decide) (fun qh17 => ?_) (fun qh17 => ?_) (Int.le_trans (by decide) (bi_R _).1) (Int.le_trans (bi_R _).2 (by decide))
    · replace qh17 := bi_n.mp qh17
      refine g_iload_n (pc := 23) E dX6_paper_23 (i := 2) rfl rfl ?_
      refine g_iconst (pc := 24) E dX6_paper_24 rfl ?_
      refine g_icmp_ge (pc := 25) (tgt := 35) E dX6_paper_25 (by decide) (fun qh25 => ?_) (fun qh25 => ?_) 
      · refine g_iconst (pc := 35) E dX6_paper_35 rfl ?_
        refine g_istore_n (pc := 36) E dX6_paper_36 (i := 3) (ls' := [_, _, _, _, _, _]) rfl (Nat.le_of_ble_eq_true rfl) rfl ?_
        refine g_iconst (pc := 37) E dX6_paper_37 rfl ?_
        refine g_istore (pc := 38) E dX6_paper_38 (ls' := [_, _, _, _, _, _]) (Nat.le_of_ble_eq_true rfl) rfl ?_
        have LP40 : ∀ (n : Nat) (N : Mem) (x a : Int), S 7 - x < (n : Int) → 0 ≤ x → x ≤ S 7 → LKf M N → a = sz (paF S p w) x → G cx Pg Lc Ev (rmD 10 0 0) s m args below meth c (MQ below (QI cx (fun rz M' => paS S p w = rz ∧ SCm M M')) args s 0 0 (cA0 cx)) 40 [some (rf cx 184), some (.int (oi p)), some (.int (oi w)), some (.int (oi a)), some (.int (oi x)), none] [] (N) 0 0 := by
          intro n
          induction n with
          | zero => intro N x a hn hx0 hx1 hf ha; exact absurd hn (by omega)
          | succ n ih40 =>
            intro N x a hn hx0 hx1 hf ha
            have e5 : N 185 = S := hf.e e5M
            have haR := sz_R (f := paF S p w) (a := 0) (b := 1) hx0 (fun j _ _ => by unfold paF; (repeat' split) <;> omega)
            refine g_iload (pc := 40) E dX6_paper_40 rfl ?_
            refine g_aload_n (pc := 42) E dX6_paper_42 (i := 0) rfl rfl ?_
            refine g_getr (i := 184) (j := 185) (t := 6) (f := 0) (pc := 43) E dX6_paper_43 fl_X6_9 rfl (by decide) (by decide) rfl rfl ?_
            refine g_bipush (pc := 46) E dX6_paper_46 rfl ?_
            refine g_iald (pc := 48) E dX6_paper_48 rfl (by omega) (by omega) (congrFun e5 _) (fun _ _ => ?_)
            refine g_icmp_ge (pc := 49) (tgt := 132) E dX6_paper_49 (by decide) (fun qh49 => ?_) (fun qh49 => ?_) 
            · refine g_iload_n (pc := 132) E dX6_paper_132 (i := 3) rfl rfl ?_
              refine g_iret (pc := 133) E hr dX6_paper_133 ?_
              exact ⟨by rw [paS, if_neg (by omega), if_neg (by omega), if_neg (by omega), ha, show x = S 7 by omega], hf.sc⟩
            · have hVa := hV.2.2.2.2.1 x p (by omega) (by omega) (by omega) (by omega)
              have hVp := hV.2.2.1 p (by omega) (by omega)
              refine g_iload (pc := 52) E dX6_paper_52 rfl ?_
              refine g_iload_n (pc := 54) E dX6_paper_54 (i := 1) rfl rfl ?_
              refine g_callS (pc := 55) (As := [_, _]) E dX6_paper_55 ml_X6_81 ct_attemptAt rfl rfl (by decide) (by decide) rfl (Nat.le_of_ble_eq_true rfl) (by decide) (fun x55 M55 hM55 => ?_)
              obtain ⟨rfl, rfl⟩ := hM55
              refine g_istore (pc := 58) E dX6_paper_58 (ls' := [_, _, _, _, _, _]) (Nat.le_of_ble_eq_true rfl) rfl ?_
              refine g_iload_n (pc := 60) E dX6_paper_60 (i := 2) rfl rfl ?_
              refine g_iconst (pc := 61) E dX6_paper_61 rfl ?_
              refine g_icmp_ne (pc := 62) (tgt := 75) E dX6_paper_62 (by decide) (fun qh62 => ?_) (fun qh62 => ?_) 
              · refine g_iload_n (pc := 75) E dX6_paper_75 (i := 2) rfl rfl ?_
                refine g_iconst (pc := 76) E dX6_paper_76 rfl ?_
                refine g_icmp_ne (pc := 77) (tgt := 95) E dX6_paper_77 (by decide) (fun qh77 => ?_) (fun qh77 => ?_) 
                · refine g_iload_n (pc := 95) E dX6_paper_95 (i := 2) rfl rfl ?_
                  refine g_iconst (pc := 96) E dX6_paper_96 rfl ?_
                  refine g_icmp_ge (pc := 97) (tgt := 103) E dX6_paper_97 (by decide) (fun qh97 => ?_) (fun qh97 => absurd qh97 (by omega)) 
                  refine g_aload_n (pc := 103) E dX6_paper_103 (i := 0) rfl rfl ?_
                  refine g_iload (pc := 104) E dX6_paper_104 rfl ?_
                  refine g_iconst (pc := 106) E dX6_paper_106 rfl ?_
                  refine g_iconst (pc := 107) E dX6_paper_107 rfl ?_
                  refine g_callVv (pc := 108) (As := [_, _, _]) E dX6_paper_108 ml_X6_90 (cv_looks e5 hV (by omega) (by omega) (by omega) (by omega)) rfl rfl rfl rfl (by decide) (by decide) rfl (Nat.le_of_ble_eq_true rfl) (by decide) (fun M108 hM108 => ?_)
                  have hf108 := LKf.tr hf hM108.1
                  have e5 : M108 185 = S := hf108.e e5M
                  refine g_aload_n (pc := 111) E dX6_paper_111 (i := 0) rfl rfl ?_
                  refine g_getr (i := 184) (j := 192) (t := 6) (f := 15) (pc := 112) E dX6_paper_112 fl_X6_31 rfl (by decide) (by decide) rfl rfl ?_
                  refine g_iload_n (pc := 115) E dX6_paper_115 (i := 1) rfl rfl ?_
                  refine g_iald (pc := 116) E dX6_paper_116 rfl (by omega) (by omega) (hM108.2.1 p (by omega) (by omega)).2 (fun _ _ => ?_)
                  have hsR := stA_R S (lkM S x (-1) 0) p
                  refine g_iload_n (pc := 117) E dX6_paper_117 (i := 2) rfl rfl ?_
                  refine g_iconst (pc := 118) E dX6_paper_118 rfl ?_
                  refine g_isub (pc := 119) E dX6_paper_119 ?_
                  refine g_icmp_ne (pc := 120) (tgt := 126) E dX6_paper_120 (by decide) (fun qh120 => ?_) (fun qh120 => ?_) 
                  · refine g_iinc (pc := 126) E dX6_paper_126 (ls' := [_, _, _, _, _, _]) rfl rfl rfl ?_
                    refine g_goto (pc := 129) (tgt := 40) E dX6_paper_129 (by decide) ?_
                    exact g_wk2 (ih40 M108 (x + 1) a (by omega) (by omega) (by omega) hf108 (by rw [sz_s hx0, ha, show paF S p w x = 0 from by rw [paF, if_neg (by omega), if_neg (by omega), if_neg (by omega)]]; omega)) ⟨rfl, rfl, rfl, rfl, rfl, trivial⟩
                  · refine g_iinc (pc := 123) E dX6_paper_123 (ls' := [_, _, _, _, _, _]) rfl rfl rfl ?_
                    refine g_iinc (pc := 126) E dX6_paper_126 (ls' := [_, _, _, _, _, _]) rfl rfl rfl ?_
                    refine g_goto (pc := 129) (tgt := 40) E dX6_paper_129 (by decide) ?_
                    exact g_wk2 (ih40 M108 (x + 1) (a + 1) (by omega) (by omega) (by omega) hf108 (by rw [sz_s hx0, ha, show paF S p w x = 1 from by rw [paF, if_neg (by omega), if_neg (by omega), if_pos (by omega)]])) ⟨rfl, rfl, rfl, rfl, rfl, trivial⟩
                · refine g_aload_n (pc := 80) E dX6_paper_80 (i := 0) rfl rfl ?_
                  refine g_getr (i := 184) (j := 185) (t := 6) (f := 0) (pc := 81) E dX6_paper_81 fl_X6_9 rfl (by decide) (by decide) rfl rfl ?_
                  refine g_iload (pc := 84) E dX6_paper_84 rfl ?_
                  refine g_iconst (pc := 86) E dX6_paper_86 rfl ?_
                  refine g_iadd (pc := 87) E dX6_paper_87 ?_
                  refine g_iald (pc := 88) E dX6_paper_88 rfl (by omega) (by omega) (congrFun e5 _) (fun _ _ => ?_)
                  refine g_if_lt (pc := 89) (tgt := 95) E dX6_paper_89 (by decide) (fun qh89 => ?_) (fun qh89 => ?_) 
                  · refine g_iload_n (pc := 95) E dX6_paper_95 (i := 2) rfl rfl ?_
                    refine g_iconst (pc := 96) E dX6_paper_96 rfl ?_
                    refine g_icmp_ge (pc := 97) (tgt := 103) E dX6_paper_97 (by decide) (fun qh97 => absurd qh97 (by omega)) (fun qh97 => ?_) 
                    refine g_goto (pc := 100) (tgt := 126) E dX6_paper_100 (by decide) ?_
                    refine g_iinc (pc := 126) E dX6_paper_126 (ls' := [_, _, _, _, _, _]) rfl rfl rfl ?_
                    refine g_goto (pc := 129) (tgt := 40) E dX6_paper_129 (by decide) ?_
                    exact g_wk2 (ih40 N (x + 1) a (by omega) (by omega) (by omega) hf (by rw [sz_s hx0, ha, show paF S p w x = 0 from by rw [paF, if_neg (by omega), if_pos (by omega), if_neg (by omega)]]; omega)) ⟨rfl, rfl, rfl, rfl, rfl, trivial⟩
                  · refine g_iinc (pc := 92) E dX6_paper_92 (ls' := [_, _, _, _, _, _]) rfl rfl rfl ?_
                    refine g_iload_n (pc := 95) E dX6_paper_95 (i := 2) rfl rfl ?_
                    refine g_iconst (pc := 96) E dX6_paper_96 rfl ?_
                    refine g_icmp_ge (pc := 97) (tgt := 103) E dX6_paper_97 (by decide) (fun qh97 => absurd qh97 (by omega)) (fun qh97 => ?_) 
                    refine g_goto (pc := 100) (tgt := 126) E dX6_paper_100 (by decide) ?_
                    refine g_iinc (pc := 126) E dX6_paper_126 (ls' := [_, _, _, _, _, _]) rfl rfl rfl ?_
                    refine g_goto (pc := 129) (tgt := 40) E dX6_paper_129 (by decide) ?_
                    exact g_wk2 (ih40 N (x + 1) (a + 1) (by omega) (by omega) (by omega) hf (by rw [sz_s hx0, ha, show paF S p w x = 1 from by rw [paF, if_neg (by omega), if_pos (by omega), if_pos (by omega)]])) ⟨rfl, rfl, rfl, rfl, rfl, trivial⟩
              · refine g_aload_n (pc := 65) E dX6_paper_65 (i := 0) rfl rfl ?_
                refine g_getr (i := 184) (j := 185) (t := 6) (f := 0) (pc := 66) E dX6_paper_66 fl_X6_9 rfl (by decide) (by decide) rfl rfl ?_
                refine g_iload (pc := 69) E dX6_paper_69 rfl ?_
                refine g_iald (pc := 71) E dX6_paper_71 rfl (by omega) (by omega) (congrFun e5 _) (fun _ _ => ?_)
                refine g_if_gt (pc := 72) (tgt := 92) E dX6_paper_72 (by decide) (fun qh72 => ?_) (fun qh72 => ?_) 
                · refine g_iinc (pc := 92) E dX6_paper_92 (ls' := [_, _, _, _, _, _]) rfl rfl rfl ?_
                  refine g_iload_n (pc := 95) E dX6_paper_95 (i := 2) rfl rfl ?_
                  refine g_iconst (pc := 96) E dX6_paper_96 rfl ?_
                  refine g_icmp_ge (pc := 97) (tgt := 103) E dX6_paper_97 (by decide) (fun qh97 => absurd qh97 (by omega)) (fun qh97 => ?_) 
                  refine g_goto (pc := 100) (tgt := 126) E dX6_paper_100 (by decide) ?_
                  refine g_iinc (pc := 126) E dX6_paper_126 (ls' := [_, _, _, _, _, _]) rfl rfl rfl ?_
                  refine g_goto (pc := 129) (tgt := 40) E dX6_paper_129 (by decide) ?_
                  exact g_wk2 (ih40 N (x + 1) (a + 1) (by omega) (by omega) (by omega) hf (by rw [sz_s hx0, ha, show paF S p w x = 1 from by rw [paF, if_pos (by omega), if_pos (by omega)]])) ⟨rfl, rfl, rfl, rfl, rfl, trivial⟩
                · refine g_iload_n (pc := 75) E dX6_paper_75 (i := 2) rfl rfl ?_
                  refine g_iconst (pc := 76) E dX6_paper_76 rfl ?_
                  refine g_icmp_ne (pc := 77) (tgt := 95) E dX6_paper_77 (by decide) (fun qh77 => ?_) (fun qh77 => absurd qh77 (by omega)) 
                  refine g_iload_n (pc := 95) E dX6_paper_95 (i := 2) rfl rfl ?_
                  refine g_iconst (pc := 96) E dX6_paper_96 rfl ?_
                  refine g_icmp_ge (pc := 97) (tgt := 103) E dX6_paper_97 (by decide) (fun qh97 => absurd qh97 (by omega)) (fun qh97 => ?_) 
                  refine g_goto (pc := 100) (tgt := 126) E dX6_paper_100 (by decide) ?_
                  refine g_iinc (pc := 126) E dX6_paper_126 (ls' := [_, _, _, _, _, _]) rfl rfl rfl ?_
                  refine g_goto (pc := 129) (tgt := 40) E dX6_paper_129 (by decide) ?_
                  exact g_wk2 (ih40 N (x + 1) a (by omega) (by omega) (by omega) hf (by rw [sz_s hx0, ha, show paF S p w x = 0 from by rw [paF, if_pos (by omega), if_neg (by omega)]]; omega)) ⟨rfl, rfl, rfl, rfl, rfl, trivial⟩
        exact g_wk2 (LP40 (S 7 + 1).toNat M 0 0 (by omega) (by omega) (by omega) hf rfl) ⟨rfl, rfl, rfl, rfl, rfl, trivial⟩
      · refine g_aload_n (pc := 28) E dX6_paper_28 (i := 0) rfl rfl ?_
        refine g_iload_n (pc := 29) E dX6_paper_29 (i := 1) rfl rfl ?_
        refine g_iload_n (pc := 30) E dX6_paper_30 (i := 2) rfl rfl ?_
        refine g_callV (pc := 31) (As := [_, _]) E dX6_paper_31 ml_X6_87 (ct_of e5 (e := 13 + 3 * p + w) (by omega) (by omega) (by omega) (by omega) rfl) rfl rfl rfl rfl (by decide) (by decide) rfl (Nat.le_of_ble_eq_true rfl) (by decide) (fun x31 M31 hM31 => ?_)
        obtain ⟨rfl, rfl⟩ := hM31
        refine g_iret (pc := 34) E hr dX6_paper_34 ?_
        exact ⟨by rw [paS, if_neg (by omega), if_neg (by omega), if_pos (by omega)], SCm.rf M⟩
    · replace qh17 := bi_0.mp qh17
      refine g_bipush (pc := 20) E dX6_paper_20 rfl ?_
      refine g_iret (pc := 22) E hr dX6_paper_22 ?_
      exact ⟨by rw [paS, if_neg (by omega), if_pos (by omega)], SCm.rf M⟩
  · replace qh5 := bi_0.mp qh5
    refine g_iconst (pc := 8) E dX6_paper_8 rfl ?_
    refine g_iret (pc := 9) E hr dX6_paper_9 ?_
    exact ⟨by rw [paS, if_pos (by omega)], SCm.rf M⟩

def moF (S : Int → Int) (s m w p : Int) : Int := if S (13 + 3 * p) = m ∧ (w = 4 ∨ (w = 2 ∧ 0 ≤ lkM S s (-1) 0 p) ∨ (w = 3 ∧ stA S (lkM S s (-1) 0) p = 2)) then 1 else 0
def moS (S : Int → Int) (s m w : Int) : Int := if ¬ (inT S s ∧ inM S m) then -1 else if ¬ (0 ≤ w ∧ w ≤ 4) then -2 else if w = 0 then (if inS S (lkM S s (-1) 0) m < 0 then -5 else inS S (lkM S s (-1) 0) m) else if w = 1 then bi (psM S (lkM S s (-1) 0) m) else sz (moF S s m w) (S 6)
def neF (S : Int → Int) (s p b x : Int) : Int := if 0 < grS S (lkM S s p x) ∧ grS S (lkM S s p x) < b then 1 else 0
def neB (S : Int → Int) (s : Int) : Int := if 1 ≤ grS S (lkM S s (-1) 0) ∧ grS S (lkM S s (-1) 0) ≤ 4 then grS S (lkM S s (-1) 0) else 5
def neS (S : Int → Int) (s p : Int) : Int := if ¬ (inT S s ∧ inP S p) then -1 else if fi (neF S s p (neB S s)) 101 = -1 then -5 else fi (neF S s p (neB S s)) 101
def chF (S : Int → Int) (w v s : Int) : Int := if grS (ru S w v) (lkM (ru S w v) s (-1) 0) = grS S (lkM S s (-1) 0) then 0 else 1
def chS (S : Int → Int) (w v : Int) : Int := if ¬ setOK w v then -2 else sz (chF S w v) (S 7)
theorem SOK_set {S : Int → Int} (hV : SOK S) {w v : Int} (h : setOK w v) : SOK (ru S w v) := by
  obtain ⟨h1, h2, h3, h4, h5, h6⟩ := hV
  have hw : 0 ≤ w ∧ w ≤ 4 := by unfold setOK at h; omega
  have e : ∀ x, 4 < x → ru S w v x = S x := fun x hx => ru_off (by omega)
  refine ⟨?_, fun m a b => ?_, fun p a b => ?_, fun s a b => ?_, fun s p a b c d => ?_, fun p q a b c d => ?_⟩
  · unfold setOK at h
    rw [e 5 (by decide), e 6 (by decide), e 7 (by decide), e 8 (by decide)]
    unfold ru
    rcases h with ⟨rfl, h⟩ | ⟨rfl, h⟩ | ⟨rfl, h⟩ | ⟨rfl, h⟩ | ⟨rfl, h⟩ <;> simp <;> omega
  · rw [e 5 (by decide)] at b
    rw [e _ (by omega)]
    exact h2 m a b
  · rw [e 6 (by decide)] at b
    rw [e 5 (by decide), e _ (by omega), e _ (by omega), e _ (by omega)]
    exact h3 p a b
  · rw [e 7 (by decide)] at b
    rw [e _ (by omega)]
    exact h4 s a b
  · rw [e 7 (by decide)] at b
    rw [e 6 (by decide)] at d
    rw [e _ (by omega), e _ (by omega), e _ (by omega), e _ (by omega)]
    exact h5 s p a b c d
  · rw [e 6 (by decide)] at b
    rw [e _ (by omega), e _ (by omega)]
    exact h6 p q a b c d
