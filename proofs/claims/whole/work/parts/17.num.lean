/-! the numbers of a board: S is the row 'now' of the reference: 0..4 settings, 5 modules, 6 papers, 7 students, 8 pairs, 9.. credits, 13.. papers, 37.. cohorts, 57.. attempts, 537.. rules, 585.. order -/
def SOK (S : Int → Int) : Prop :=
  (30 ≤ S 0 ∧ S 0 ≤ 60 ∧ 0 ≤ S 1 ∧ S 1 ≤ 60 ∧ 0 ≤ S 2 ∧ S 2 ≤ 8 ∧ 0 ≤ S 3 ∧ S 3 ≤ 5 ∧ 0 ≤ S 4 ∧ S 4 ≤ 100 ∧ 0 ≤ S 5 ∧ S 5 ≤ 4 ∧ 0 ≤ S 6 ∧ S 6 ≤ 8 ∧ 0 ≤ S 7 ∧ S 7 ≤ 20 ∧ 0 ≤ S 8 ∧ S 8 ≤ 160) ∧
  (∀ m, 0 ≤ m → m < S 5 → 1 ≤ S (9 + m) ∧ S (9 + m) ≤ 9) ∧
  (∀ p, 0 ≤ p → p < S 6 → 0 ≤ S (13 + 3 * p) ∧ S (13 + 3 * p) < S 5 ∧ 1 ≤ S (13 + 3 * p + 1) ∧ S (13 + 3 * p + 1) ≤ 9 ∧ 10 ≤ S (13 + 3 * p + 2) ∧ S (13 + 3 * p + 2) ≤ 200) ∧
  (∀ s, 0 ≤ s → s < S 7 → 0 ≤ S (37 + s) ∧ S (37 + s) ≤ 2) ∧
  (∀ s p, 0 ≤ s → s < S 7 → 0 ≤ p → p < S 6 → 0 ≤ S (57 + 3 * (8 * s + p)) ∧ S (57 + 3 * (8 * s + p)) ≤ 3 ∧ 0 ≤ S (57 + 3 * (8 * s + p) + 1) ∧ S (57 + 3 * (8 * s + p) + 1) ≤ S (13 + 3 * p + 2) ∧ -1 ≤ S (57 + 3 * (8 * s + p) + 2) ∧ S (57 + 3 * (8 * s + p) + 2) ≤ S (13 + 3 * p + 2) ∧ (S (57 + 3 * (8 * s + p)) = 0 → S (57 + 3 * (8 * s + p) + 2) = -1) ∧ (¬ S (57 + 3 * (8 * s + p)) = 1 → S (57 + 3 * (8 * s + p) + 1) = 0)) ∧
  (∀ p c, 0 ≤ p → p < S 6 → 0 ≤ c → c < 3 → 0 ≤ S (537 + 2 * (3 * p + c)) ∧ S (537 + 2 * (3 * p + c)) ≤ 3 ∧ -30 ≤ S (537 + 2 * (3 * p + c) + 1) ∧ S (537 + 2 * (3 * p + c) + 1) ≤ 150)
def pcS (S : Int → Int) (p raw : Int) : Int := nrs (100 * raw) (S (13 + 3 * p + 2))
def fstS (S : Int → Int) (s p : Int) : Int := if S (57 + 3 * (8 * s + p)) = 1 then pcS S p (S (57 + 3 * (8 * s + p) + 1)) else 0
/-- student s has a raw mark in paper p and belongs to cohort c -/
abbrev rawIn (S : Int → Int) (p c s : Int) : Prop := S (37 + s) = c ∧ S (57 + 3 * (8 * s + p)) = 1
def cntF (S : Int → Int) (p c s : Int) : Int := if S (37 + s) = c ∧ S (57 + 3 * (8 * s + p)) = 1 then 1 else 0
def sumF (S : Int → Int) (p c s : Int) : Int := if S (37 + s) = c ∧ S (57 + 3 * (8 * s + p)) = 1 then fstS S s p else 0
def cntS (S : Int → Int) (p c : Int) : Int := sz (cntF S p c) (S 7)
def sumS (S : Int → Int) (p c : Int) : Int := sz (sumF S p c) (S 7)
def byR (r v x : Int) : Int := if r = 1 then x + v else if r = 2 then 50 + ((x - 50) * v) / 100 else x
def byV (S : Int → Int) (p c x : Int) : Int := if S (537 + 2 * (3 * p + c)) = 3 ∧ 0 < cntS S p c then byR (S (537 + 2 * (3 * p + c))) (S (537 + 2 * (3 * p + c) + 1)) x + (S (537 + 2 * (3 * p + c) + 1) - nrs (sumS S p c) (cntS S p c)) else byR (S (537 + 2 * (3 * p + c))) (S (537 + 2 * (3 * p + c) + 1)) x
def byS (S : Int → Int) (p c x : Int) : Int := max 0 (min 100 (byV S p c x))
def scS (S : Int → Int) (s p : Int) : Int := if S (57 + 3 * (8 * s + p)) = 1 then byS S p (S (37 + s)) (fstS S s p) else 0
/-- what a resit counts for; -1: there is none -/
def agS (S : Int → Int) (s p : Int) : Int := if S (57 + 3 * (8 * s + p) + 2) < 0 then -1 else if S (57 + 3 * (8 * s + p)) = 3 then pcS S p (S (57 + 3 * (8 * s + p) + 2)) else min (pcS S p (S (57 + 3 * (8 * s + p) + 2))) (S 4)
def mkS (S : Int → Int) (s p : Int) : Int := if S (57 + 3 * (8 * s + p)) = 0 then -1 else max (scS S s p) (agS S s p)
theorem mulR {a b A B : Int} (h1 : -A ≤ a) (h2 : a ≤ A) (h3 : -B ≤ b) (h4 : b ≤ B) : -(A * B) ≤ a * b ∧ a * b ≤ A * B := by
  have e1 : 0 ≤ (A - a) * (B - b) := Int.mul_nonneg (by omega) (by omega)
  have e2 : 0 ≤ (A + a) * (B + b) := Int.mul_nonneg (by omega) (by omega)
  have e3 : 0 ≤ (A - a) * (B + b) := Int.mul_nonneg (by omega) (by omega)
  have e4 : 0 ≤ (A + a) * (B - b) := Int.mul_nonneg (by omega) (by omega)
  simp only [Int.sub_mul, Int.mul_sub, Int.add_mul, Int.mul_add] at e1 e2 e3 e4
  omega
theorem pcS_R {S : Int → Int} {p raw : Int} (h0 : 0 ≤ raw) (h1 : raw ≤ S (13 + 3 * p + 2)) (h2 : 10 ≤ S (13 + 3 * p + 2)) : 0 ≤ pcS S p raw ∧ pcS S p raw ≤ 100 := nrs_R (by omega) (by omega) (by omega)
theorem fstS_R {S : Int → Int} (hV : SOK S) {s p : Int} (h0 : 0 ≤ s) (h1 : s < S 7) (h2 : 0 ≤ p) (h3 : p < S 6) : 0 ≤ fstS S s p ∧ fstS S s p ≤ 100 := by
  have a := hV.2.2.1 p h2 h3
  have b := hV.2.2.2.2.1 s p h0 h1 h2 h3
  unfold fstS
  split
  · exact pcS_R (by omega) (by omega) (by omega)
  · omega
theorem cntS_R {S : Int → Int} (hV : SOK S) (p c : Int) : 0 ≤ cntS S p c ∧ cntS S p c ≤ 20 := by
  have a := hV.1
  have b := sz_R (f := cntF S p c) (a := 0) (b := 1) (x := S 7) (by omega) (fun j _ _ => by unfold cntF; split <;> omega)
  unfold cntS
  omega
theorem sumS_R {S : Int → Int} (hV : SOK S) {p : Int} (c : Int) (h2 : 0 ≤ p) (h3 : p < S 6) : 0 ≤ sumS S p c ∧ sumS S p c ≤ 2000 := by
  have a := hV.1
  have b := sz_R (f := sumF S p c) (a := 0) (b := 100) (x := S 7) (by omega) (fun j h0 h1 => by
    have := fstS_R hV h0 h1 h2 h3
    unfold sumF
    split <;> omega)
  unfold sumS
  omega
/-- the sum is at most a hundred for each -/
theorem smN_le {f g : Int → Int} : ∀ k : Nat, (∀ j : Int, 0 ≤ j → j < k → f j ≤ 100 * g j) → smN f k ≤ 100 * smN g k
  | 0, _ => by simp [smN]
  | k + 1, h => by
    have h1 := smN_le (f := f) (g := g) k (fun j h0 h1 => h j h0 (by omega))
    have h2 := h k (by omega) (by omega)
    show smN f k + f k ≤ 100 * (smN g k + g k)
    omega
theorem sumS_le {S : Int → Int} (hV : SOK S) {p : Int} (c : Int) (h2 : 0 ≤ p) (h3 : p < S 6) : sumS S p c ≤ 100 * cntS S p c := by
  refine smN_le _ (fun j h0 h1 => ?_)
  have a := hV.1
  have := fstS_R hV h0 (show j < S 7 by omega) h2 h3
  unfold sumF cntF
  split <;> omega
theorem byR_R {r v x : Int} (h1 : 0 ≤ x) (h2 : x ≤ 100) (h3 : -30 ≤ v) (h4 : v ≤ 150) : -200 ≤ byR r v x ∧ byR r v x ≤ 300 := by
  unfold byR
  have := mulR (a := x - 50) (b := v) (A := 50) (B := 150) (by omega) (by omega) (by omega) (by omega)
  split
  · omega
  · split
    · omega
    · omega
theorem byV_R {S : Int → Int} (hV : SOK S) {p c x : Int} (h2 : 0 ≤ p) (h3 : p < S 6) (h4 : 0 ≤ c) (h5 : c < 3) (h6 : 0 ≤ x) (h7 : x ≤ 100) : -1000 ≤ byV S p c x ∧ byV S p c x ≤ 1000 := by
  have a := hV.2.2.2.2.2 p c h2 h3 h4 h5
  have b := byR_R (r := S (537 + 2 * (3 * p + c))) h6 h7 a.2.2.1 a.2.2.2
  unfold byV
  split
  · next hc =>
    have e := nrs_R (a := sumS S p c) (b := cntS S p c) (B := 100) (sumS_R hV c h2 h3).1 hc.2 (by have := sumS_le hV c h2 h3; omega)
    omega
  · omega
theorem byS_R (S : Int → Int) (p c x : Int) : 0 ≤ byS S p c x ∧ byS S p c x ≤ 100 := by unfold byS; omega
theorem scS_R (S : Int → Int) (s p : Int) : 0 ≤ scS S s p ∧ scS S s p ≤ 100 := by
  unfold scS
  split
  · exact byS_R _ _ _ _
  · omega
theorem agS_R {S : Int → Int} (hV : SOK S) {s p : Int} (h0 : 0 ≤ s) (h1 : s < S 7) (h2 : 0 ≤ p) (h3 : p < S 6) : -1 ≤ agS S s p ∧ agS S s p ≤ 100 := by
  have a := hV.2.2.1 p h2 h3
  have b := hV.2.2.2.2.1 s p h0 h1 h2 h3
  have c := hV.1
  unfold agS
  split
  · omega
  · have d := pcS_R (S := S) (p := p) (raw := S (57 + 3 * (8 * s + p) + 2)) (by omega) (by omega) (by omega)
    split
    · omega
    · omega
theorem mkS_R {S : Int → Int} (hV : SOK S) {s p : Int} (h0 : 0 ≤ s) (h1 : s < S 7) (h2 : 0 ≤ p) (h3 : p < S 6) : -1 ≤ mkS S s p ∧ mkS S s p ≤ 100 := by
  have a := scS_R S s p
  have b := agS_R hV h0 h1 h2 h3
  unfold mkS
  split
  · omega
  · omega

theorem ct_nearest {cx : Cx} {M : Mem} {a b : Int} (ha : 0 ≤ a) (ha2 : a ≤ 100000000) (hb : 0 < b) (hb2 : b ≤ 100000000) : Ct cx yX6_nearest cX6_nearest 2 (some .int) 2 0 0 [.int (oi a), .int (oi b)] M (fun rz M' => nrs a b = rz ∧ M = M') := by
  refine ct_intro cd_X6_nearest (by decide +kernel) (Nat.le_of_ble_eq_true rfl) rfl (fun Pg Lc Ev s m args below meth c E hr => ?_)
  refine g_ent (ls' := [some (.int (oi a)), some (.int (oi b))]) rfl ?_
  refine g_iconst (pc := 0) E dX6_nearest_0 rfl ?_
  refine g_iload_n (pc := 1) E dX6_nearest_1 (i := 0) rfl rfl ?_
  refine g_imul (pc := 2) E dX6_nearest_2 ?_
  refine g_iload_n (pc := 3) E dX6_nearest_3 (i := 1) rfl rfl ?_
  refine g_iadd (pc := 4) E dX6_nearest_4 ?_
  refine g_iconst (pc := 5) E dX6_nearest_5 rfl ?_
  refine g_iload_n (pc := 6) E dX6_nearest_6 (i := 1) rfl rfl ?_
  refine g_imul (pc := 7) E dX6_nearest_7 ?_
  refine g_callS (pc := 8) (As := [_, _]) E dX6_nearest_8 ml_X6_60 (ct_floorDiv (by omega) (by omega) (by omega) (by omega)) rfl rfl (by decide) (by decide) rfl (Nat.le_of_ble_eq_true rfl) (by decide) (fun x8 M8 hM8 => ?_)
  obtain ⟨rfl, rfl⟩ := hM8
  refine g_iret (pc := 11) E hr dX6_nearest_11 ?_
  exact ⟨rfl, rfl⟩

theorem ct_isModule {cx : Cx} {M : Mem} {S : Int → Int} (e5 : M 185 = S) {v : Int} (hV : SOK S) (hv : -2147483648 ≤ v ∧ v ≤ 2147483647) : Ct cx yX6_isModule cX6_isModule 2 (some .boolean) 2 0 0 [rf cx 184, .int (oi v)] M (fun rz M' => bi (0 ≤ v ∧ v < S 5) = rz ∧ M = M') := by
  refine ct_intro cd_X6_isModule (by decide +kernel) (Nat.le_of_ble_eq_true rfl) rfl (fun Pg Lc Ev s m args below meth c E hr => ?_)
  refine g_ent (ls' := [some (rf cx 184), some (.int (oi v))]) rfl ?_
  have hV0 := hV.1
  refine g_iload_n (pc := 0) E dX6_isModule_0 (i := 1) rfl rfl ?_
  refine g_iconst (pc := 1) E dX6_isModule_1 rfl ?_
  refine g_aload_n (pc := 2) E dX6_isModule_2 (i := 0) rfl rfl ?_
  refine g_getr (i := 184) (j := 185) (t := 6) (f := 0) (pc := 3) E dX6_isModule_3 fl_X6_9 rfl (by decide) (by decide) rfl rfl ?_
  refine g_iconst (pc := 6) E dX6_isModule_6 rfl ?_
  refine g_iald (pc := 7) E dX6_isModule_7 rfl (by omega) (by omega) (congrFun e5 _) (fun _ _ => ?_)
  refine g_iconst (pc := 8) E dX6_isModule_8 rfl ?_
  refine g_isub (pc := 9) E dX6_isModule_9 ?_
  refine g_callS (pc := 10) (As := [_, _, _]) E dX6_isModule_10 ml_X6_66 (ct_in (by omega) (by omega) (by omega)) rfl rfl (by decide) (by decide) rfl (Nat.le_of_ble_eq_true rfl) (by decide) (fun x10 M10 hM10 => ?_)
  obtain ⟨rfl, rfl⟩ := hM10
  refine g_zret (pc := 13) E hr dX6_isModule_13 (by first | exact Or.inl rfl | exact Or.inr rfl | exact bi_in _ | omega) ?_
  exact ⟨bi_c (by omega), rfl⟩

theorem ct_isPaper {cx : Cx} {M : Mem} {S : Int → Int} (e5 : M 185 = S) {v : Int} (hV : SOK S) (hv : -2147483648 ≤ v ∧ v ≤ 2147483647) : Ct cx yX6_isPaper cX6_isPaper 2 (some .boolean) 2 0 0 [rf cx 184, .int (oi v)] M (fun rz M' => bi (0 ≤ v ∧ v < S 6) = rz ∧ M = M') := by
  refine ct_intro cd_X6_isPaper (by decide +kernel) (Nat.le_of_ble_eq_true rfl) rfl (fun Pg Lc Ev s m args below meth c E hr => ?_)
  refine g_ent (ls' := [some (rf cx 184), some (.int (oi v))]) rfl ?_
  have hV0 := hV.1
  refine g_iload_n (pc := 0) E dX6_isPaper_0 (i := 1) rfl rfl ?_
  refine g_iconst (pc := 1) E dX6_isPaper_1 rfl ?_
  refine g_aload_n (pc := 2) E dX6_isPaper_2 (i := 0) rfl rfl ?_
  refine g_getr (i := 184) (j := 185) (t := 6) (f := 0) (pc := 3) E dX6_isPaper_3 fl_X6_9 rfl (by decide) (by decide) rfl rfl ?_
  refine g_bipush (pc := 6) E dX6_isPaper_6 rfl ?_
  refine g_iald (pc := 8) E dX6_isPaper_8 rfl (by omega) (by omega) (congrFun e5 _) (fun _ _ => ?_)
  refine g_iconst (pc := 9) E dX6_isPaper_9 rfl ?_
  refine g_isub (pc := 10) E dX6_isPaper_10 ?_
  refine g_callS (pc := 11) (As := [_, _, _]) E dX6_isPaper_11 ml_X6_66 (ct_in (by omega) (by omega) (by omega)) rfl rfl (by decide) (by decide) rfl (Nat.le_of_ble_eq_true rfl) (by decide) (fun x11 M11 hM11 => ?_)
  obtain ⟨rfl, rfl⟩ := hM11
  refine g_zret (pc := 14) E hr dX6_isPaper_14 (by first | exact Or.inl rfl | exact Or.inr rfl | exact bi_in _ | omega) ?_
  exact ⟨bi_c (by omega), rfl⟩

theorem ct_isStudent {cx : Cx} {M : Mem} {S : Int → Int} (e5 : M 185 = S) {v : Int} (hV : SOK S) (hv : -2147483648 ≤ v ∧ v ≤ 2147483647) : Ct cx yX6_isStudent cX6_isStudent 2 (some .boolean) 2 0 0 [rf cx 184, .int (oi v)] M (fun rz M' => bi (0 ≤ v ∧ v < S 7) = rz ∧ M = M') := by
  refine ct_intro cd_X6_isStudent (by decide +kernel) (Nat.le_of_ble_eq_true rfl) rfl (fun Pg Lc Ev s m args below meth c E hr => ?_)
  refine g_ent (ls' := [some (rf cx 184), some (.int (oi v))]) rfl ?_
  have hV0 := hV.1
  refine g_iload_n (pc := 0) E dX6_isStudent_0 (i := 1) rfl rfl ?_
  refine g_iconst (pc := 1) E dX6_isStudent_1 rfl ?_
  refine g_aload_n (pc := 2) E dX6_isStudent_2 (i := 0) rfl rfl ?_
  refine g_getr (i := 184) (j := 185) (t := 6) (f := 0) (pc := 3) E dX6_isStudent_3 fl_X6_9 rfl (by decide) (by decide) rfl rfl ?_
  refine g_bipush (pc := 6) E dX6_isStudent_6 rfl ?_
  refine g_iald (pc := 8) E dX6_isStudent_8 rfl (by omega) (by omega) (congrFun e5 _) (fun _ _ => ?_)
  refine g_iconst (pc := 9) E dX6_isStudent_9 rfl ?_
  refine g_isub (pc := 10) E dX6_isStudent_10 ?_
  refine g_callS (pc := 11) (As := [_, _, _]) E dX6_isStudent_11 ml_X6_66 (ct_in (by omega) (by omega) (by omega)) rfl rfl (by decide) (by decide) rfl (Nat.le_of_ble_eq_true rfl) (by decide) (fun x11 M11 hM11 => ?_)
  obtain ⟨rfl, rfl⟩ := hM11
  refine g_zret (pc := 14) E hr dX6_isStudent_14 (by first | exact Or.inl rfl | exact Or.inr rfl | exact bi_in _ | omega) ?_
  exact ⟨bi_c (by omega), rfl⟩

theorem ct_of {cx : Cx} {M : Mem} {S : Int → Int} (e5 : M 185 = S) {p w e : Int} (hp0 : 0 ≤ p) (hp1 : p < 8) (hw0 : 0 ≤ w) (hw1 : w < 3) (he : 13 + 3 * p + w = e) : Ct cx yX6_of cX6_of 3 (some .int) 1 0 0 [rf cx 184, .int (oi p), .int (oi w)] M (fun rz M' => S e = rz ∧ M = M') := by
  refine ct_intro cd_X6_of (by decide +kernel) (Nat.le_of_ble_eq_true rfl) rfl (fun Pg Lc Ev s m args below meth c E hr => ?_)
  refine g_ent (ls' := [some (rf cx 184), some (.int (oi p)), some (.int (oi w))]) rfl ?_
  refine g_aload_n (pc := 0) E dX6_of_0 (i := 0) rfl rfl ?_
  refine g_getr (i := 184) (j := 185) (t := 6) (f := 0) (pc := 1) E dX6_of_1 fl_X6_9 rfl (by decide) (by decide) rfl rfl ?_
  refine g_bipush (pc := 4) E dX6_of_4 rfl ?_
  refine g_iconst (pc := 6) E dX6_of_6 rfl ?_
  refine g_iload_n (pc := 7) E dX6_of_7 (i := 1) rfl rfl ?_
  refine g_imul (pc := 8) E dX6_of_8 ?_
  refine g_iadd (pc := 9) E dX6_of_9 ?_
  refine g_iload_n (pc := 10) E dX6_of_10 (i := 2) rfl rfl ?_
  refine g_iadd (pc := 11) E dX6_of_11 ?_
  refine g_iald (pc := 12) E dX6_of_12 rfl (by omega) (by omega) (congrFun e5 _) (fun _ _ => ?_)
  refine g_iret (pc := 13) E hr dX6_of_13 ?_
  exact ⟨by rw [he], rfl⟩

theorem ct_attemptAt {cx : Cx} {M : Mem} {sn p : Int} : Ct cx yX6_attemptAt cX6_attemptAt 2 (some .int) 1 0 0 [.int (oi sn), .int (oi p)] M (fun rz M' => 57 + 3 * (8 * sn + p) = rz ∧ M = M') := by
  refine ct_intro cd_X6_attemptAt (by decide +kernel) (Nat.le_of_ble_eq_true rfl) rfl (fun Pg Lc Ev s m args below meth c E hr => ?_)
  refine g_ent (ls' := [some (.int (oi sn)), some (.int (oi p))]) rfl ?_
  refine g_bipush (pc := 0) E dX6_attemptAt_0 rfl ?_
  refine g_iconst (pc := 2) E dX6_attemptAt_2 rfl ?_
  refine g_bipush (pc := 3) E dX6_attemptAt_3 rfl ?_
  refine g_iload_n (pc := 5) E dX6_attemptAt_5 (i := 0) rfl rfl ?_
  refine g_imul (pc := 6) E dX6_attemptAt_6 ?_
  refine g_iload_n (pc := 7) E dX6_attemptAt_7 (i := 1) rfl rfl ?_
  refine g_iadd (pc := 8) E dX6_attemptAt_8 ?_
  refine g_imul (pc := 9) E dX6_attemptAt_9 ?_
  refine g_iadd (pc := 10) E dX6_attemptAt_10 ?_
  refine g_iret (pc := 11) E hr dX6_attemptAt_11 ?_
  exact ⟨rfl, rfl⟩

theorem ct_percent {cx : Cx} {M : Mem} {S : Int → Int} (e5 : M 185 = S) {p raw : Int} (hp0 : 0 ≤ p) (hp1 : p < 8) (hr0 : 0 ≤ raw) (hr1 : raw ≤ 200) (hf : 10 ≤ S (13 + 3 * p + 2)) (hf2 : S (13 + 3 * p + 2) ≤ 200) : Ct cx yX6_percent cX6_percent 3 (some .int) 3 0 0 [rf cx 184, .int (oi p), .int (oi raw)] M (fun rz M' => pcS S p raw = rz ∧ M = M') := by
  refine ct_intro cd_X6_percent (by decide +kernel) (Nat.le_of_ble_eq_true rfl) rfl (fun Pg Lc Ev s m args below meth c E hr => ?_)
  refine g_ent (ls' := [some (rf cx 184), some (.int (oi p)), some (.int (oi raw))]) rfl ?_
  refine g_bipush (pc := 0) E dX6_percent_0 rfl ?_
  refine g_iload_n (pc := 2) E dX6_percent_2 (i := 2) rfl rfl ?_
  refine g_imul (pc := 3) E dX6_percent_3 ?_
  refine g_aload_n (pc := 4) E dX6_percent_4 (i := 0) rfl rfl ?_
  refine g_iload_n (pc := 5) E dX6_percent_5 (i := 1) rfl rfl ?_
  refine g_iconst (pc := 6) E dX6_percent_6 rfl ?_
  refine g_callV (pc := 7) (As := [_, _]) E dX6_percent_7 ml_X6_87 (ct_of e5 (e := 13 + 3 * p + 2) (by omega) (by omega) (by omega) (by omega) rfl) rfl rfl rfl rfl (by decide) (by decide) rfl (Nat.le_of_ble_eq_true rfl) (by decide) (fun x7 M7 hM7 => ?_)
  obtain ⟨rfl, rfl⟩ := hM7
  refine g_callS (pc := 10) (As := [_, _]) E dX6_percent_10 ml_X6_94 (ct_nearest (by omega) (by omega) (by omega) (by omega)) rfl rfl (by decide) (by decide) rfl (Nat.le_of_ble_eq_true rfl) (by decide) (fun x10 M10 hM10 => ?_)
  obtain ⟨rfl, rfl⟩ := hM10
  refine g_iret (pc := 13) E hr dX6_percent_13 ?_
  exact ⟨rfl, rfl⟩

theorem ct_first {cx : Cx} {M : Mem} {S : Int → Int} (e5 : M 185 = S) {sn p : Int} (hV : SOK S) (hs0 : 0 ≤ sn) (hs1 : sn < S 7) (hp0 : 0 ≤ p) (hp1 : p < S 6) : Ct cx yX6_first cX6_first 4 (some .int) 4 0 0 [rf cx 184, .int (oi sn), .int (oi p)] M (fun rz M' => fstS S sn p = rz ∧ M = M') := by
  refine ct_intro cd_X6_first (by decide +kernel) (Nat.le_of_ble_eq_true rfl) rfl (fun Pg Lc Ev s m args below meth c E hr => ?_)
  refine g_ent (ls' := [some (rf cx 184), some (.int (oi sn)), some (.int (oi p)), none]) rfl ?_
  have hV0 := hV.1
  have hVp := hV.2.2.1 p (by omega) (by omega)
  have hVa := hV.2.2.2.2.1 sn p (by omega) (by omega) (by omega) (by omega)
  refine g_iload_n (pc := 0) E dX6_first_0 (i := 1) rfl rfl ?_
  refine g_iload_n (pc := 1) E dX6_first_1 (i := 2) rfl rfl ?_
  refine g_callS (pc := 2) (As := [_, _]) E dX6_first_2 ml_X6_81 ct_attemptAt rfl rfl (by decide) (by decide) rfl (Nat.le_of_ble_eq_true rfl) (by decide) (fun x2 M2 hM2 => ?_)
  obtain ⟨rfl, rfl⟩ := hM2
  refine g_istore_n (pc := 5) E dX6_first_5 (i := 3) (ls' := [_, _, _, _]) rfl (Nat.le_of_ble_eq_true rfl) rfl ?_
  refine g_aload_n (pc := 6) E dX6_first_6 (i := 0) rfl rfl ?_
  refine g_getr (i := 184) (j := 185) (t := 6) (f := 0) (pc := 7) E dX6_first_7 fl_X6_9 rfl (by decide) (by decide) rfl rfl ?_
  refine g_iload_n (pc := 10) E dX6_first_10 (i := 3) rfl rfl ?_
  refine g_iald (pc := 11) E dX6_first_11 rfl (by omega) (by omega) (congrFun e5 _) (fun _ _ => ?_)
  refine g_iconst (pc := 12) E dX6_first_12 rfl ?_
  refine g_icmp_ne (pc := 13) (tgt := 32) E dX6_first_13 (by decide) (fun qh13 => ?_) (fun qh13 => ?_) 
  · refine g_iconst (pc := 32) E dX6_first_32 rfl ?_
    refine g_iret (pc := 33) E hr dX6_first_33 ?_
    exact ⟨if_neg qh13, rfl⟩
  · refine g_aload_n (pc := 16) E dX6_first_16 (i := 0) rfl rfl ?_
    refine g_iload_n (pc := 17) E dX6_first_17 (i := 2) rfl rfl ?_
    refine g_aload_n (pc := 18) E dX6_first_18 (i := 0) rfl rfl ?_
    refine g_getr (i := 184) (j := 185) (t := 6) (f := 0) (pc := 19) E dX6_first_19 fl_X6_9 rfl (by decide) (by decide) rfl rfl ?_
    refine g_iload_n (pc := 22) E dX6_first_22 (i := 3) rfl rfl ?_
    refine g_iconst (pc := 23) E dX6_first_23 rfl ?_
    refine g_iadd (pc := 24) E dX6_first_24 ?_
    refine g_iald (pc := 25) E dX6_first_25 rfl (by omega) (by omega) (congrFun e5 _) (fun _ _ => ?_)
    refine g_callV (pc := 26) (As := [_, _]) E dX6_first_26 ml_X6_97 (ct_percent e5 (by omega) (by omega) (by omega) (by omega) (by omega) (by omega)) rfl rfl rfl rfl (by decide) (by decide) rfl (Nat.le_of_ble_eq_true rfl) (by decide) (fun x26 M26 hM26 => ?_)
    obtain ⟨rfl, rfl⟩ := hM26
    refine g_goto (pc := 29) (tgt := 33) E dX6_first_29 (by decide) ?_
    refine g_iret (pc := 33) E hr dX6_first_33 ?_
    exact ⟨if_pos (by omega), rfl⟩

theorem ct_cnt {cx : Cx} {M : Mem} {S : Int → Int} (e5 : M 185 = S) {p cn : Int} (hV : SOK S) (hp0 : 0 ≤ p) (hp1 : p < S 6) (hc0 : 0 ≤ cn) (hc1 : cn < 3) : Ct cx yX6_percents cX6_percents 6 (some .int) 5 0 0 [rf cx 184, .int (oi p), .int (oi cn), .int (oi 1)] M (fun rz M' => cntS S p cn = rz ∧ M = M') := by
  refine ct_intro cd_X6_percents (by decide +kernel) (Nat.le_of_ble_eq_true rfl) rfl (fun Pg Lc Ev s m args below meth c E hr => ?_)
  refine g_ent (ls' := [some (rf cx 184), some (.int (oi p)), some (.int (oi cn)), some (.int (oi 1)), none, none]) rfl ?_
  have hV0 := hV.1
  have hVp := hV.2.2.1 p (by omega) (by omega)
  refine g_iconst (pc := 0) E dX6_percents_0 rfl ?_
  refine g_istore (pc := 1) E dX6_percents_1 (ls' := [_, _, _, _, _, _]) (Nat.le_of_ble_eq_true rfl) rfl ?_
  refine g_iconst (pc := 3) E dX6_percents_3 rfl ?_
  refine g_istore (pc := 4) E dX6_percents_4 (ls' := [_, _, _, _, _, _]) (Nat.le_of_ble_eq_true rfl) rfl ?_
  have LP6 : ∀ (n : Nat) (x a : Int), S 7 - x < (n : Int) → 0 ≤ x → x ≤ S 7 → a = sz (cntF S p cn) x → G cx Pg Lc Ev (rmD 5 0 0) s m args below meth c (MQ below (QI cx (fun rz M' => cntS S p cn = rz ∧ M = M')) args s 0 0 (cA0 cx)) 6 [some (rf cx 184), some (.int (oi p)), some (.int (oi cn)), some (.int (oi 1)), some (.int (oi a)), some (.int (oi x))] [] (M) 0 0 := by
    intro n
    induction n with
    | zero => intro x a hn hx0 hx1 ha; exact absurd hn (by omega)
    | succ n ih6 =>
      intro x a hn hx0 hx1 ha
      refine g_iload (pc := 6) E dX6_percents_6 rfl ?_
      refine g_aload_n (pc := 8) E dX6_percents_8 (i := 0) rfl rfl ?_
      refine g_getr (i := 184) (j := 185) (t := 6) (f := 0) (pc := 9) E dX6_percents_9 fl_X6_9 rfl (by decide) (by decide) rfl rfl ?_
      refine g_bipush (pc := 12) E dX6_percents_12 rfl ?_
      refine g_iald (pc := 14) E dX6_percents_14 rfl (by omega) (by omega) (congrFun e5 _) (fun _ _ => ?_)
      refine g_icmp_ge (pc := 15) (tgt := 76) E dX6_percents_15 (by decide) (fun qh15 => ?_) (fun qh15 => ?_) 
      · refine g_iload (pc := 76) E dX6_percents_76 rfl ?_
        refine g_iret (pc := 78) E hr dX6_percents_78 ?_
        exact ⟨by rw [ha, show x = S 7 by omega]; rfl, rfl⟩
      · have hVs := hV.2.2.2.1 x (by omega) (by omega)
        refine g_aload_n (pc := 18) E dX6_percents_18 (i := 0) rfl rfl ?_
        refine g_getr (i := 184) (j := 185) (t := 6) (f := 0) (pc := 19) E dX6_percents_19 fl_X6_9 rfl (by decide) (by decide) rfl rfl ?_
        refine g_bipush (pc := 22) E dX6_percents_22 rfl ?_
        refine g_iload (pc := 24) E dX6_percents_24 rfl ?_
        refine g_iadd (pc := 26) E dX6_percents_26 ?_
        refine g_iald (pc := 27) E dX6_percents_27 rfl (by omega) (by omega) (congrFun e5 _) (fun _ _ => ?_)
        refine g_iload_n (pc := 28) E dX6_percents_28 (i := 2) rfl rfl ?_
        refine g_icmp_ne (pc := 29) (tgt := 70) E dX6_percents_29 (by decide) (fun qh29 => ?_) (fun qh29 => ?_) 
        · refine g_iinc (pc := 70) E dX6_percents_70 (ls' := [_, _, _, _, _, _]) rfl rfl rfl ?_
          refine g_goto (pc := 73) (tgt := 6) E dX6_percents_73 (by decide) ?_
          exact g_wk2 (ih6 (x + 1) a (by omega) (by omega) (by omega) (by rw [sz_s hx0, ha, show cntF S p cn x = 0 from if_neg (by omega)]; omega)) ⟨rfl, rfl, rfl, rfl, rfl, rfl, trivial⟩
        · have hVa := hV.2.2.2.2.1 x p (by omega) (by omega) (by omega) (by omega)
          refine g_aload_n (pc := 32) E dX6_percents_32 (i := 0) rfl rfl ?_
          refine g_getr (i := 184) (j := 185) (t := 6) (f := 0) (pc := 33) E dX6_percents_33 fl_X6_9 rfl (by decide) (by decide) rfl rfl ?_
          refine g_iload (pc := 36) E dX6_percents_36 rfl ?_
          refine g_iload_n (pc := 38) E dX6_percents_38 (i := 1) rfl rfl ?_
          refine g_callS (pc := 39) (As := [_, _]) E dX6_percents_39 ml_X6_81 ct_attemptAt rfl rfl (by decide) (by decide) rfl (Nat.le_of_ble_eq_true rfl) (by decide) (fun x39 M39 hM39 => ?_)
          obtain ⟨rfl, rfl⟩ := hM39
          refine g_iald (pc := 42) E dX6_percents_42 rfl (by omega) (by omega) (congrFun e5 _) (fun _ _ => ?_)
          refine g_iconst (pc := 43) E dX6_percents_43 rfl ?_
          refine g_icmp_eq (pc := 44) (tgt := 50) E dX6_percents_44 (by decide) (fun qh44 => ?_) (fun qh44 => ?_) 
          · refine g_iload (pc := 50) E dX6_percents_50 rfl ?_
            refine g_iload_n (pc := 52) E dX6_percents_52 (i := 3) rfl rfl ?_
            refine g_if_eq (pc := 53) (tgt := 60) E dX6_percents_53 (by decide) (fun qh53 => absurd qh53 (by omega)) (fun qh53 => ?_) 
            refine g_iconst (pc := 56) E dX6_percents_56 rfl ?_
            refine g_goto (pc := 57) (tgt := 67) E dX6_percents_57 (by decide) ?_
            refine g_iadd (pc := 67) E dX6_percents_67 ?_
            refine g_istore (pc := 68) E dX6_percents_68 (ls' := [_, _, _, _, _, _]) (Nat.le_of_ble_eq_true rfl) rfl ?_
            refine g_iinc (pc := 70) E dX6_percents_70 (ls' := [_, _, _, _, _, _]) rfl rfl rfl ?_
            refine g_goto (pc := 73) (tgt := 6) E dX6_percents_73 (by decide) ?_
            exact g_wk2 (ih6 (x + 1) (a + 1) (by omega) (by omega) (by omega) (by rw [sz_s hx0, ha, show cntF S p cn x = 1 from if_pos (by omega)])) ⟨rfl, rfl, rfl, rfl, rfl, rfl, trivial⟩
          · refine g_goto (pc := 47) (tgt := 70) E dX6_percents_47 (by decide) ?_
            refine g_iinc (pc := 70) E dX6_percents_70 (ls' := [_, _, _, _, _, _]) rfl rfl rfl ?_
            refine g_goto (pc := 73) (tgt := 6) E dX6_percents_73 (by decide) ?_
            exact g_wk2 (ih6 (x + 1) a (by omega) (by omega) (by omega) (by rw [sz_s hx0, ha, show cntF S p cn x = 0 from if_neg (by omega)]; omega)) ⟨rfl, rfl, rfl, rfl, rfl, rfl, trivial⟩
  exact g_wk2 (LP6 (S 7 + 1).toNat 0 0 (by omega) (by omega) (by omega) rfl) ⟨rfl, rfl, rfl, rfl, rfl, rfl, trivial⟩

theorem ct_sum {cx : Cx} {M : Mem} {S : Int → Int} (e5 : M 185 = S) {p cn : Int} (hV : SOK S) (hp0 : 0 ≤ p) (hp1 : p < S 6) (hc0 : 0 ≤ cn) (hc1 : cn < 3) : Ct cx yX6_percents cX6_percents 6 (some .int) 5 0 0 [rf cx 184, .int (oi p), .int (oi cn), .int (oi 0)] M (fun rz M' => sumS S p cn = rz ∧ M = M') := by
  refine ct_intro cd_X6_percents (by decide +kernel) (Nat.le_of_ble_eq_true rfl) rfl (fun Pg Lc Ev s m args below meth c E hr => ?_)
  refine g_ent (ls' := [some (rf cx 184), some (.int (oi p)), some (.int (oi cn)), some (.int (oi 0)), none, none]) rfl ?_
  have hV0 := hV.1
  have hVp := hV.2.2.1 p (by omega) (by omega)
  refine g_iconst (pc := 0) E dX6_percents_0 rfl ?_
  refine g_istore (pc := 1) E dX6_percents_1 (ls' := [_, _, _, _, _, _]) (Nat.le_of_ble_eq_true rfl) rfl ?_
  refine g_iconst (pc := 3) E dX6_percents_3 rfl ?_
  refine g_istore (pc := 4) E dX6_percents_4 (ls' := [_, _, _, _, _, _]) (Nat.le_of_ble_eq_true rfl) rfl ?_
  have LP6 : ∀ (n : Nat) (x a : Int), S 7 - x < (n : Int) → 0 ≤ x → x ≤ S 7 → a = sz (sumF S p cn) x → G cx Pg Lc Ev (rmD 5 0 0) s m args below meth c (MQ below (QI cx (fun rz M' => sumS S p cn = rz ∧ M = M')) args s 0 0 (cA0 cx)) 6 [some (rf cx 184), some (.int (oi p)), some (.int (oi cn)), some (.int (oi 0)), some (.int (oi a)), some (.int (oi x))] [] (M) 0 0 := by
    intro n
    induction n with
    | zero => intro x a hn hx0 hx1 ha; exact absurd hn (by omega)
    | succ n ih6 =>
      intro x a hn hx0 hx1 ha
      refine g_iload (pc := 6) E dX6_percents_6 rfl ?_
      refine g_aload_n (pc := 8) E dX6_percents_8 (i := 0) rfl rfl ?_
      refine g_getr (i := 184) (j := 185) (t := 6) (f := 0) (pc := 9) E dX6_percents_9 fl_X6_9 rfl (by decide) (by decide) rfl rfl ?_
      refine g_bipush (pc := 12) E dX6_percents_12 rfl ?_
      refine g_iald (pc := 14) E dX6_percents_14 rfl (by omega) (by omega) (congrFun e5 _) (fun _ _ => ?_)
      refine g_icmp_ge (pc := 15) (tgt := 76) E dX6_percents_15 (by decide) (fun qh15 => ?_) (fun qh15 => ?_) 
      · refine g_iload (pc := 76) E dX6_percents_76 rfl ?_
        refine g_iret (pc := 78) E hr dX6_percents_78 ?_
        exact ⟨by rw [ha, show x = S 7 by omega]; rfl, rfl⟩
      · have hVs := hV.2.2.2.1 x (by omega) (by omega)
        refine g_aload_n (pc := 18) E dX6_percents_18 (i := 0) rfl rfl ?_
        refine g_getr (i := 184) (j := 185) (t := 6) (f := 0) (pc := 19) E dX6_percents_19 fl_X6_9 rfl (by decide) (by decide) rfl rfl ?_
        refine g_bipush (pc := 22) E dX6_percents_22 rfl ?_
        refine g_iload (pc := 24) E dX6_percents_24 rfl ?_
        refine g_iadd (pc := 26) E dX6_percents_26 ?_
        refine g_iald (pc := 27) E dX6_percents_27 rfl (by omega) (by omega) (congrFun e5 _) (fun _ _ => ?_)
        refine g_iload_n (pc := 28) E dX6_percents_28 (i := 2) rfl rfl ?_
        refine g_icmp_ne (pc := 29) (tgt := 70) E dX6_percents_29 (by decide) (fun qh29 => ?_) (fun qh29 => ?_) 
        · refine g_iinc (pc := 70) E dX6_percents_70 (ls' := [_, _, _, _, _, _]) rfl rfl rfl ?_
          refine g_goto (pc := 73) (tgt := 6) E dX6_percents_73 (by decide) ?_
          exact g_wk2 (ih6 (x + 1) a (by omega) (by omega) (by omega) (by rw [sz_s hx0, ha, show sumF S p cn x = 0 from if_neg (by omega)]; omega)) ⟨rfl, rfl, rfl, rfl, rfl, rfl, trivial⟩
        · have hVa := hV.2.2.2.2.1 x p (by omega) (by omega) (by omega) (by omega)
          refine g_aload_n (pc := 32) E dX6_percents_32 (i := 0) rfl rfl ?_
          refine g_getr (i := 184) (j := 185) (t := 6) (f := 0) (pc := 33) E dX6_percents_33 fl_X6_9 rfl (by decide) (by decide) rfl rfl ?_
          refine g_iload (pc := 36) E dX6_percents_36 rfl ?_
          refine g_iload_n (pc := 38) E dX6_percents_38 (i := 1) rfl rfl ?_
          refine g_callS (pc := 39) (As := [_, _]) E dX6_percents_39 ml_X6_81 ct_attemptAt rfl rfl (by decide) (by decide) rfl (Nat.le_of_ble_eq_true rfl) (by decide) (fun x39 M39 hM39 => ?_)
          obtain ⟨rfl, rfl⟩ := hM39
          refine g_iald (pc := 42) E dX6_percents_42 rfl (by omega) (by omega) (congrFun e5 _) (fun _ _ => ?_)
          refine g_iconst (pc := 43) E dX6_percents_43 rfl ?_
          refine g_icmp_eq (pc := 44) (tgt := 50) E dX6_percents_44 (by decide) (fun qh44 => ?_) (fun qh44 => ?_) 
          · refine g_iload (pc := 50) E dX6_percents_50 rfl ?_
            refine g_iload_n (pc := 52) E dX6_percents_52 (i := 3) rfl rfl ?_
            refine g_if_eq (pc := 53) (tgt := 60) E dX6_percents_53 (by decide) (fun qh53 => ?_) (fun qh53 => absurd qh53 (by omega)) 
            refine g_aload_n (pc := 60) E dX6_percents_60 (i := 0) rfl rfl ?_
            refine g_iload (pc := 61) E dX6_percents_61 rfl ?_
            refine g_iload_n (pc := 63) E dX6_percents_63 (i := 1) rfl rfl ?_
            refine g_callV (pc := 64) (As := [_, _]) E dX6_percents_64 ml_X6_100 (ct_first e5 hV (by omega) (by omega) (by omega) (by omega)) rfl rfl rfl rfl (by decide) (by decide) rfl (Nat.le_of_ble_eq_true rfl) (by decide) (fun x64 M64 hM64 => ?_)
            obtain ⟨rfl, rfl⟩ := hM64
            refine g_iadd (pc := 67) E dX6_percents_67 ?_
            refine g_istore (pc := 68) E dX6_percents_68 (ls' := [_, _, _, _, _, _]) (Nat.le_of_ble_eq_true rfl) rfl ?_
            refine g_iinc (pc := 70) E dX6_percents_70 (ls' := [_, _, _, _, _, _]) rfl rfl rfl ?_
            refine g_goto (pc := 73) (tgt := 6) E dX6_percents_73 (by decide) ?_
            exact g_wk2 (ih6 (x + 1) (a + fstS S x p) (by omega) (by omega) (by omega) (by rw [sz_s hx0, ha, show sumF S p cn x = fstS S x p from if_pos (by omega)])) ⟨rfl, rfl, rfl, rfl, rfl, rfl, trivial⟩
          · refine g_goto (pc := 47) (tgt := 70) E dX6_percents_47 (by decide) ?_
            refine g_iinc (pc := 70) E dX6_percents_70 (ls' := [_, _, _, _, _, _]) rfl rfl rfl ?_
            refine g_goto (pc := 73) (tgt := 6) E dX6_percents_73 (by decide) ?_
            exact g_wk2 (ih6 (x + 1) a (by omega) (by omega) (by omega) (by rw [sz_s hx0, ha, show sumF S p cn x = 0 from if_neg (by omega)]; omega)) ⟨rfl, rfl, rfl, rfl, rfl, rfl, trivial⟩
  exact g_wk2 (LP6 (S 7 + 1).toNat 0 0 (by omega) (by omega) (by omega) rfl) ⟨rfl, rfl, rfl, rfl, rfl, rfl, trivial⟩

theorem ct_by {cx : Cx} {M : Mem} {S : Int → Int} (e5 : M 185 = S) {p cn x : Int} (hV : SOK S) (hp0 : 0 ≤ p) (hp1 : p < S 6) (hc0 : 0 ≤ cn) (hc1 : cn < 3) (hx0 : 0 ≤ x) (hx1 : x ≤ 100) : Ct cx yX6_by cX6_by 8 (some .int) 6 0 0 [rf cx 184, .int (oi p), .int (oi cn), .int (oi x)] M (fun rz M' => byS S p cn x = rz ∧ M = M') := by
  refine ct_intro cd_X6_by (by decide +kernel) (Nat.le_of_ble_eq_true rfl) rfl (fun Pg Lc Ev s m args below meth c E hr => ?_)
  refine g_ent (ls' := [some (rf cx 184), some (.int (oi p)), some (.int (oi cn)), some (.int (oi x)), none, none, none, none]) rfl ?_
  have hV0 := hV.1
  have hVr := hV.2.2.2.2.2 p cn (by omega) (by omega) (by omega) (by omega)
  have hVp := hV.2.2.1 p (by omega) (by omega)
  have hR := byR_R (r := S (537 + 2 * (3 * p + cn))) hx0 hx1 hVr.2.2.1 hVr.2.2.2
  have hW := byV_R hV hp0 hp1 hc0 hc1 hx0 hx1
  have hm := mulR (a := x - 50) (b := S (537 + 2 * (3 * p + cn) + 1)) (A := 50) (B := 150) (by omega) (by omega) (by omega) (by omega)
  have hc := cntS_R hV p cn
  have hq := sumS_R hV cn hp0 hp1
  have hq2 := sumS_le hV cn hp0 hp1
  have JP118 : ∀ (w : Int), byV S p cn x = w → G cx Pg Lc Ev (rmD 6 0 0) s m args below meth c (MQ below (QI cx (fun rz M' => byS S p cn x = rz ∧ M = M')) args s 0 0 (cA0 cx)) 118 [some (rf cx 184), some (.int (oi p)), some (.int (oi cn)), some (.int (oi x)), none, none, some (.int (oi w)), none] [] (M) 0 0 := by
    intro w hw
    refine g_iconst (pc := 118) E dX6_by_118 rfl ?_
    refine g_bipush (pc := 119) E dX6_by_119 rfl ?_
    refine g_iload (pc := 121) E dX6_by_121 rfl ?_
    refine g_min (pc := 123) E dX6_by_123 (big_at 1269 (by decide +kernel) (by decide +kernel)) rfl (by decide) (Nat.le_of_ble_eq_true rfl) (by decide) ?_ 
    refine g_max (pc := 126) E dX6_by_126 (big_at 1270 (by decide +kernel) (by decide +kernel)) rfl (by decide) (Nat.le_of_ble_eq_true rfl) (by decide) ?_ 
    refine g_iret (pc := 129) E hr dX6_by_129 ?_
    exact ⟨by rw [byS, hw], rfl⟩
  have JP73 : ∀ (w : Int), byR (S (537 + 2 * (3 * p + cn))) (S (537 + 2 * (3 * p + cn) + 1)) x = w → G cx Pg Lc Ev (rmD 6 0 0) s m args below meth c (MQ below (QI cx (fun rz M' => byS S p cn x = rz ∧ M = M')) args s 0 0 (cA0 cx)) 73 [some (rf cx 184), some (.int (oi p)), some (.int (oi cn)), some (.int (oi x)), some (.int (oi (537 + 2 * (3 * p + cn)))), some (.int (oi (S (537 + 2 * (3 * p + cn) + 1)))), some (.int (oi w)), none] [] (M) 0 0 := by
    intro w hw
    refine g_aload_n (pc := 73) E dX6_by_73 (i := 0) rfl rfl ?_
    refine g_iload_n (pc := 74) E dX6_by_74 (i := 1) rfl rfl ?_
    refine g_iload_n (pc := 75) E dX6_by_75 (i := 2) rfl rfl ?_
    refine g_iconst (pc := 76) E dX6_by_76 rfl ?_
    refine g_callV (pc := 77) (As := [_, _, _]) E dX6_by_77 ml_X6_103 (ct_cnt e5 hV (by omega) (by omega) (by omega) (by omega)) rfl rfl rfl rfl (by decide) (by decide) rfl (Nat.le_of_ble_eq_true rfl) (by decide) (fun x77 M77 hM77 => ?_)
    obtain ⟨rfl, rfl⟩ := hM77
    refine g_istore (pc := 80) E dX6_by_80 (ls' := [_, _, _, _, _, _, _, _]) (Nat.le_of_ble_eq_true rfl) rfl ?_
    refine g_aload_n (pc := 82) E dX6_by_82 (i := 0) rfl rfl ?_
    refine g_getr (i := 184) (j := 185) (t := 6) (f := 0) (pc := 83) E dX6_by_83 fl_X6_9 rfl (by decide) (by decide) rfl rfl ?_
    refine g_iload (pc := 86) E dX6_by_86 rfl ?_
    refine g_iald (pc := 88) E dX6_by_88 rfl (by omega) (by omega) (congrFun e5 _) (fun _ _ => ?_)
    refine g_iconst (pc := 89) E dX6_by_89 rfl ?_
    refine g_icmp_ne (pc := 90) (tgt := 118) E dX6_by_90 (by decide) (fun qh90 => ?_) (fun qh90 => ?_) 
    · exact g_wk2 (JP118 _ (by rw [byV, if_neg (by omega), hw])) ⟨rfl, rfl, rfl, rfl, rfl, trivial⟩
    · refine g_iload (pc := 93) E dX6_by_93 rfl ?_
      refine g_if_le (pc := 95) (tgt := 118) E dX6_by_95 (by decide) (fun qh95 => ?_) (fun qh95 => ?_) 
      · exact g_wk2 (JP118 _ (by rw [byV, if_neg (by omega), hw])) ⟨rfl, rfl, rfl, rfl, rfl, trivial⟩
      · refine g_iload (pc := 98) E dX6_by_98 rfl ?_
        refine g_iload (pc := 100) E dX6_by_100 rfl ?_
        refine g_aload_n (pc := 102) E dX6_by_102 (i := 0) rfl rfl ?_
        refine g_iload_n (pc := 103) E dX6_by_103 (i := 1) rfl rfl ?_
        refine g_iload_n (pc := 104) E dX6_by_104 (i := 2) rfl rfl ?_
        refine g_iconst (pc := 105) E dX6_by_105 rfl ?_
        refine g_callV (pc := 106) (As := [_, _, _]) E dX6_by_106 ml_X6_103 (ct_sum e5 hV (by omega) (by omega) (by omega) (by omega)) rfl rfl rfl rfl (by decide) (by decide) rfl (Nat.le_of_ble_eq_true rfl) (by decide) (fun x106 M106 hM106 => ?_)
        obtain ⟨rfl, rfl⟩ := hM106
        refine g_iload (pc := 109) E dX6_by_109 rfl ?_
        refine g_callS (pc := 111) (As := [_, _]) E dX6_by_111 ml_X6_94 (ct_nearest (by omega) (by omega) (by omega) (by omega)) rfl rfl (by decide) (by decide) rfl (Nat.le_of_ble_eq_true rfl) (by decide) (fun x111 M111 hM111 => ?_)
        obtain ⟨rfl, rfl⟩ := hM111
        refine g_isub (pc := 114) E dX6_by_114 ?_
        refine g_iadd (pc := 115) E dX6_by_115 ?_
        refine g_istore (pc := 116) E dX6_by_116 (ls' := [_, _, _, _, _, _, _, _]) (Nat.le_of_ble_eq_true rfl) rfl ?_
        exact g_wk2 (JP118 _ (by rw [byV, if_pos (by omega), hw])) ⟨rfl, rfl, rfl, rfl, rfl, trivial⟩
  refine g_sipush (pc := 0) E dX6_by_0 rfl ?_
  refine g_iconst (pc := 3) E dX6_by_3 rfl ?_
  refine g_iconst (pc := 4) E dX6_by_4 rfl ?_
  refine g_iload_n (pc := 5) E dX6_by_5 (i := 1) rfl rfl ?_
  refine g_imul (pc := 6) E dX6_by_6 ?_
  refine g_iload_n (pc := 7) E dX6_by_7 (i := 2) rfl rfl ?_
  refine g_iadd (pc := 8) E dX6_by_8 ?_
  refine g_imul (pc := 9) E dX6_by_9 ?_
  refine g_iadd (pc := 10) E dX6_by_10 ?_
  refine g_istore (pc := 11) E dX6_by_11 (ls' := [_, _, _, _, _, _, _, _]) (Nat.le_of_ble_eq_true rfl) rfl ?_
  refine g_aload_n (pc := 13) E dX6_by_13 (i := 0) rfl rfl ?_
  refine g_getr (i := 184) (j := 185) (t := 6) (f := 0) (pc := 14) E dX6_by_14 fl_X6_9 rfl (by decide) (by decide) rfl rfl ?_
  refine g_iload (pc := 17) E dX6_by_17 rfl ?_
  refine g_iconst (pc := 19) E dX6_by_19 rfl ?_
  refine g_iadd (pc := 20) E dX6_by_20 ?_
  refine g_iald (pc := 21) E dX6_by_21 rfl (by omega) (by omega) (congrFun e5 _) (fun _ _ => ?_)
  refine g_istore (pc := 22) E dX6_by_22 (ls' := [_, _, _, _, _, _, _, _]) (Nat.le_of_ble_eq_true rfl) rfl ?_
  refine g_iload_n (pc := 24) E dX6_by_24 (i := 3) rfl rfl ?_
  refine g_istore (pc := 25) E dX6_by_25 (ls' := [_, _, _, _, _, _, _, _]) (Nat.le_of_ble_eq_true rfl) rfl ?_
  refine g_aload_n (pc := 27) E dX6_by_27 (i := 0) rfl rfl ?_
  refine g_getr (i := 184) (j := 185) (t := 6) (f := 0) (pc := 28) E dX6_by_28 fl_X6_9 rfl (by decide) (by decide) rfl rfl ?_
  refine g_iload (pc := 31) E dX6_by_31 rfl ?_
  refine g_iald (pc := 33) E dX6_by_33 rfl (by omega) (by omega) (congrFun e5 _) (fun _ _ => ?_)
  refine g_iconst (pc := 34) E dX6_by_34 rfl ?_
  refine g_icmp_ne (pc := 35) (tgt := 45) E dX6_by_35 (by decide) (fun qh35 => ?_) (fun qh35 => ?_) 
  · refine g_aload_n (pc := 45) E dX6_by_45 (i := 0) rfl rfl ?_
    refine g_getr (i := 184) (j := 185) (t := 6) (f := 0) (pc := 46) E dX6_by_46 fl_X6_9 rfl (by decide) (by decide) rfl rfl ?_
    refine g_iload (pc := 49) E dX6_by_49 rfl ?_
    refine g_iald (pc := 51) E dX6_by_51 rfl (by omega) (by omega) (congrFun e5 _) (fun _ _ => ?_)
    refine g_iconst (pc := 52) E dX6_by_52 rfl ?_
    refine g_icmp_ne (pc := 53) (tgt := 73) E dX6_by_53 (by decide) (fun qh53 => ?_) (fun qh53 => ?_) 
    · exact g_wk2 (JP73 _ (by rw [byR, if_neg (by omega), if_neg (by omega)])) ⟨rfl, rfl, rfl, rfl, rfl, rfl, rfl, trivial⟩
    · refine g_bipush (pc := 56) E dX6_by_56 rfl ?_
      refine g_iload_n (pc := 58) E dX6_by_58 (i := 3) rfl rfl ?_
      refine g_bipush (pc := 59) E dX6_by_59 rfl ?_
      refine g_isub (pc := 61) E dX6_by_61 ?_
      refine g_iload (pc := 62) E dX6_by_62 rfl ?_
      refine g_imul (pc := 64) E dX6_by_64 ?_
      refine g_bipush (pc := 65) E dX6_by_65 rfl ?_
      refine g_callS (pc := 67) (As := [_, _]) E dX6_by_67 ml_X6_60 (ct_floorDiv (by omega) (by omega) (by omega) (by omega)) rfl rfl (by decide) (by decide) rfl (Nat.le_of_ble_eq_true rfl) (by decide) (fun x67 M67 hM67 => ?_)
      obtain ⟨rfl, rfl⟩ := hM67
      refine g_iadd (pc := 70) E dX6_by_70 ?_
      refine g_istore (pc := 71) E dX6_by_71 (ls' := [_, _, _, _, _, _, _, _]) (Nat.le_of_ble_eq_true rfl) rfl ?_
      exact g_wk2 (JP73 _ (by rw [byR, if_neg (by omega), if_pos (by omega)])) ⟨rfl, rfl, rfl, rfl, rfl, rfl, rfl, trivial⟩
  · refine g_iload (pc := 38) E dX6_by_38 rfl ?_
    refine g_iload (pc := 40) E dX6_by_40 rfl ?_
    refine g_iadd (pc := 42) E dX6_by_42 ?_
    refine g_istore (pc := 43) E dX6_by_43 (ls' := [_, _, _, _, _, _, _, _]) (Nat.le_of_ble_eq_true rfl) rfl ?_
    refine g_aload_n (pc := 45) E dX6_by_45 (i := 0) rfl rfl ?_
    refine g_getr (i := 184) (j := 185) (t := 6) (f := 0) (pc := 46) E dX6_by_46 fl_X6_9 rfl (by decide) (by decide) rfl rfl ?_
    refine g_iload (pc := 49) E dX6_by_49 rfl ?_
    refine g_iald (pc := 51) E dX6_by_51 rfl (by omega) (by omega) (congrFun e5 _) (fun _ _ => ?_)
    refine g_iconst (pc := 52) E dX6_by_52 rfl ?_
    refine g_icmp_ne (pc := 53) (tgt := 73) E dX6_by_53 (by decide) (fun qh53 => ?_) (fun qh53 => ?_) 
    · exact g_wk2 (JP73 _ (by rw [byR, if_pos (by omega)])) ⟨rfl, rfl, rfl, rfl, rfl, rfl, rfl, trivial⟩
    · refine g_bipush (pc := 56) E dX6_by_56 rfl ?_
      refine g_iload_n (pc := 58) E dX6_by_58 (i := 3) rfl rfl ?_
      refine g_bipush (pc := 59) E dX6_by_59 rfl ?_
      refine g_isub (pc := 61) E dX6_by_61 ?_
      refine g_iload (pc := 62) E dX6_by_62 rfl ?_
      refine g_imul (pc := 64) E dX6_by_64 ?_
      refine g_bipush (pc := 65) E dX6_by_65 rfl ?_
      refine g_callS (pc := 67) (As := [_, _]) E dX6_by_67 ml_X6_60 (ct_floorDiv (by omega) (by omega) (by omega) (by omega)) rfl rfl (by decide) (by decide) rfl (Nat.le_of_ble_eq_true rfl) (by decide) (fun x67 M67 hM67 => ?_)
      obtain ⟨rfl, rfl⟩ := hM67
      refine g_iadd (pc := 70) E dX6_by_70 ?_
      refine g_istore (pc := 71) E dX6_by_71 (ls' := [_, _, _, _, _, _, _, _]) (Nat.le_of_ble_eq_true rfl) rfl ?_
      exact g_wk2 (JP73 _ (by exfalso; omega)) ⟨rfl, rfl, rfl, rfl, rfl, rfl, rfl, trivial⟩

theorem ct_scaledOf {cx : Cx} {M : Mem} {S : Int → Int} (e5 : M 185 = S) {sn p : Int} (hV : SOK S) (hs0 : 0 ≤ sn) (hs1 : sn < S 7) (hp0 : 0 ≤ p) (hp1 : p < S 6) : Ct cx yX6_scaledOf cX6_scaledOf 3 (some .int) 7 0 0 [rf cx 184, .int (oi sn), .int (oi p)] M (fun rz M' => scS S sn p = rz ∧ M = M') := by
  refine ct_intro cd_X6_scaledOf (by decide +kernel) (Nat.le_of_ble_eq_true rfl) rfl (fun Pg Lc Ev s m args below meth c E hr => ?_)
  refine g_ent (ls' := [some (rf cx 184), some (.int (oi sn)), some (.int (oi p))]) rfl ?_
  have hV0 := hV.1
  have hVp := hV.2.2.1 p (by omega) (by omega)
  have hVa := hV.2.2.2.2.1 sn p (by omega) (by omega) (by omega) (by omega)
  have hVs := hV.2.2.2.1 sn (by omega) (by omega)
  have hf := fstS_R hV hs0 hs1 hp0 hp1
  refine g_aload_n (pc := 0) E dX6_scaledOf_0 (i := 0) rfl rfl ?_
  refine g_getr (i := 184) (j := 185) (t := 6) (f := 0) (pc := 1) E dX6_scaledOf_1 fl_X6_9 rfl (by decide) (by decide) rfl rfl ?_
  refine g_iload_n (pc := 4) E dX6_scaledOf_4 (i := 1) rfl rfl ?_
  refine g_iload_n (pc := 5) E dX6_scaledOf_5 (i := 2) rfl rfl ?_
  refine g_callS (pc := 6) (As := [_, _]) E dX6_scaledOf_6 ml_X6_81 ct_attemptAt rfl rfl (by decide) (by decide) rfl (Nat.le_of_ble_eq_true rfl) (by decide) (fun x6 M6 hM6 => ?_)
  obtain ⟨rfl, rfl⟩ := hM6
  refine g_iald (pc := 9) E dX6_scaledOf_9 rfl (by omega) (by omega) (congrFun e5 _) (fun _ _ => ?_)
  refine g_iconst (pc := 10) E dX6_scaledOf_10 rfl ?_
  refine g_icmp_ne (pc := 11) (tgt := 37) E dX6_scaledOf_11 (by decide) (fun qh11 => ?_) (fun qh11 => ?_) 
  · refine g_iconst (pc := 37) E dX6_scaledOf_37 rfl ?_
    refine g_iret (pc := 38) E hr dX6_scaledOf_38 ?_
    exact ⟨if_neg qh11, rfl⟩
  · refine g_aload_n (pc := 14) E dX6_scaledOf_14 (i := 0) rfl rfl ?_
    refine g_iload_n (pc := 15) E dX6_scaledOf_15 (i := 2) rfl rfl ?_
    refine g_aload_n (pc := 16) E dX6_scaledOf_16 (i := 0) rfl rfl ?_
    refine g_getr (i := 184) (j := 185) (t := 6) (f := 0) (pc := 17) E dX6_scaledOf_17 fl_X6_9 rfl (by decide) (by decide) rfl rfl ?_
    refine g_bipush (pc := 20) E dX6_scaledOf_20 rfl ?_
    refine g_iload_n (pc := 22) E dX6_scaledOf_22 (i := 1) rfl rfl ?_
    refine g_iadd (pc := 23) E dX6_scaledOf_23 ?_
    refine g_iald (pc := 24) E dX6_scaledOf_24 rfl (by omega) (by omega) (congrFun e5 _) (fun _ _ => ?_)
    refine g_aload_n (pc := 25) E dX6_scaledOf_25 (i := 0) rfl rfl ?_
    refine g_iload_n (pc := 26) E dX6_scaledOf_26 (i := 1) rfl rfl ?_
    refine g_iload_n (pc := 27) E dX6_scaledOf_27 (i := 2) rfl rfl ?_
    refine g_callV (pc := 28) (As := [_, _]) E dX6_scaledOf_28 ml_X6_100 (ct_first e5 hV (by omega) (by omega) (by omega) (by omega)) rfl rfl rfl rfl (by decide) (by decide) rfl (Nat.le_of_ble_eq_true rfl) (by decide) (fun x28 M28 hM28 => ?_)
    obtain ⟨rfl, rfl⟩ := hM28
    refine g_callV (pc := 31) (As := [_, _, _]) E dX6_scaledOf_31 ml_X6_113 (ct_by e5 hV (by omega) (by omega) (by omega) (by omega) (by omega) (by omega)) rfl rfl rfl rfl (by decide) (by decide) rfl (Nat.le_of_ble_eq_true rfl) (by decide) (fun x31 M31 hM31 => ?_)
    obtain ⟨rfl, rfl⟩ := hM31
    refine g_goto (pc := 34) (tgt := 38) E dX6_scaledOf_34 (by decide) ?_
    refine g_iret (pc := 38) E hr dX6_scaledOf_38 ?_
    exact ⟨if_pos (by omega), rfl⟩

theorem ct_again {cx : Cx} {M : Mem} {S : Int → Int} (e5 : M 185 = S) {sn p : Int} (hV : SOK S) (hs0 : 0 ≤ sn) (hs1 : sn < S 7) (hp0 : 0 ≤ p) (hp1 : p < S 6) : Ct cx yX6_again cX6_again 5 (some .int) 4 0 0 [rf cx 184, .int (oi sn), .int (oi p)] M (fun rz M' => agS S sn p = rz ∧ M = M') := by
  refine ct_intro cd_X6_again (by decide +kernel) (Nat.le_of_ble_eq_true rfl) rfl (fun Pg Lc Ev s m args below meth c E hr => ?_)
  refine g_ent (ls' := [some (rf cx 184), some (.int (oi sn)), some (.int (oi p)), none, none]) rfl ?_
  have hV0 := hV.1
  have hVp := hV.2.2.1 p (by omega) (by omega)
  have hVa := hV.2.2.2.2.1 sn p (by omega) (by omega) (by omega) (by omega)
  refine g_iload_n (pc := 0) E dX6_again_0 (i := 1) rfl rfl ?_
  refine g_iload_n (pc := 1) E dX6_again_1 (i := 2) rfl rfl ?_
  refine g_callS (pc := 2) (As := [_, _]) E dX6_again_2 ml_X6_81 ct_attemptAt rfl rfl (by decide) (by decide) rfl (Nat.le_of_ble_eq_true rfl) (by decide) (fun x2 M2 hM2 => ?_)
  obtain ⟨rfl, rfl⟩ := hM2
  refine g_istore_n (pc := 5) E dX6_again_5 (i := 3) (ls' := [_, _, _, _, _]) rfl (Nat.le_of_ble_eq_true rfl) rfl ?_
  refine g_aload_n (pc := 6) E dX6_again_6 (i := 0) rfl rfl ?_
  refine g_getr (i := 184) (j := 185) (t := 6) (f := 0) (pc := 7) E dX6_again_7 fl_X6_9 rfl (by decide) (by decide) rfl rfl ?_
  refine g_iload_n (pc := 10) E dX6_again_10 (i := 3) rfl rfl ?_
  refine g_iconst (pc := 11) E dX6_again_11 rfl ?_
  refine g_iadd (pc := 12) E dX6_again_12 ?_
  refine g_iald (pc := 13) E dX6_again_13 rfl (by omega) (by omega) (congrFun e5 _) (fun _ _ => ?_)
  refine g_if_ge (pc := 14) (tgt := 19) E dX6_again_14 (by decide) (fun qh14 => ?_) (fun qh14 => ?_) 
  · have hq := pcS_R (S := S) (p := p) (raw := S (57 + 3 * (8 * sn + p) + 2)) (by omega) (by omega) (by omega)
    refine g_aload_n (pc := 19) E dX6_again_19 (i := 0) rfl rfl ?_
    refine g_iload_n (pc := 20) E dX6_again_20 (i := 2) rfl rfl ?_
    refine g_aload_n (pc := 21) E dX6_again_21 (i := 0) rfl rfl ?_
    refine g_getr (i := 184) (j := 185) (t := 6) (f := 0) (pc := 22) E dX6_again_22 fl_X6_9 rfl (by decide) (by decide) rfl rfl ?_
    refine g_iload_n (pc := 25) E dX6_again_25 (i := 3) rfl rfl ?_
    refine g_iconst (pc := 26) E dX6_again_26 rfl ?_
    refine g_iadd (pc := 27) E dX6_again_27 ?_
    refine g_iald (pc := 28) E dX6_again_28 rfl (by omega) (by omega) (congrFun e5 _) (fun _ _ => ?_)
    refine g_callV (pc := 29) (As := [_, _]) E dX6_again_29 ml_X6_97 (ct_percent e5 (by omega) (by omega) (by omega) (by omega) (by omega) (by omega)) rfl rfl rfl rfl (by decide) (by decide) rfl (Nat.le_of_ble_eq_true rfl) (by decide) (fun x29 M29 hM29 => ?_)
    obtain ⟨rfl, rfl⟩ := hM29
    refine g_istore (pc := 32) E dX6_again_32 (ls' := [_, _, _, _, _]) (Nat.le_of_ble_eq_true rfl) rfl ?_
    refine g_aload_n (pc := 34) E dX6_again_34 (i := 0) rfl rfl ?_
    refine g_getr (i := 184) (j := 185) (t := 6) (f := 0) (pc := 35) E dX6_again_35 fl_X6_9 rfl (by decide) (by decide) rfl rfl ?_
    refine g_iload_n (pc := 38) E dX6_again_38 (i := 3) rfl rfl ?_
    refine g_iald (pc := 39) E dX6_again_39 rfl (by omega) (by omega) (congrFun e5 _) (fun _ _ => ?_)
    refine g_iconst (pc := 40) E dX6_again_40 rfl ?_
    refine g_icmp_ne (pc := 41) (tgt := 49) E dX6_again_41 (by decide) (fun qh41 => ?_) (fun qh41 => ?_) 
    · refine g_iload (pc := 49) E dX6_again_49 rfl ?_
      refine g_aload_n (pc := 51) E dX6_again_51 (i := 0) rfl rfl ?_
      refine g_getr (i := 184) (j := 185) (t := 6) (f := 0) (pc := 52) E dX6_again_52 fl_X6_9 rfl (by decide) (by decide) rfl rfl ?_
      refine g_iconst (pc := 55) E dX6_again_55 rfl ?_
      refine g_iald (pc := 56) E dX6_again_56 rfl (by omega) (by omega) (congrFun e5 _) (fun _ _ => ?_)
      refine g_min (pc := 57) E dX6_again_57 (big_at 1269 (by decide +kernel) (by decide +kernel)) rfl (by decide) (Nat.le_of_ble_eq_true rfl) (by decide) ?_ 
      refine g_iret (pc := 60) E hr dX6_again_60 ?_
      exact ⟨by rw [agS, if_neg (by omega), if_neg (by omega)], rfl⟩
    · refine g_iload (pc := 44) E dX6_again_44 rfl ?_
      refine g_goto (pc := 46) (tgt := 60) E dX6_again_46 (by decide) ?_
      refine g_iret (pc := 60) E hr dX6_again_60 ?_
      exact ⟨by rw [agS, if_neg (by omega), if_pos (by omega)], rfl⟩
  · refine g_iconst (pc := 17) E dX6_again_17 rfl ?_
    refine g_iret (pc := 18) E hr dX6_again_18 ?_
    exact ⟨by rw [agS, if_pos (by omega)], rfl⟩

theorem ct_markOf {cx : Cx} {M : Mem} {S : Int → Int} (e5 : M 185 = S) {sn p : Int} (hV : SOK S) (hs0 : 0 ≤ sn) (hs1 : sn < S 7) (hp0 : 0 ≤ p) (hp1 : p < S 6) : Ct cx yX6_markOf cX6_markOf 3 (some .int) 8 0 0 [rf cx 184, .int (oi sn), .int (oi p)] M (fun rz M' => mkS S sn p = rz ∧ M = M') := by
  refine ct_intro cd_X6_markOf (by decide +kernel) (Nat.le_of_ble_eq_true rfl) rfl (fun Pg Lc Ev s m args below meth c E hr => ?_)
  refine g_ent (ls' := [some (rf cx 184), some (.int (oi sn)), some (.int (oi p))]) rfl ?_
  have hV0 := hV.1
  have hVp := hV.2.2.1 p (by omega) (by omega)
  have hVa := hV.2.2.2.2.1 sn p (by omega) (by omega) (by omega) (by omega)
  have hc := scS_R S sn p
  have hg := agS_R hV hs0 hs1 hp0 hp1
  refine g_aload_n (pc := 0) E dX6_markOf_0 (i := 0) rfl rfl ?_
  refine g_getr (i := 184) (j := 185) (t := 6) (f := 0) (pc := 1) E dX6_markOf_1 fl_X6_9 rfl (by decide) (by decide) rfl rfl ?_
  refine g_iload_n (pc := 4) E dX6_markOf_4 (i := 1) rfl rfl ?_
  refine g_iload_n (pc := 5) E dX6_markOf_5 (i := 2) rfl rfl ?_
  refine g_callS (pc := 6) (As := [_, _]) E dX6_markOf_6 ml_X6_81 ct_attemptAt rfl rfl (by decide) (by decide) rfl (Nat.le_of_ble_eq_true rfl) (by decide) (fun x6 M6 hM6 => ?_)
  obtain ⟨rfl, rfl⟩ := hM6
  refine g_iald (pc := 9) E dX6_markOf_9 rfl (by omega) (by omega) (congrFun e5 _) (fun _ _ => ?_)
  refine g_if_ne (pc := 10) (tgt := 17) E dX6_markOf_10 (by decide) (fun qh10 => ?_) (fun qh10 => ?_) 
  · refine g_aload_n (pc := 17) E dX6_markOf_17 (i := 0) rfl rfl ?_
    refine g_iload_n (pc := 18) E dX6_markOf_18 (i := 1) rfl rfl ?_
    refine g_iload_n (pc := 19) E dX6_markOf_19 (i := 2) rfl rfl ?_
    refine g_callV (pc := 20) (As := [_, _]) E dX6_markOf_20 ml_X6_117 (ct_scaledOf e5 hV (by omega) (by omega) (by omega) (by omega)) rfl rfl rfl rfl (by decide) (by decide) rfl (Nat.le_of_ble_eq_true rfl) (by decide) (fun x20 M20 hM20 => ?_)
    obtain ⟨rfl, rfl⟩ := hM20
    refine g_aload_n (pc := 23) E dX6_markOf_23 (i := 0) rfl rfl ?_
    refine g_iload_n (pc := 24) E dX6_markOf_24 (i := 1) rfl rfl ?_
    refine g_iload_n (pc := 25) E dX6_markOf_25 (i := 2) rfl rfl ?_
    refine g_callV (pc := 26) (As := [_, _]) E dX6_markOf_26 ml_X6_120 (ct_again e5 hV (by omega) (by omega) (by omega) (by omega)) rfl rfl rfl rfl (by decide) (by decide) rfl (Nat.le_of_ble_eq_true rfl) (by decide) (fun x26 M26 hM26 => ?_)
    obtain ⟨rfl, rfl⟩ := hM26
    refine g_max (pc := 29) E dX6_markOf_29 (big_at 1270 (by decide +kernel) (by decide +kernel)) rfl (by decide) (Nat.le_of_ble_eq_true rfl) (by decide) ?_ 
    refine g_iret (pc := 32) E hr dX6_markOf_32 ?_
    exact ⟨by rw [mkS, if_neg (by omega)], rfl⟩
  · refine g_iconst (pc := 13) E dX6_markOf_13 rfl ?_
    refine g_goto (pc := 14) (tgt := 32) E dX6_markOf_14 (by decide) ?_
    refine g_iret (pc := 32) E hr dX6_markOf_32 ?_
    exact ⟨by rw [mkS, if_pos (by omega)], rfl⟩
