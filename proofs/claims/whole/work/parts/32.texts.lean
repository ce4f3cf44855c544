/-! texts of entries: how one is read; and the reference's reading -/
def hereS (X : Int → Int) (n a : Int) : Int := if a < n then X a else 0
abbrev dgS (X : Int → Int) (n a : Int) : Prop := 48 ≤ hereS X n a ∧ hereS X n a ≤ 57
/-- up to k digits behind the value v from a on: value and place -/
def nmV (X : Int → Int) (n : Int) : Nat → Int → Int → Int
  | 0, v, _ => v
  | k + 1, v, a => if dgS X n a then nmV X n k (10 * v + X a - 48) (a + 1) else v
def nmA (X : Int → Int) (n : Int) : Nat → Int → Int
  | 0, a => a
  | k + 1, a => if dgS X n a then nmA X n k (a + 1) else a
def nuV (X : Int → Int) (n a : Int) : Int := if dgS X n a then nmV X n 3 0 a else -1
def nuA (X : Int → Int) (n a : Int) : Int := nmA X n 3 a
/-- a text of n letters -/
def TX (X : Int → Int) (n : Int) : Prop := 0 ≤ n ∧ n ≤ 80 ∧ ∀ j, 0 ≤ j → j < n → 32 ≤ X j ∧ X j ≤ 126
theorem here_R {X : Int → Int} {n a : Int} (h : TX X n) (ha : 0 ≤ a) : 0 ≤ hereS X n a ∧ hereS X n a ≤ 126 := by
  unfold hereS
  split
  · have := h.2.2 a ha (by assumption); omega
  · omega
theorem here_lt {X : Int → Int} {n a : Int} (h : ¬ hereS X n a = 0) : a < n := by
  unfold hereS at h
  split at h
  · assumption
  · exact absurd rfl h
theorem here_in {X : Int → Int} {n a : Int} (h : a < n) : hereS X n a = X a := if_pos h
theorem dg_X {X : Int → Int} {n a : Int} (h : dgS X n a) : a < n ∧ 48 ≤ X a ∧ X a ≤ 57 := by
  have := here_lt (X := X) (n := n) (a := a) (by omega)
  unfold dgS at h
  rw [here_in this] at h
  omega
theorem nmA_R {X : Int → Int} {n : Int} : ∀ (k : Nat) (a : Int), a ≤ n → a ≤ nmA X n k a ∧ nmA X n k a ≤ n
  | 0, a, h => ⟨Int.le_refl _, h⟩
  | k + 1, a, h => by
    unfold nmA
    split
    · next q =>
      have := dg_X q
      have := nmA_R (X := X) (n := n) k (a + 1) (by omega)
      omega
    · omega
/-- a bound for k digits behind v -/
def nmB : Nat → Int → Int
  | 0, v => v
  | k + 1, v => nmB k (10 * v + 9)
theorem nmB_ge : ∀ (k : Nat) (v w : Int), 0 ≤ v → v ≤ w → w ≤ nmB k w ∧ nmB k v ≤ nmB k w
  | 0, v, w, _, h => ⟨Int.le_refl _, h⟩
  | k + 1, v, w, h0, h => by
    have h1 := nmB_ge k (10 * w + 9) (10 * w + 9) (by omega) (by omega)
    have h2 := nmB_ge k (10 * v + 9) (10 * w + 9) (by omega) (by omega)
    show w ≤ nmB k (10 * w + 9) ∧ nmB k (10 * v + 9) ≤ nmB k (10 * w + 9)
    omega
theorem nmV_R {X : Int → Int} {n : Int} : ∀ (k : Nat) (v a : Int), 0 ≤ v → 0 ≤ nmV X n k v a ∧ nmV X n k v a ≤ nmB k v
  | 0, v, a, h0 => ⟨h0, Int.le_refl _⟩
  | k + 1, v, a, h0 => by
    unfold nmV
    split
    · next q =>
      have := dg_X q
      have h1 := nmV_R (X := X) (n := n) k (10 * v + X a - 48) (a + 1) (by omega)
      have h2 := nmB_ge k (10 * v + X a - 48) (10 * v + 9) (by omega) (by omega)
      show _ ∧ _ ≤ nmB k (10 * v + 9)
      omega
    · have h2 := nmB_ge (k + 1) v v h0 (Int.le_refl _)
      omega
theorem nuV_R (X : Int → Int) (n a : Int) : -1 ≤ nuV X n a ∧ nuV X n a ≤ 999 := by
  unfold nuV
  have := nmV_R (X := X) (n := n) 3 0 a (by omega)
  have e : nmB 3 0 = 999 := rfl
  split <;> omega
theorem nuA_R {X : Int → Int} {n a : Int} (h : a ≤ n) : a ≤ nuA X n a ∧ nuA X n a ≤ n := nmA_R 3 a h
theorem nuA_no {X : Int → Int} {n a : Int} (h : ¬ dgS X n a) : nuA X n a = a := if_neg h
theorem nuA_s {X : Int → Int} {n a : Int} (h : dgS X n a) : a + 1 ≤ nuA X n a := by
  have := nmA_R (X := X) (n := n) 2 (a + 1) (by have := dg_X h; omega)
  show a + 1 ≤ nmA X n 3 a
  rw [nmA, if_pos h]
  omega
abbrev kdS (c : Int) : Prop := c = 109 ∨ c = 114 ∨ c = 101 ∨ c = 97 ∨ c = 120
abbrev mrS (c : Int) : Prop := c = 109 ∨ c = 114
def eSt (X : Int → Int) (n a : Int) : Int := nuV X n (a + 1)
def eA2 (X : Int → Int) (n a : Int) : Int := nuA X n (a + 1)
def ePa (X : Int → Int) (n a : Int) : Int := nuV X n (eA2 X n a + 1)
def eA4 (X : Int → Int) (n a : Int) : Int := nuA X n (eA2 X n a + 1)
def eRw (X : Int → Int) (n a : Int) : Int := if mrS (hereS X n a) then nuV X n (eA4 X n a + 1) else 0
/-- whether an entry stands at a, and where it ends, or where its fault is -/
abbrev eOK (X : Int → Int) (n a : Int) : Prop := kdS (hereS X n a) ∧ 0 ≤ eSt X n a ∧ hereS X n (eA2 X n a) = 46 ∧ 0 ≤ ePa X n a ∧ (mrS (hereS X n a) → hereS X n (eA4 X n a) = 61 ∧ 0 ≤ eRw X n a)
def eE (X : Int → Int) (n a : Int) : Int := if ¬ kdS (hereS X n a) then a else if ¬ (0 ≤ eSt X n a ∧ hereS X n (eA2 X n a) = 46) then eA2 X n a else if ¬ 0 ≤ ePa X n a then eA4 X n a else if mrS (hereS X n a) ∧ hereS X n (eA4 X n a) = 61 then nuA X n (eA4 X n a + 1) else eA4 X n a
theorem eE_R {X : Int → Int} {n a : Int} (ha : 0 ≤ a) (hn : a ≤ n) : a ≤ eE X n a ∧ eE X n a ≤ n := by
  unfold eE
  split
  · omega
  · next h1 =>
    have l1 : a < n := here_lt (X := X) (a := a) (fun z => h1 (fun q => by unfold kdS at q; omega))
    have l2 := nuA_R (X := X) (n := n) (a := a + 1) (by omega)
    have e2 : eA2 X n a = nuA X n (a + 1) := rfl
    split
    · omega
    · next h2 =>
      have l3 : eA2 X n a < n := here_lt (X := X) (by omega)
      have l4 := nuA_R (X := X) (n := n) (a := eA2 X n a + 1) (by omega)
      have e4 : eA4 X n a = nuA X n (eA2 X n a + 1) := rfl
      split
      · omega
      · split
        · next h3 =>
          have l5 : eA4 X n a < n := here_lt (X := X) (by omega)
          have l6 := nuA_R (X := X) (n := n) (a := eA4 X n a + 1) (by omega)
          omega
        · omega
theorem nuV_s {X : Int → Int} {n a : Int} (h : 0 ≤ nuV X n a) : dgS X n a := by
  unfold nuV at h
  split at h
  · assumption
  · omega
/-- an entry has four letters or more -/
theorem eE_4 {X : Int → Int} {n a : Int} (h : eOK X n a) : a + 4 ≤ eE X n a := by
  obtain ⟨h1, h2, h3, h4, h5⟩ := h
  have s1 := nuA_s (nuV_s h2)
  have s2 := nuA_s (nuV_s h4)
  have e2 : eA2 X n a = nuA X n (a + 1) := rfl
  have e4 : eA4 X n a = nuA X n (eA2 X n a + 1) := rfl
  unfold eE
  rw [if_neg (fun q => q h1), if_neg (fun q => q ⟨h2, h3⟩), if_neg (fun q => q h4)]
  split
  · next q =>
    have l5 : eA4 X n a < n := here_lt (X := X) (by omega)
    have l6 := nuA_R (X := X) (n := n) (a := eA4 X n a + 1) (by omega)
    omega
  · omega
theorem eRw_R (X : Int → Int) (n a : Int) : -1 ≤ eRw X n a ∧ eRw X n a ≤ 999 := by
  unfold eRw
  have := nuV_R X n (eA4 X n a + 1)
  split <;> omega
theorem eRw_0 {X : Int → Int} {n a : Int} (h : eOK X n a) : 0 ≤ eRw X n a := by
  by_cases q : mrS (hereS X n a)
  · exact (h.2.2.2.2 q).2
  · unfold eRw; rw [if_neg q]; omega

theorem nmV_y {X : Int → Int} {n v a : Int} {k : Nat} (h : dgS X n a) : nmV X n (k + 1) v a = nmV X n k (10 * v + X a - 48) (a + 1) := if_pos h
theorem nmV_n {X : Int → Int} {n v a : Int} {k : Nat} (h : ¬ dgS X n a) : nmV X n (k + 1) v a = v := if_neg h
theorem nmA_y {X : Int → Int} {n a : Int} {k : Nat} (h : dgS X n a) : nmA X n (k + 1) a = nmA X n k (a + 1) := if_pos h
theorem nmA_n {X : Int → Int} {n a : Int} {k : Nat} (h : ¬ dgS X n a) : nmA X n (k + 1) a = a := if_neg h
theorem eRw_n {X : Int → Int} {n a : Int} (h : ¬ mrS (hereS X n a)) : eRw X n a = 0 := if_neg h
theorem eRw_y {X : Int → Int} {n a : Int} (h : mrS (hereS X n a)) : eRw X n a = nuV X n (eA4 X n a + 1) := if_pos h
theorem eE_1 {X : Int → Int} {n a : Int} (h : ¬ kdS (hereS X n a)) : eE X n a = a := if_pos h
theorem eE_2 {X : Int → Int} {n a : Int} (h : kdS (hereS X n a)) (h2 : ¬ (0 ≤ eSt X n a ∧ hereS X n (eA2 X n a) = 46)) : eE X n a = eA2 X n a := by rw [eE, if_neg (fun q => q h), if_pos h2]
theorem eE_3 {X : Int → Int} {n a : Int} (h : kdS (hereS X n a)) (h2 : 0 ≤ eSt X n a ∧ hereS X n (eA2 X n a) = 46) (h3 : ¬ 0 ≤ ePa X n a) : eE X n a = eA4 X n a := by rw [eE, if_neg (fun q => q h), if_neg (fun q => q h2), if_pos h3]
theorem eE_5 {X : Int → Int} {n a : Int} (h : kdS (hereS X n a)) (h2 : 0 ≤ eSt X n a ∧ hereS X n (eA2 X n a) = 46) (h3 : 0 ≤ ePa X n a) (h4 : mrS (hereS X n a) ∧ hereS X n (eA4 X n a) = 61) : eE X n a = nuA X n (eA4 X n a + 1) := by rw [eE, if_neg (fun q => q h), if_neg (fun q => q h2), if_neg (fun q => q h3), if_pos h4]
theorem eE_4n {X : Int → Int} {n a : Int} (h : kdS (hereS X n a)) (h2 : 0 ≤ eSt X n a ∧ hereS X n (eA2 X n a) = 46) (h3 : 0 ≤ ePa X n a) (h4 : ¬ (mrS (hereS X n a) ∧ hereS X n (eA4 X n a) = 61)) : eE X n a = eA4 X n a := by rw [eE, if_neg (fun q => q h), if_neg (fun q => q h2), if_neg (fun q => q h3), if_neg h4]
/-- the reference's place in its text moves, nothing else -/
def A8 (M N : Mem) (e : Int) : Prop := N 184 8 = e ∧ (∀ i, i ≠ 184 → N i = M i) ∧ ∀ f : Int, f ≠ 8 → N 184 f = M 184 f
theorem A8.rf {M : Mem} {a : Int} (e8 : M 184 8 = a) : A8 M M a := ⟨e8, fun _ _ => rfl, fun _ _ => rfl⟩
theorem A8.st {M N : Mem} {a : Int} (h : A8 M N a) (b : Int) : A8 M (st N 184 8 b) b := ⟨st_self _ _ _ _, fun i hi => by rw [st_ne hi]; exact h.2.1 i hi, fun f hf => by rw [st_off hf]; exact h.2.2 f hf⟩
theorem A8.tr {M N O : Mem} {a b : Int} (h : A8 M N a) (g : A8 N O b) : A8 M O b := ⟨g.1, fun i hi => (g.2.1 i hi).trans (h.2.1 i hi), fun f hf => (g.2.2 f hf).trans (h.2.2 f hf)⟩
theorem A8.e9 {M N : Mem} {X : Int → Int} {a : Int} (h : A8 M N a) (e : M 189 = X) : N 189 = X := (h.2.1 189 (by decide)).trans e
theorem A8.e5 {M N : Mem} {X : Int → Int} {a : Int} (h : A8 M N a) (e : M 185 = X) : N 185 = X := (h.2.1 185 (by decide)).trans e
theorem A8.e7 {M N : Mem} {n a : Int} (h : A8 M N a) (e : M 184 7 = n) : N 184 7 = n := (h.2.2 7 (by decide)).trans e
/-- where entry j begins, when all before it are well formed -/
def ep (X : Int → Int) (n : Int) : Nat → Int
  | 0 => 0
  | k + 1 => eE X n (ep X n k) + 1
/-- the board when the first j entries were done -/
def apN (S X : Int → Int) (n : Int) : Nat → Int → Int
  | 0 => S
  | k + 1 => enS (apN S X n k) (hereS X n (ep X n k)) (eSt X n (ep X n k)) (ePa X n (ep X n k)) (eRw X n (ep X n k))
def rsN (S X : Int → Int) (n : Int) (j : Nat) : Int := reS (apN S X n j) (hereS X n (ep X n j)) (eSt X n (ep X n j)) (ePa X n (ep X n j)) (eRw X n (ep X n j))
def abE (S X : Int → Int) (n : Int) (j : Nat) : Int := abS (apN S X n j) (eSt X n (ep X n j)) (ePa X n (ep X n j)) (rsN S X n j)
def CH (X : Int → Int) (n : Int) (c : Nat) : Prop := ∀ j : Nat, j < c → eOK X n (ep X n j) ∧ eE X n (ep X n j) < n ∧ hereS X n (eE X n (ep X n j)) = 59
theorem CH.s {X : Int → Int} {n : Int} {c : Nat} (h : CH X n c) (h1 : eOK X n (ep X n c)) (h2 : eE X n (ep X n c) < n) (h3 : hereS X n (eE X n (ep X n c)) = 59) : CH X n (c + 1) := fun j hj => by
  by_cases q : j = c
  · rw [q]; exact ⟨h1, h2, h3⟩
  · exact h j (by omega)
theorem ep_R {X : Int → Int} {n : Int} (hn : 0 ≤ n) : ∀ c : Nat, CH X n c → 0 ≤ ep X n c ∧ ep X n c ≤ n ∧ 5 * c ≤ ep X n c
  | 0, _ => ⟨Int.le_refl _, hn, Int.le_refl _⟩
  | c + 1, h => by
    have h1 := ep_R hn c (fun j hj => h j (by omega))
    have h2 := h c (by omega)
    have h3 := eE_R (X := X) h1.1 h1.2.1
    have h4 := eE_4 h2.1
    show 0 ≤ eE X n (ep X n c) + 1 ∧ eE X n (ep X n c) + 1 ≤ n ∧ 5 * ((c + 1 : Nat) : Int) ≤ eE X n (ep X n c) + 1
    omega
theorem ek_ok {X : Int → Int} {n a : Int} (h : eOK X n a) : hereS X n a = 109 ∨ hereS X n a = 114 ∨ hereS X n a = 101 ∧ eRw X n a = 0 ∨ hereS X n a = 97 ∧ eRw X n a = 0 ∨ hereS X n a = 120 := by
  have h1 := h.1
  by_cases q : mrS (hereS X n a)
  · unfold mrS at q; omega
  · have := eRw_n q
    unfold kdS at h1
    unfold mrS at q
    omega
theorem apN_SI {S X : Int → Int} {n : Int} (hI : SI S) : ∀ c : Nat, (∀ j : Nat, j < c → eOK X n (ep X n j) ∧ rsN S X n j = 0) → SI (apN S X n c)
  | 0, _ => hI
  | c + 1, h => by
    have h1 := apN_SI hI c (fun j hj => h j (by omega))
    obtain ⟨h2, h3⟩ := h c (by omega)
    exact SI_en h1 (ek_ok h2) (eRw_0 h2) h3

theorem ct_here {cx : Cx} {M : Mem} {X : Int → Int} (e9 : M 189 = X) {tn a : Int} (e7 : M 184 7 = tn) (e8 : M 184 8 = a) (hT : TX X tn) (ha0 : 0 ≤ a) (ha1 : a ≤ tn) : Ct cx yX6_here cX6_here 1 (some .int) 1 0 0 [rf cx 184] M (fun rz M' => hereS X tn a = rz ∧ M = M') := by
  refine ct_intro cd_X6_here (by decide +kernel) (Nat.le_of_ble_eq_true rfl) rfl (fun Pg Lc Ev s m args below meth c E hr => ?_)
  refine g_ent (ls' := [some (rf cx 184)]) rfl ?_
  have hT0 := hT.1
  have hT1 := hT.2.1
  refine g_aload_n (pc := 0) E dX6_here_0 (i := 0) rfl rfl ?_
  refine g_geti (i := 184) (t := 6) (f := 8) (fz := 8) (pc := 1) E dX6_here_1 fl_X6_209 rfl (by decide) (by decide) rfl rfl e8 (fun _ _ => ?_)
  refine g_aload_n (pc := 4) E dX6_here_4 (i := 0) rfl rfl ?_
  refine g_geti (i := 184) (t := 6) (f := 7) (fz := 7) (pc := 5) E dX6_here_5 fl_X6_206 rfl (by decide) (by decide) rfl rfl e7 (fun _ _ => ?_)
  refine g_icmp_ge (pc := 8) (tgt := 23) E dX6_here_8 (by decide) (fun qh8 => ?_) (fun qh8 => ?_) 
  · refine g_iconst (pc := 23) E dX6_here_23 rfl ?_
    refine g_iret (pc := 24) E hr dX6_here_24 ?_
    exact ⟨if_neg (by omega), rfl⟩
  · refine g_aload_n (pc := 11) E dX6_here_11 (i := 0) rfl rfl ?_
    refine g_getr (i := 184) (j := 189) (t := 6) (f := 6) (pc := 12) E dX6_here_12 fl_X6_22 rfl (by decide) (by decide) rfl rfl ?_
    refine g_aload_n (pc := 15) E dX6_here_15 (i := 0) rfl rfl ?_
    refine g_geti (i := 184) (t := 6) (f := 8) (fz := 8) (pc := 16) E dX6_here_16 fl_X6_209 rfl (by decide) (by decide) rfl rfl e8 (fun _ _ => ?_)
    refine g_iald (pc := 19) E dX6_here_19 rfl (by omega) (by omega) (congrFun e9 _) (fun _ _ => ?_)
    refine g_goto (pc := 20) (tgt := 24) E dX6_here_20 (by decide) ?_
    refine g_iret (pc := 24) E hr dX6_here_24 ?_
    exact ⟨if_pos (by omega), rfl⟩

theorem ct_takes {cx : Cx} {M : Mem} {X : Int → Int} (e9 : M 189 = X) {tn a : Int} (e7 : M 184 7 = tn) (e8 : M 184 8 = a) (hT : TX X tn) (ha0 : 0 ≤ a) (ha1 : a ≤ tn) {v : Int} (hv : 1 ≤ v ∧ v ≤ 126) : Ct cx yX6_takes cX6_takes 2 (some .boolean) 2 0 0 [rf cx 184, .int (oi v)] M (fun rz M' => bi (hereS X tn a = v) = rz ∧ (if hereS X tn a = v then st M 184 8 (a + 1) else M) = M') := by
  refine ct_intro cd_X6_takes (by decide +kernel) (Nat.le_of_ble_eq_true rfl) rfl (fun Pg Lc Ev s m args below meth c E hr => ?_)
  refine g_ent (ls' := [some (rf cx 184), some (.int (oi v))]) rfl ?_
  have hT0 := hT.1
  have hT1 := hT.2.1
  have hh := here_R hT ha0
  refine g_aload_n (pc := 0) E dX6_takes_0 (i := 0) rfl rfl ?_
  refine g_callV (pc := 1) (As := []) E dX6_takes_1 ml_X6_212 (ct_here e9 e7 e8 hT (by omega) (by omega)) rfl rfl rfl rfl (by decide) (by decide) rfl (Nat.le_of_ble_eq_true rfl) (by decide) (fun x1 M1 hM1 => ?_)
  obtain ⟨rfl, rfl⟩ := hM1
  refine g_iload_n (pc := 4) E dX6_takes_4 (i := 1) rfl rfl ?_
  refine g_icmp_eq (pc := 5) (tgt := 10) E dX6_takes_5 (by decide) (fun qh5 => ?_) (fun qh5 => ?_) 
  · have hlt := here_lt (X := X) (n := tn) (a := a) (by omega)
    refine g_aload_n (pc := 10) E dX6_takes_10 (i := 0) rfl rfl ?_
    refine g_dup (pc := 11) E dX6_takes_11 rfl ?_
    refine g_geti (i := 184) (t := 6) (f := 8) (fz := 8) (pc := 12) E dX6_takes_12 fl_X6_209 rfl (by decide) (by decide) rfl rfl e8 (fun _ _ => ?_)
    refine g_iconst (pc := 15) E dX6_takes_15 rfl ?_
    refine g_iadd (pc := 16) E dX6_takes_16 ?_
    refine g_puti (i := 184) (t := 6) (f := 8) (fz := 8) (pc := 17) E dX6_takes_17 fl_X6_209 rfl (by decide) (by decide) rfl rfl ?_ 
    refine g_iconst (pc := 20) E dX6_takes_20 rfl ?_
    refine g_zret (pc := 21) E hr dX6_takes_21 (by first | exact Or.inl rfl | exact Or.inr rfl | exact bi_in _ | omega) ?_
    exact ⟨bi_t (by omega), if_pos (by omega)⟩
  · refine g_iconst (pc := 8) E dX6_takes_8 rfl ?_
    refine g_zret (pc := 9) E hr dX6_takes_9 (by first | exact Or.inl rfl | exact Or.inr rfl | exact bi_in _ | omega) ?_
    exact ⟨bi_f (by omega), if_neg (by omega)⟩

theorem ct_number {cx : Cx} {M : Mem} {X : Int → Int} (e9 : M 189 = X) {tn a : Int} (e7 : M 184 7 = tn) (e8 : M 184 8 = a) (hT : TX X tn) (ha0 : 0 ≤ a) (ha1 : a ≤ tn) : Ct cx yX6_number cX6_number 3 (some .int) 2 0 0 [rf cx 184] M (fun rz M' => nuV X tn a = rz ∧ A8 M M' (nuA X tn a)) := by
  refine ct_intro cd_X6_number (by decide +kernel) (Nat.le_of_ble_eq_true rfl) rfl (fun Pg Lc Ev s m args below meth c E hr => ?_)
  refine g_ent (ls' := [some (rf cx 184), none, none]) rfl ?_
  have hT0 := hT.1
  have hT1 := hT.2.1
  have hh := here_R hT ha0
  have e9M := e9
  have e7M := e7
  have e8M := e8
  
  refine g_aload_n (pc := 0) E dX6_number_0 (i := 0) rfl rfl ?_
  refine g_callV (pc := 1) (As := []) E dX6_number_1 ml_X6_212 (ct_here e9 e7 e8 hT (by omega) (by omega)) rfl rfl rfl rfl (by decide) (by decide) rfl (Nat.le_of_ble_eq_true rfl) (by decide) (fun x1 M1 hM1 => ?_)
  obtain ⟨rfl, rfl⟩ := hM1
  refine g_bipush (pc := 4) E dX6_number_4 rfl ?_
  refine g_bipush (pc := 6) E dX6_number_6 rfl ?_
  refine g_callS (pc := 8) (As := [_, _, _]) E dX6_number_8 ml_X6_66 (ct_in (by omega) (by omega) (by omega)) rfl rfl (by decide) (by decide) rfl (Nat.le_of_ble_eq_true rfl) (by decide) (fun x8 M8 hM8 => ?_)
  obtain ⟨rfl, rfl⟩ := hM8
  refine g_if_ne (pc := 11) (tgt := 16) E dX6_number_11 (by decide) (fun qh11 => ?_) (fun qh11 => ?_) (Int.le_trans (by decide) (bi_R _).1) (Int.le_trans (bi_R _).2 (by decide))
  · replace qh11 := bi_n.mp qh11
    refine g_iconst (pc := 16) E dX6_number_16 rfl ?_
    refine g_istore_n (pc := 17) E dX6_number_17 (i := 1) (ls' := [_, _, _]) rfl (Nat.le_of_ble_eq_true rfl) rfl ?_
    refine g_iconst (pc := 18) E dX6_number_18 rfl ?_
    refine g_istore_n (pc := 19) E dX6_number_19 (i := 2) (ls' := [_, _, _]) rfl (Nat.le_of_ble_eq_true rfl) rfl ?_
    have LP20 : ∀ (n : Nat) (N : Mem) (x v b : Int), 3 - x < (n : Int) → 0 ≤ x → x ≤ 3 → a ≤ b → b ≤ tn → A8 M N b → nmV X tn (3 - x).toNat v b = nmV X tn 3 0 a → nmA X tn (3 - x).toNat b = nmA X tn 3 a → G cx Pg Lc Ev (rmD 2 0 0) s m args below meth c (MQ below (QI cx (fun rz M' => nuV X tn a = rz ∧ A8 M M' (nuA X tn a))) args s 0 0 (cA0 cx)) 20 [some (rf cx 184), some (.int (oi v)), some (.int (oi x))] [] (N) 0 0 := by
      intro n
      induction n with
      | zero => intro N x v b hn hx0 hx1 hb0 hb1 hA hnv hna; exact absurd hn (by omega)
      | succ n ih20 =>
        intro N x v b hn hx0 hx1 hb0 hb1 hA hnv hna
        have e9 := hA.e9 e9M
        have e7 := hA.e7 e7M
        have e8 := hA.1
        have hhb := here_R hT (show 0 ≤ b by omega)
        refine g_iload_n (pc := 20) E dX6_number_20 (i := 2) rfl rfl ?_
        refine g_iconst (pc := 21) E dX6_number_21 rfl ?_
        refine g_icmp_ge (pc := 22) (tgt := 70) E dX6_number_22 (by decide) (fun qh22 => ?_) (fun qh22 => ?_) 
        · refine g_iload_n (pc := 70) E dX6_number_70 (i := 1) rfl rfl ?_
          refine g_iret (pc := 71) E hr dX6_number_71 ?_
          rw [show (3 - x).toNat = 0 by omega] at hnv hna
          have hb : b = nuA X tn a := hna
          exact ⟨by rw [nuV, if_pos qh11, ← hnv]; rfl, hb ▸ hA⟩
        · refine g_aload_n (pc := 25) E dX6_number_25 (i := 0) rfl rfl ?_
          refine g_callV (pc := 26) (As := []) E dX6_number_26 ml_X6_212 (ct_here e9 e7 e8 hT (by omega) (by omega)) rfl rfl rfl rfl (by decide) (by decide) rfl (Nat.le_of_ble_eq_true rfl) (by decide) (fun x26 M26 hM26 => ?_)
          obtain ⟨rfl, rfl⟩ := hM26
          refine g_bipush (pc := 29) E dX6_number_29 rfl ?_
          refine g_bipush (pc := 31) E dX6_number_31 rfl ?_
          refine g_callS (pc := 33) (As := [_, _, _]) E dX6_number_33 ml_X6_66 (ct_in (by omega) (by omega) (by omega)) rfl rfl (by decide) (by decide) rfl (Nat.le_of_ble_eq_true rfl) (by decide) (fun x33 M33 hM33 => ?_)
          obtain ⟨rfl, rfl⟩ := hM33
          refine g_if_eq (pc := 36) (tgt := 70) E dX6_number_36 (by decide) (fun qh36 => ?_) (fun qh36 => ?_) (Int.le_trans (by decide) (bi_R _).1) (Int.le_trans (bi_R _).2 (by decide))
          · replace qh36 := bi_0.mp qh36
            refine g_iload_n (pc := 70) E dX6_number_70 (i := 1) rfl rfl ?_
            refine g_iret (pc := 71) E hr dX6_number_71 ?_
            rw [show (3 - x).toNat = (2 - x).toNat + 1 by omega, nmV_n qh36] at hnv
            rw [show (3 - x).toNat = (2 - x).toNat + 1 by omega, nmA_n qh36] at hna
            have hb : b = nuA X tn a := hna
            exact ⟨by rw [nuV, if_pos qh11, ← hnv], hb ▸ hA⟩
          · replace qh36 := bi_n.mp qh36
            have hdg := dg_X qh36
            refine g_bipush (pc := 39) E dX6_number_39 rfl ?_
            refine g_iload_n (pc := 41) E dX6_number_41 (i := 1) rfl rfl ?_
            refine g_imul (pc := 42) E dX6_number_42 ?_
            refine g_aload_n (pc := 43) E dX6_number_43 (i := 0) rfl rfl ?_
            refine g_getr (i := 184) (j := 189) (t := 6) (f := 6) (pc := 44) E dX6_number_44 fl_X6_22 rfl (by decide) (by decide) rfl rfl ?_
            refine g_aload_n (pc := 47) E dX6_number_47 (i := 0) rfl rfl ?_
            refine g_dup (pc := 48) E dX6_number_48 rfl ?_
            refine g_geti (i := 184) (t := 6) (f := 8) (fz := 8) (pc := 49) E dX6_number_49 fl_X6_209 rfl (by decide) (by decide) rfl rfl e8 (fun _ _ => ?_)
            refine g_dup_x1 (pc := 52) E dX6_number_52 rfl rfl ?_
            refine g_iconst (pc := 53) E dX6_number_53 rfl ?_
            refine g_iadd (pc := 54) E dX6_number_54 ?_
            refine g_puti (i := 184) (t := 6) (f := 8) (fz := 8) (pc := 55) E dX6_number_55 fl_X6_209 rfl (by decide) (by decide) rfl rfl ?_ 
            refine g_iald (pc := 58) E dX6_number_58 rfl (by omega) (by omega) (v := X b) (by rw [st_ne (by decide)]; exact congrFun e9 _) (fun _ _ => ?_)
            refine g_iadd (pc := 59) E dX6_number_59 ?_
            refine g_bipush (pc := 60) E dX6_number_60 rfl ?_
            refine g_isub (pc := 62) E dX6_number_62 ?_
            refine g_istore_n (pc := 63) E dX6_number_63 (i := 1) (ls' := [_, _, _]) rfl (Nat.le_of_ble_eq_true rfl) rfl ?_
            refine g_iinc (pc := 64) E dX6_number_64 (ls' := [_, _, _]) rfl rfl rfl ?_
            refine g_goto (pc := 67) (tgt := 20) E dX6_number_67 (by decide) ?_
            exact g_wk2 (ih20 (st N 184 8 (b + 1)) (x + 1) (10 * v + X b - 48) (b + 1) (by omega) (by omega) (by omega) (by omega) (by omega) (hA.st _) (by rw [← hnv, show (3 - x).toNat = (3 - (x + 1)).toNat + 1 by omega, nmV_y qh36]) (by rw [← hna, show (3 - x).toNat = (3 - (x + 1)).toNat + 1 by omega, nmA_y qh36])) ⟨rfl, rfl, rfl, trivial⟩
    exact g_wk2 (LP20 4 M 0 0 a (by omega) (by omega) (by omega) (by omega) (by omega) (A8.rf e8) rfl rfl) ⟨rfl, rfl, rfl, trivial⟩
  · replace qh11 := bi_0.mp qh11
    refine g_iconst (pc := 14) E dX6_number_14 rfl ?_
    refine g_iret (pc := 15) E hr dX6_number_15 ?_
    exact ⟨if_neg qh11, by rw [nuA_no qh11]; exact A8.rf e8⟩

theorem ct_entry {cx : Cx} {M : Mem} {S : Int → Int} (e5 : M 185 = S) {X : Int → Int} (e9 : M 189 = X) {tn a : Int} (e7 : M 184 7 = tn) (e8 : M 184 8 = a) (hT : TX X tn) (ha0 : 0 ≤ a) (ha1 : a ≤ tn) {dz : Int} (hdz : dz = 0 ∨ dz = 1) (hI : dz = 1 → SI S) : Ct cx yX6_entry cX6_entry 6 (some .int) 9 0 0 [rf cx 184, .int (oi dz)] M (fun rz M' => ∃ N : Mem, A8 M N (eE X tn a) ∧ (¬ eOK X tn a → rz = -1 ∧ N = M') ∧ (eOK X tn a → (dz = 0 → rz = 0 ∧ N = M') ∧ (dz = 1 → ENT S (hereS X tn a) (eSt X tn a) (ePa X tn a) (eRw X tn a) N M' rz))) := by
  refine ct_intro cd_X6_entry (by decide +kernel) (Nat.le_of_ble_eq_true rfl) rfl (fun Pg Lc Ev s m args below meth c E hr => ?_)
  refine g_ent (ls' := [some (rf cx 184), some (.int (oi dz)), none, none, none, none]) rfl ?_
  have hT0 := hT.1
  have hT1 := hT.2.1
  have hh := here_R hT ha0
  have es : eSt X tn a = nuV X tn (a + 1) := rfl
  have ep1 : ePa X tn a = nuV X tn (eA2 X tn a + 1) := rfl
  have e2 : eA2 X tn a = nuA X tn (a + 1) := rfl
  have e4 : eA4 X tn a = nuA X tn (eA2 X tn a + 1) := rfl
  have vs := nuV_R X tn (a + 1)
  have vp := nuV_R X tn (eA2 X tn a + 1)
  have vr := nuV_R X tn (eA4 X tn a + 1)
  have JP119 : ∀ (N : Mem) (w : Int), eOK X tn a → A8 M N (eE X tn a) → w = eRw X tn a → G cx Pg Lc Ev (rmD 9 0 0) s m args below meth c (MQ below (QI cx (fun rz M' => ∃ N : Mem, A8 M N (eE X tn a) ∧ (¬ eOK X tn a → rz = -1 ∧ N = M') ∧ (eOK X tn a → (dz = 0 → rz = 0 ∧ N = M') ∧ (dz = 1 → ENT S (hereS X tn a) (eSt X tn a) (ePa X tn a) (eRw X tn a) N M' rz)))) args s 0 0 (cA0 cx)) 119 [some (rf cx 184), some (.int (oi dz)), some (.int (oi (hereS X tn a))), some (.int (oi (nuV X tn (a + 1)))), some (.int (oi (nuV X tn (eA2 X tn a + 1)))), some (.int (oi w))] [] (N) 0 0 := by
    intro N w hok hA hw
    subst hw
    have hkd := hok.1
    have hr0 := eRw_0 hok
    have hrR := eRw_R X tn a
    have hek := ek_ok hok
    have e5 := hA.e5 e5
    refine g_iload_n (pc := 119) E dX6_entry_119 (i := 1) rfl rfl ?_
    refine g_if_ne (pc := 120) (tgt := 125) E dX6_entry_120 (by decide) (fun qh120 => ?_) (fun qh120 => ?_) 
    · have hd1 : dz = 1 := by omega
      have hI := hI hd1
      have hV := hI.1.1
      have h8 := SO_h8 hI.1 (s := nuV X tn (a + 1)) (p := nuV X tn (eA2 X tn a + 1))
      have hex := SO_ex hI.1 (s := nuV X tn (a + 1)) (p := nuV X tn (eA2 X tn a + 1))
      refine g_iload_n (pc := 125) E dX6_entry_125 (i := 2) rfl rfl ?_
      by_cases qs126_0 : hereS X tn a = 109
      · refine g_lookup (pc := 126) (tgt := 160) (off := 34) E dX6_entry_126 (by decide +kernel) (by rw [qs126_0]; decide +kernel) (by decide) ?_
        refine g_aload_n (pc := 160) E dX6_entry_160 (i := 0) rfl rfl ?_
        refine g_iload_n (pc := 161) E dX6_entry_161 (i := 3) rfl rfl ?_
        refine g_iload (pc := 162) E dX6_entry_162 rfl ?_
        refine g_iconst (pc := 164) E dX6_entry_164 rfl ?_
        refine g_iload (pc := 165) E dX6_entry_165 rfl ?_
        refine g_callV (pc := 167) (As := [_, _, _, _]) E dX6_entry_167 ml_X6_177 (ct_enters e5 (k := 109) (by omega) (by omega) (by omega) hV (Or.inl ⟨rfl, rfl⟩) (by omega) h8) rfl rfl rfl rfl (by decide) (by decide) rfl (Nat.le_of_ble_eq_true rfl) (by decide) (fun x167 M167 hM167 => ?_)
        refine g_iret (pc := 170) E hr dX6_entry_170 ?_
        exact ⟨N, hA, fun hk => absurd hok hk, fun _ => ⟨fun hk => absurd hk (by omega), fun _ => by rw [qs126_0]; exact hM167⟩⟩
      by_cases qs126_1 : hereS X tn a = 114
      · refine g_lookup (pc := 126) (tgt := 171) (off := 45) E dX6_entry_126 (by decide +kernel) (by rw [qs126_1]; decide +kernel) (by decide) ?_
        refine g_aload_n (pc := 171) E dX6_entry_171 (i := 0) rfl rfl ?_
        refine g_iload_n (pc := 172) E dX6_entry_172 (i := 3) rfl rfl ?_
        refine g_iload (pc := 173) E dX6_entry_173 rfl ?_
        refine g_iload (pc := 175) E dX6_entry_175 rfl ?_
        refine g_callV (pc := 177) (As := [_, _, _]) E dX6_entry_177 ml_X6_184 (ct_sits e5 (by omega) (by omega) (by omega) hV (by omega)) rfl rfl rfl rfl (by decide) (by decide) rfl (Nat.le_of_ble_eq_true rfl) (by decide) (fun x177 M177 hM177 => ?_)
        refine g_iret (pc := 180) E hr dX6_entry_180 ?_
        exact ⟨N, hA, fun hk => absurd hok hk, fun _ => ⟨fun hk => absurd hk (by omega), fun _ => by rw [qs126_1]; exact hM177⟩⟩
      by_cases qs126_2 : hereS X tn a = 120
      · refine g_lookup (pc := 126) (tgt := 181) (off := 55) E dX6_entry_126 (by decide +kernel) (by rw [qs126_2]; decide +kernel) (by decide) ?_
        refine g_aload_n (pc := 181) E dX6_entry_181 (i := 0) rfl rfl ?_
        refine g_iload_n (pc := 182) E dX6_entry_182 (i := 3) rfl rfl ?_
        refine g_iload (pc := 183) E dX6_entry_183 rfl ?_
        refine g_callV (pc := 185) (As := [_, _]) E dX6_entry_185 ml_X6_187 (ct_removes e5 (by omega) (by omega) hV hex) rfl rfl rfl rfl (by decide) (by decide) rfl (Nat.le_of_ble_eq_true rfl) (by decide) (fun x185 M185 hM185 => ?_)
        refine g_iret (pc := 188) E hr dX6_entry_188 ?_
        exact ⟨N, hA, fun hk => absurd hok hk, fun _ => ⟨fun hk => absurd hk (by omega), fun _ => by rw [eRw_n (by unfold mrS; omega), qs126_2]; exact hM185⟩⟩
      refine g_lookup (pc := 126) (tgt := 189) (off := 63) E dX6_entry_126 (by decide +kernel) (by simp [Op.lookupswitch.offset_cons, Op.lookupswitch.offset_nil, qs126_0, qs126_1, qs126_2, (mt Eq.symm qs126_0), (mt Eq.symm qs126_1), (mt Eq.symm qs126_2)]) (by decide) ?_
      refine g_aload_n (pc := 189) E dX6_entry_189 (i := 0) rfl rfl ?_
      refine g_iload_n (pc := 190) E dX6_entry_190 (i := 3) rfl rfl ?_
      refine g_iload (pc := 191) E dX6_entry_191 rfl ?_
      refine g_iload_n (pc := 193) E dX6_entry_193 (i := 2) rfl rfl ?_
      refine g_bipush (pc := 194) E dX6_entry_194 rfl ?_
      refine g_icmp_ne (pc := 196) (tgt := 203) E dX6_entry_196 (by decide) (fun qh196 => ?_) (fun qh196 => ?_) 
      · refine g_iconst (pc := 203) E dX6_entry_203 rfl ?_
        refine g_iconst (pc := 204) E dX6_entry_204 rfl ?_
        refine g_callV (pc := 205) (As := [_, _, _, _]) E dX6_entry_205 ml_X6_177 (ct_enters e5 (k := 101) (by omega) (by omega) (by omega) hV (Or.inr (Or.inr ⟨rfl, rfl, rfl⟩)) (by omega) h8) rfl rfl rfl rfl (by decide) (by decide) rfl (Nat.le_of_ble_eq_true rfl) (by decide) (fun x205 M205 hM205 => ?_)
        refine g_iret (pc := 208) E hr dX6_entry_208 ?_
        exact ⟨N, hA, fun hk => absurd hok hk, fun _ => ⟨fun hk => absurd hk (by omega), fun _ => by rw [eRw_n (by unfold mrS; omega), show hereS X tn a = 101 by unfold kdS at hkd; omega]; exact hM205⟩⟩
      · refine g_iconst (pc := 199) E dX6_entry_199 rfl ?_
        refine g_goto (pc := 200) (tgt := 204) E dX6_entry_200 (by decide) ?_
        refine g_iconst (pc := 204) E dX6_entry_204 rfl ?_
        refine g_callV (pc := 205) (As := [_, _, _, _]) E dX6_entry_205 ml_X6_177 (ct_enters e5 (k := 97) (by omega) (by omega) (by omega) hV (Or.inr (Or.inl ⟨rfl, rfl, rfl⟩)) (by omega) h8) rfl rfl rfl rfl (by decide) (by decide) rfl (Nat.le_of_ble_eq_true rfl) (by decide) (fun x205 M205 hM205 => ?_)
        refine g_iret (pc := 208) E hr dX6_entry_208 ?_
        exact ⟨N, hA, fun hk => absurd hok hk, fun _ => ⟨fun hk => absurd hk (by omega), fun _ => by rw [eRw_n (by unfold mrS; omega), show hereS X tn a = 97 by omega]; exact hM205⟩⟩
    · refine g_iconst (pc := 123) E dX6_entry_123 rfl ?_
      refine g_iret (pc := 124) E hr dX6_entry_124 ?_
      exact ⟨N, hA, fun hk => absurd hok hk, fun _ => ⟨fun _ => ⟨rfl, rfl⟩, fun hk => absurd hk (by omega)⟩⟩
  have JP37 : ∀ (_ : Unit), kdS (hereS X tn a) → G cx Pg Lc Ev (rmD 9 0 0) s m args below meth c (MQ below (QI cx (fun rz M' => ∃ N : Mem, A8 M N (eE X tn a) ∧ (¬ eOK X tn a → rz = -1 ∧ N = M') ∧ (eOK X tn a → (dz = 0 → rz = 0 ∧ N = M') ∧ (dz = 1 → ENT S (hereS X tn a) (eSt X tn a) (ePa X tn a) (eRw X tn a) N M' rz)))) args s 0 0 (cA0 cx)) 37 [some (rf cx 184), some (.int (oi dz)), some (.int (oi (hereS X tn a))), none, none, none] [] (M) 0 0 := by
    intro _ hkd
    have hlt := here_lt (X := X) (n := tn) (a := a) (by unfold kdS at hkd; omega)
    have r2 := nuA_R (X := X) (n := tn) (a := a + 1) (by omega)
    have A1 : A8 M (st M 184 8 (a + 1)) (a + 1) := (A8.rf e8).st _
    refine g_aload_n (pc := 37) E dX6_entry_37 (i := 0) rfl rfl ?_
    refine g_dup (pc := 38) E dX6_entry_38 rfl ?_
    refine g_geti (i := 184) (t := 6) (f := 8) (fz := 8) (pc := 39) E dX6_entry_39 fl_X6_209 rfl (by decide) (by decide) rfl rfl e8 (fun _ _ => ?_)
    refine g_iconst (pc := 42) E dX6_entry_42 rfl ?_
    refine g_iadd (pc := 43) E dX6_entry_43 ?_
    refine g_puti (i := 184) (t := 6) (f := 8) (fz := 8) (pc := 44) E dX6_entry_44 fl_X6_209 rfl (by decide) (by decide) rfl rfl ?_ 
    refine g_aload_n (pc := 47) E dX6_entry_47 (i := 0) rfl rfl ?_
    refine g_callV (pc := 48) (As := []) E dX6_entry_48 ml_X6_215 (ct_number (A1.e9 e9) (A1.e7 e7) A1.1 hT (by omega) (by omega)) rfl rfl rfl rfl (by decide) (by decide) rfl (Nat.le_of_ble_eq_true rfl) (by decide) (fun x48 M48 hM48 => ?_)
    obtain ⟨hx48, hp48⟩ := hM48
    subst hx48
    have A2 : A8 M M48 (eA2 X tn a) := A1.tr hp48
    refine g_istore_n (pc := 51) E dX6_entry_51 (i := 3) (ls' := [_, _, _, _, _, _]) rfl (Nat.le_of_ble_eq_true rfl) rfl ?_
    refine g_iload_n (pc := 52) E dX6_entry_52 (i := 3) rfl rfl ?_
    refine g_if_lt (pc := 53) (tgt := 65) E dX6_entry_53 (by decide) (fun qh53 => ?_) (fun qh53 => ?_) 
    · refine g_iconst (pc := 65) E dX6_entry_65 rfl ?_
      refine g_iret (pc := 66) E hr dX6_entry_66 ?_
      exact ⟨_, by rw [eE_2 hkd (by omega)]; exact A2, fun _ => ⟨rfl, rfl⟩, fun hk => absurd hk.2.1 (by omega)⟩
    · have hh2 := here_R hT (show 0 ≤ eA2 X tn a by omega)
      refine g_aload_n (pc := 56) E dX6_entry_56 (i := 0) rfl rfl ?_
      refine g_bipush (pc := 57) E dX6_entry_57 rfl ?_
      refine g_callV (pc := 59) (As := [_]) E dX6_entry_59 ml_X6_218 (ct_takes (A2.e9 e9) (A2.e7 e7) A2.1 hT (by omega) (by omega) (by omega)) rfl rfl rfl rfl (by decide) (by decide) rfl (Nat.le_of_ble_eq_true rfl) (by decide) (fun x59 M59 hM59 => ?_)
      obtain ⟨rfl, rfl⟩ := hM59
      refine g_if_ne (pc := 62) (tgt := 67) E dX6_entry_62 (by decide) (fun qh62 => ?_) (fun qh62 => ?_) (Int.le_trans (by decide) (bi_R _).1) (Int.le_trans (bi_R _).2 (by decide))
      · replace qh62 := bi_n.mp qh62
        refine g_mem (if_pos qh62) ?_
        have h2 : 0 ≤ eSt X tn a ∧ hereS X tn (eA2 X tn a) = 46 := ⟨by omega, qh62⟩
        have hlt2 := here_lt (X := X) (n := tn) (a := eA2 X tn a) (by omega)
        have A3 := A2.st (eA2 X tn a + 1)
        have r4 := nuA_R (X := X) (n := tn) (a := eA2 X tn a + 1) (by omega)
        refine g_aload_n (pc := 67) E dX6_entry_67 (i := 0) rfl rfl ?_
        refine g_callV (pc := 68) (As := []) E dX6_entry_68 ml_X6_215 (ct_number (A3.e9 e9) (A3.e7 e7) A3.1 hT (by omega) (by omega)) rfl rfl rfl rfl (by decide) (by decide) rfl (Nat.le_of_ble_eq_true rfl) (by decide) (fun x68 M68 hM68 => ?_)
        obtain ⟨hx68, hp68⟩ := hM68
        subst hx68
        have A4 : A8 M M68 (eA4 X tn a) := A3.tr hp68
        have hh4 := here_R hT (show 0 ≤ eA4 X tn a by omega)
        refine g_istore (pc := 71) E dX6_entry_71 (ls' := [_, _, _, _, _, _]) (Nat.le_of_ble_eq_true rfl) rfl ?_
        refine g_iload (pc := 73) E dX6_entry_73 rfl ?_
        refine g_if_ge (pc := 75) (tgt := 80) E dX6_entry_75 (by decide) (fun qh75 => ?_) (fun qh75 => ?_) 
        · refine g_iconst (pc := 80) E dX6_entry_80 rfl ?_
          refine g_istore (pc := 81) E dX6_entry_81 (ls' := [_, _, _, _, _, _]) (Nat.le_of_ble_eq_true rfl) rfl ?_
          refine g_iload_n (pc := 83) E dX6_entry_83 (i := 2) rfl rfl ?_
          refine g_bipush (pc := 84) E dX6_entry_84 rfl ?_
          refine g_icmp_eq (pc := 86) (tgt := 95) E dX6_entry_86 (by decide) (fun qh86 => ?_) (fun qh86 => ?_) 
          · have hmr : mrS (hereS X tn a) := by unfold mrS; omega
            refine g_aload_n (pc := 95) E dX6_entry_95 (i := 0) rfl rfl ?_
            refine g_bipush (pc := 96) E dX6_entry_96 rfl ?_
            refine g_callV (pc := 98) (As := [_]) E dX6_entry_98 ml_X6_218 (ct_takes (A4.e9 e9) (A4.e7 e7) A4.1 hT (by omega) (by omega) (by omega)) rfl rfl rfl rfl (by decide) (by decide) rfl (Nat.le_of_ble_eq_true rfl) (by decide) (fun x98 M98 hM98 => ?_)
            obtain ⟨rfl, rfl⟩ := hM98
            refine g_if_ne (pc := 101) (tgt := 106) E dX6_entry_101 (by decide) (fun qh101 => ?_) (fun qh101 => ?_) (Int.le_trans (by decide) (bi_R _).1) (Int.le_trans (bi_R _).2 (by decide))
            · replace qh101 := bi_n.mp qh101
              refine g_mem (if_pos qh101) ?_
              have hlt4 := here_lt (X := X) (n := tn) (a := eA4 X tn a) (by omega)
              have A5 := A4.st (eA4 X tn a + 1)
              refine g_aload_n (pc := 106) E dX6_entry_106 (i := 0) rfl rfl ?_
              refine g_callV (pc := 107) (As := []) E dX6_entry_107 ml_X6_215 (ct_number (A5.e9 e9) (A5.e7 e7) A5.1 hT (by omega) (by omega)) rfl rfl rfl rfl (by decide) (by decide) rfl (Nat.le_of_ble_eq_true rfl) (by decide) (fun x107 M107 hM107 => ?_)
              obtain ⟨hx107, hp107⟩ := hM107
              subst hx107
              have A6 := A5.tr hp107
              refine g_istore (pc := 110) E dX6_entry_110 (ls' := [_, _, _, _, _, _]) (Nat.le_of_ble_eq_true rfl) rfl ?_
              refine g_iload (pc := 112) E dX6_entry_112 rfl ?_
              refine g_if_ge (pc := 114) (tgt := 119) E dX6_entry_114 (by decide) (fun qh114 => ?_) (fun qh114 => ?_) 
              · exact g_wk2 (JP119 _ _ ⟨hkd, h2.1, h2.2, by omega, fun _ => ⟨qh101, by rw [eRw_y hmr]; omega⟩⟩ (by rw [eE_5 hkd h2 (by omega) ⟨hmr, qh101⟩]; exact A6) (eRw_y hmr).symm) ⟨rfl, rfl, rfl, rfl, rfl, rfl, trivial⟩
              · refine g_iconst (pc := 117) E dX6_entry_117 rfl ?_
                refine g_iret (pc := 118) E hr dX6_entry_118 ?_
                exact ⟨_, by rw [eE_5 hkd h2 (by omega) ⟨hmr, qh101⟩]; exact A6, fun _ => ⟨rfl, rfl⟩, fun hk => absurd (hk.2.2.2.2 hmr).2 (by rw [eRw_y hmr]; omega)⟩
            · replace qh101 := bi_0.mp qh101
              refine g_mem (if_neg qh101) ?_
              refine g_iconst (pc := 104) E dX6_entry_104 rfl ?_
              refine g_iret (pc := 105) E hr dX6_entry_105 ?_
              exact ⟨_, by rw [eE_4n hkd h2 (by omega) (fun q => qh101 q.2)]; exact A4, fun _ => ⟨rfl, rfl⟩, fun hk => absurd (hk.2.2.2.2 hmr).1 qh101⟩
          · refine g_iload_n (pc := 89) E dX6_entry_89 (i := 2) rfl rfl ?_
            refine g_bipush (pc := 90) E dX6_entry_90 rfl ?_
            refine g_icmp_ne (pc := 92) (tgt := 119) E dX6_entry_92 (by decide) (fun qh92 => ?_) (fun qh92 => ?_) 
            · exact g_wk2 (JP119 _ 0 ⟨hkd, h2.1, h2.2, by omega, fun hz => absurd hz (show ¬ mrS (hereS X tn a) by unfold mrS; omega)⟩ (by rw [eE_4n hkd h2 (by omega) (fun q => (show ¬ mrS (hereS X tn a) by unfold mrS; omega) q.1)]; exact A4) (eRw_n (show ¬ mrS (hereS X tn a) by unfold mrS; omega)).symm) ⟨rfl, rfl, rfl, rfl, rfl, rfl, trivial⟩
            · have hmr : mrS (hereS X tn a) := by unfold mrS; omega
              refine g_aload_n (pc := 95) E dX6_entry_95 (i := 0) rfl rfl ?_
              refine g_bipush (pc := 96) E dX6_entry_96 rfl ?_
              refine g_callV (pc := 98) (As := [_]) E dX6_entry_98 ml_X6_218 (ct_takes (A4.e9 e9) (A4.e7 e7) A4.1 hT (by omega) (by omega) (by omega)) rfl rfl rfl rfl (by decide) (by decide) rfl (Nat.le_of_ble_eq_true rfl) (by decide) (fun x98 M98 hM98 => ?_)
              obtain ⟨rfl, rfl⟩ := hM98
              refine g_if_ne (pc := 101) (tgt := 106) E dX6_entry_101 (by decide) (fun qh101 => ?_) (fun qh101 => ?_) (Int.le_trans (by decide) (bi_R _).1) (Int.le_trans (bi_R _).2 (by decide))
              · replace qh101 := bi_n.mp qh101
                refine g_mem (if_pos qh101) ?_
                have hlt4 := here_lt (X := X) (n := tn) (a := eA4 X tn a) (by omega)
                have A5 := A4.st (eA4 X tn a + 1)
                refine g_aload_n (pc := 106) E dX6_entry_106 (i := 0) rfl rfl ?_
                refine g_callV (pc := 107) (As := []) E dX6_entry_107 ml_X6_215 (ct_number (A5.e9 e9) (A5.e7 e7) A5.1 hT (by omega) (by omega)) rfl rfl rfl rfl (by decide) (by decide) rfl (Nat.le_of_ble_eq_true rfl) (by decide) (fun x107 M107 hM107 => ?_)
                obtain ⟨hx107, hp107⟩ := hM107
                subst hx107
                have A6 := A5.tr hp107
                refine g_istore (pc := 110) E dX6_entry_110 (ls' := [_, _, _, _, _, _]) (Nat.le_of_ble_eq_true rfl) rfl ?_
                refine g_iload (pc := 112) E dX6_entry_112 rfl ?_
                refine g_if_ge (pc := 114) (tgt := 119) E dX6_entry_114 (by decide) (fun qh114 => ?_) (fun qh114 => ?_) 
                · exact g_wk2 (JP119 _ _ ⟨hkd, h2.1, h2.2, by omega, fun _ => ⟨qh101, by rw [eRw_y hmr]; omega⟩⟩ (by rw [eE_5 hkd h2 (by omega) ⟨hmr, qh101⟩]; exact A6) (eRw_y hmr).symm) ⟨rfl, rfl, rfl, rfl, rfl, rfl, trivial⟩
                · refine g_iconst (pc := 117) E dX6_entry_117 rfl ?_
                  refine g_iret (pc := 118) E hr dX6_entry_118 ?_
                  exact ⟨_, by rw [eE_5 hkd h2 (by omega) ⟨hmr, qh101⟩]; exact A6, fun _ => ⟨rfl, rfl⟩, fun hk => absurd (hk.2.2.2.2 hmr).2 (by rw [eRw_y hmr]; omega)⟩
              · replace qh101 := bi_0.mp qh101
                refine g_mem (if_neg qh101) ?_
                refine g_iconst (pc := 104) E dX6_entry_104 rfl ?_
                refine g_iret (pc := 105) E hr dX6_entry_105 ?_
                exact ⟨_, by rw [eE_4n hkd h2 (by omega) (fun q => qh101 q.2)]; exact A4, fun _ => ⟨rfl, rfl⟩, fun hk => absurd (hk.2.2.2.2 hmr).1 qh101⟩
        · refine g_iconst (pc := 78) E dX6_entry_78 rfl ?_
          refine g_iret (pc := 79) E hr dX6_entry_79 ?_
          exact ⟨_, by rw [eE_3 hkd h2 (by omega)]; exact A4, fun _ => ⟨rfl, rfl⟩, fun hk => absurd hk.2.2.2.1 (by omega)⟩
      · replace qh62 := bi_0.mp qh62
        refine g_mem (if_neg qh62) ?_
        refine g_iconst (pc := 65) E dX6_entry_65 rfl ?_
        refine g_iret (pc := 66) E hr dX6_entry_66 ?_
        exact ⟨_, by rw [eE_2 hkd (by omega)]; exact A2, fun _ => ⟨rfl, rfl⟩, fun hk => absurd hk.2.2.1 qh62⟩
  refine g_aload_n (pc := 0) E dX6_entry_0 (i := 0) rfl rfl ?_
  refine g_callV (pc := 1) (As := []) E dX6_entry_1 ml_X6_212 (ct_here e9 e7 e8 hT (by omega) (by omega)) rfl rfl rfl rfl (by decide) (by decide) rfl (Nat.le_of_ble_eq_true rfl) (by decide) (fun x1 M1 hM1 => ?_)
  obtain ⟨rfl, rfl⟩ := hM1
  refine g_istore_n (pc := 4) E dX6_entry_4 (i := 2) (ls' := [_, _, _, _, _, _]) rfl (Nat.le_of_ble_eq_true rfl) rfl ?_
  refine g_iload_n (pc := 5) E dX6_entry_5 (i := 2) rfl rfl ?_
  refine g_bipush (pc := 6) E dX6_entry_6 rfl ?_
  refine g_icmp_eq (pc := 8) (tgt := 37) E dX6_entry_8 (by decide) (fun qh8 => ?_) (fun qh8 => ?_) 
  · exact g_wk2 (JP37 () (by unfold kdS; omega)) ⟨rfl, rfl, rfl, trivial⟩
  · refine g_iload_n (pc := 11) E dX6_entry_11 (i := 2) rfl rfl ?_
    refine g_bipush (pc := 12) E dX6_entry_12 rfl ?_
    refine g_icmp_eq (pc := 14) (tgt := 37) E dX6_entry_14 (by decide) (fun qh14 => ?_) (fun qh14 => ?_) 
    · exact g_wk2 (JP37 () (by unfold kdS; omega)) ⟨rfl, rfl, rfl, trivial⟩
    · refine g_iload_n (pc := 17) E dX6_entry_17 (i := 2) rfl rfl ?_
      refine g_bipush (pc := 18) E dX6_entry_18 rfl ?_
      refine g_icmp_eq (pc := 20) (tgt := 37) E dX6_entry_20 (by decide) (fun qh20 => ?_) (fun qh20 => ?_) 
      · exact g_wk2 (JP37 () (by unfold kdS; omega)) ⟨rfl, rfl, rfl, trivial⟩
      · refine g_iload_n (pc := 23) E dX6_entry_23 (i := 2) rfl rfl ?_
        refine g_bipush (pc := 24) E dX6_entry_24 rfl ?_
        refine g_icmp_eq (pc := 26) (tgt := 37) E dX6_entry_26 (by decide) (fun qh26 => ?_) (fun qh26 => ?_) 
        · exact g_wk2 (JP37 () (by unfold kdS; omega)) ⟨rfl, rfl, rfl, trivial⟩
        · refine g_iload_n (pc := 29) E dX6_entry_29 (i := 2) rfl rfl ?_
          refine g_bipush (pc := 30) E dX6_entry_30 rfl ?_
          refine g_icmp_eq (pc := 32) (tgt := 37) E dX6_entry_32 (by decide) (fun qh32 => ?_) (fun qh32 => ?_) 
          · exact g_wk2 (JP37 () (by unfold kdS; omega)) ⟨rfl, rfl, rfl, trivial⟩
          · refine g_iconst (pc := 35) E dX6_entry_35 rfl ?_
            refine g_iret (pc := 36) E hr dX6_entry_36 ?_
            have hnk : ¬ kdS (hereS X tn a) := by unfold kdS; omega
            exact ⟨_, by rw [eE_1 hnk]; exact A8.rf e8, fun _ => ⟨rfl, rfl⟩, fun hk => absurd hk.1 hnk⟩

/-- where the reference's reading stands before entry c: w is the first refused entry, -1: none -/
def RW (S X : Int → Int) (tn : Int) (M : Mem) (c : Nat) (w : Int) (N : Mem) : Prop := (∀ i, i ≠ 184 → i ≠ 185 → N i = triM M i) ∧ (∀ f : Int, f ≠ 8 → f ≠ 11 → f ≠ 13 → N 184 f = M 184 f) ∧ ((w = -1 ∧ (∀ j : Nat, j < c → rsN S X tn j = 0) ∧ N 185 = apN S X tn c ∧ N 184 11 = M 184 11 ∧ N 184 13 = M 184 13) ∨ ∃ v : Nat, w = v ∧ v < c ∧ (∀ j : Nat, j < v → rsN S X tn j = 0) ∧ ¬ rsN S X tn v = 0 ∧ N 184 11 = rsN S X tn v ∧ N 184 13 = abE S X tn v ∧ N 185 = apN S X tn v)
theorem RW.a8 {S X : Int → Int} {tn : Int} {M N O : Mem} {c : Nat} {w e : Int} (h : RW S X tn M c w N) (g : A8 N O e) : RW S X tn M c w O := by
  obtain ⟨h1, h2, h3⟩ := h
  refine ⟨fun i a b => (g.2.1 i a).trans (h1 i a b), fun f a b d => (g.2.2 f a).trans (h2 f a b d), ?_⟩
  rcases h3 with ⟨q1, q2, q3, q4, q5⟩ | ⟨v, q1, q2, q3, q4, q5, q6, q7⟩
  · exact Or.inl ⟨q1, q2, (g.2.1 185 (by decide)).trans q3, (g.2.2 11 (by decide)).trans q4, (g.2.2 13 (by decide)).trans q5⟩
  · exact Or.inr ⟨v, q1, q2, q3, q4, (g.2.2 11 (by decide)).trans q5, (g.2.2 13 (by decide)).trans q6, (g.2.1 185 (by decide)).trans q7⟩
/-- one entry more, that is only read -/
theorem RW.rd {S X : Int → Int} {tn : Int} {M N : Mem} {c : Nat} {w : Int} (h : RW S X tn M c w N) (hw : 0 ≤ w) : RW S X tn M (c + 1) w N := by
  obtain ⟨h1, h2, h3⟩ := h
  refine ⟨h1, h2, ?_⟩
  rcases h3 with ⟨q1, _⟩ | ⟨v, q1, q2, q3⟩
  · omega
  · exact Or.inr ⟨v, q1, by omega, q3⟩
/-- one that is done -/
theorem RW.ok {S X : Int → Int} {tn : Int} {M N O P : Mem} {c : Nat} {w e r : Int} (h : RW S X tn M c w N) (hw : w < 0) (g : A8 N O e) (he : ENT (apN S X tn c) (hereS X tn (ep X tn c)) (eSt X tn (ep X tn c)) (ePa X tn (ep X tn c)) (eRw X tn (ep X tn c)) O P r) (hr : r = 0) : RW S X tn M (c + 1) w P ∧ P 184 8 = e := by
  obtain ⟨h1, h2, h3⟩ := h
  obtain ⟨k1, k2, k3, k4⟩ := he
  obtain ⟨k5, k6⟩ := k3 hr
  refine ⟨⟨fun i a b => by rw [k2 i a b, g.2.1 i a, h1 i a b], fun f a b d => by rw [k6, g.2.2 f a, h2 f a b d], ?_⟩, by rw [k6]; exact g.1⟩
  rcases h3 with ⟨q1, q2, q3, q4, q5⟩ | ⟨v, q1, _⟩
  · refine Or.inl ⟨q1, fun j hj => ?_, k5, by rw [k6, g.2.2 11 (by decide), q4], by rw [k6, g.2.2 13 (by decide), q5]⟩
    by_cases hjc : j = c
    · rw [hjc]; exact k1.trans hr
    · exact q2 j (by omega)
  · omega
/-- one that is refused -/
theorem RW.no {S X : Int → Int} {tn : Int} {M N O P : Mem} {c : Nat} {w e r : Int} (h : RW S X tn M c w N) (hw : w < 0) (g : A8 N O e) (he : ENT (apN S X tn c) (hereS X tn (ep X tn c)) (eSt X tn (ep X tn c)) (ePa X tn (ep X tn c)) (eRw X tn (ep X tn c)) O P r) (hr : ¬ r = 0) : RW S X tn M (c + 1) (c : Int) P ∧ P 184 8 = e := by
  obtain ⟨h1, h2, h3⟩ := h
  obtain ⟨k1, k2, k3, k4⟩ := he
  obtain ⟨k5, k6⟩ := k4 hr
  have hrs : rsN S X tn c = r := k1
  refine ⟨⟨fun i a b => by rw [k2 i a b, g.2.1 i a, h1 i a b], fun f a b d => by rw [k6, ru_off d, ru_off b, g.2.2 f a, h2 f a b d], ?_⟩, by rw [k6, ru_off (by decide), ru_off (by decide)]; exact g.1⟩
  rcases h3 with ⟨q1, q2, q3, q4, q5⟩ | ⟨v, q1, _⟩
  · refine Or.inr ⟨c, rfl, by omega, q2, by rw [hrs]; exact hr, by rw [k6, ru_off (by decide), ru_self, hrs], by rw [k6, ru_self, abE, hrs], k5⟩
  · omega
/-- what the reference's reading of an entry that it shall do needs -/
theorem RW.si {S X : Int → Int} {tn : Int} {M N : Mem} {c : Nat} {w : Int} (h : RW S X tn M c w N) (hI : SI S) (hC : CH X tn c) (hw : w < 0) : SI (apN S X tn c) ∧ N 185 = apN S X tn c := by
  obtain ⟨h1, h2, h3⟩ := h
  rcases h3 with ⟨q1, q2, q3, q4, q5⟩ | ⟨v, q1, _⟩
  · exact ⟨apN_SI hI c (fun j hj => ⟨(hC j hj).1, q2 j hj⟩), q3⟩
  · omega
def RDx (M M' : Mem) (S : Int → Int) : Prop := M' 185 = S ∧ (∀ i, i ≠ 184 → i ≠ 185 → i ≠ 188 → M' i = M i) ∧ (∀ f : Int, f ≠ 7 → f ≠ 8 → f ≠ 11 → f ≠ 12 → f ≠ 13 → M' 184 f = M 184 f) ∧ M' 184 7 = 0
/-- what reading does: a fault, a refusal, or all is done -/
def RDP (M : Mem) (S X : Int → Int) (tn rz : Int) (M' : Mem) : Prop := ∃ c : Nat, CH X tn c ∧
  (((¬ eOK X tn (ep X tn c) ∨ (eOK X tn (ep X tn c) ∧ eE X tn (ep X tn c) < tn ∧ ¬ hereS X tn (eE X tn (ep X tn c)) = 59)) ∧ rz = -1000 - eE X tn (ep X tn c) ∧ RDx M M' S ∧ M' 184 11 = M 184 11 ∧ M' 184 12 = M 184 12 ∧ M' 184 13 = M 184 13) ∨
   (eOK X tn (ep X tn c) ∧ tn ≤ eE X tn (ep X tn c) ∧ ((∃ v : Nat, v ≤ c ∧ (∀ j : Nat, j < v → rsN S X tn j = 0) ∧ ¬ rsN S X tn v = 0 ∧ rz = -4 ∧ RDx M M' S ∧ M' 184 11 = rsN S X tn v ∧ M' 184 12 = v ∧ M' 184 13 = abE S X tn v) ∨
     ((∀ j : Nat, j ≤ c → rsN S X tn j = 0) ∧ rz = c + 1 ∧ M' 185 = apN S X tn (c + 1) ∧ KP M M' S ∧ (∀ i, i ≠ 184 → i ≠ 185 → i ≠ 186 → i ≠ 188 → M' i = M i) ∧ (∀ f : Int, f ≠ 2 → f ≠ 7 → f ≠ 8 → M' 184 f = M 184 f) ∧ M' 184 7 = 0))))
theorem cbk_RD {M N : Mem} {S X : Int → Int} {tn : Int} {c : Nat} {w : Int} (e5 : M 185 = S) (hS : ∀ x, x < 0 ∨ 745 ≤ x → N 185 x = S x) (h1 : ∀ i, i ≠ 184 → i ≠ 185 → N i = triM M i) (h2 : ∀ f : Int, f ≠ 8 → f ≠ 11 → f ≠ 12 → f ≠ 13 → N 184 f = M 184 f) : RDx M (cbkM N) S := by
  have e8 : N 188 = triM M 188 := h1 188 (by decide) (by decide)
  refine ⟨?_, fun i a b d => by rw [cbkM, st_ne a, cpo_ne b, h1 i a b, tri_ne d], fun f a b d e g => by rw [cbkM, st_off a, cpo_ne (by decide)]; exact h2 f b d e g, by rw [cbkM, st_self]⟩
  funext x
  rw [cbkM, st_ne (by decide)]
  by_cases hx : 0 ≤ x ∧ x < 745
  · rw [cpo_in (by omega), show 0 + (x - 0) = x by omega, e8]
    exact tri_188 e5 x hx.1 hx.2
  · rw [cpo_out (by omega)]
    exact hS x (by omega)
/-- beyond the row nothing changes -/
theorem en_hi {S : Int → Int} (h : SO S) {k s p raw x : Int} (hr : reS S k s p raw = 0) (hx : x < 0 ∨ 745 ≤ x) : enS S k s p raw x = S x := by
  rcases hx with hx | hx
  · exact en_lo h hr (by omega) (by omega)
  obtain ⟨⟨s0, s1⟩, ⟨p0, p1⟩, e3, e4, e5, e6⟩ := reS_in hr
  have hV0 := h.1.1
  unfold enS
  split
  · rw [ru_off (by omega)]
  · split
    · next q =>
      obtain ⟨x0, x1, x2⟩ := remI_is h (a := 8 * s + p) (by omega) (by omega) (e4 (Or.inr q))
      unfold remS
      rw [if_neg (by omega), if_neg (by omega), if_neg (by omega), if_neg (by omega), if_neg (by omega)]
    · next q1 q2 =>
      have := SO_h8 h s0 s1 p0 p1 (e6 (by omega))
      rw [ru_off (by omega), ru_off (by omega), ru_off (by omega), ru_off (by omega), ru_off (by omega)]
theorem apN_hi {S X : Int → Int} {n : Int} (hI : SI S) {x : Int} (hx : x < 0 ∨ 745 ≤ x) : ∀ c : Nat, (∀ j : Nat, j < c → eOK X n (ep X n j) ∧ rsN S X n j = 0) → apN S X n c x = S x
  | 0, _ => rfl
  | c + 1, h => by
    have h1 := apN_SI hI c (fun j hj => h j (by omega))
    have h2 := apN_hi hI hx c (fun j hj => h j (by omega))
    rw [← h2]
    exact en_hi h1.1 (h c (by omega)).2 hx

theorem RW.out {S X : Int → Int} {tn : Int} {M N : Mem} {c : Nat} {w : Int} (h : RW S X tn M c w N) (hI : SI S) (hC : ∀ j : Nat, j < c → eOK X tn (ep X tn j)) : ∀ x, x < 0 ∨ 745 ≤ x → N 185 x = S x := fun x hx => by
  rcases h.2.2 with ⟨q1, q2, q3, q4, q5⟩ | ⟨v, q1, q2, q3, q4, q5, q6, q7⟩
  · rw [q3]; exact apN_hi hI hx c (fun j hj => ⟨hC j hj, q2 j hj⟩)
  · rw [q7]; exact apN_hi hI hx v (fun j hj => ⟨hC j (by omega), q3 j hj⟩)
theorem RW.e9 {S X : Int → Int} {tn : Int} {M N : Mem} {c : Nat} {w : Int} (h : RW S X tn M c w N) (e : M 189 = X) : N 189 = X := by rw [h.1 189 (by decide) (by decide), tri_ne (by decide)]; exact e
theorem RW.e7 {S X : Int → Int} {tn : Int} {M N : Mem} {c : Nat} {w : Int} (h : RW S X tn M c w N) (e : M 184 7 = tn) : N 184 7 = tn := by rw [h.2.1 7 (by decide) (by decide) (by decide)]; exact e
theorem RW.wR {S X : Int → Int} {tn : Int} {M N : Mem} {c : Nat} {w : Int} (h : RW S X tn M c w N) : -1 ≤ w ∧ w ≤ c := by
  rcases h.2.2 with ⟨q1, _⟩ | ⟨v, q1, q2, _⟩ <;> omega
theorem RW.fault {S X : Int → Int} {tn : Int} {M N : Mem} {c : Nat} {w : Int} (h : RW S X tn M c w N) (hI : SI S) (e5 : M 185 = S) (hC : ∀ j : Nat, j < c → eOK X tn (ep X tn j)) : RDx M (cbkM (st (st N 184 11 (M 184 11)) 184 13 (M 184 13))) S ∧ cbkM (st (st N 184 11 (M 184 11)) 184 13 (M 184 13)) 184 11 = M 184 11 ∧ cbkM (st (st N 184 11 (M 184 11)) 184 13 (M 184 13)) 184 12 = M 184 12 ∧ cbkM (st (st N 184 11 (M 184 11)) 184 13 (M 184 13)) 184 13 = M 184 13 ∧ cbkM (st (st N 184 11 (M 184 11)) 184 13 (M 184 13)) 184 8 = N 184 8 := by
  refine ⟨cbk_RD e5 (c := c) (w := w) (tn := tn) (X := X) ?_ ?_ ?_, ?_, ?_, ?_, ?_⟩
  · rw [st_ne (by decide), st_ne (by decide)]; exact h.out hI hC
  · intro i a b; rw [st_ne a, st_ne a]; exact h.1 i a b
  · intro f a b d e; rw [st_off e, st_off b]; exact h.2.1 f a b e
  · rw [cbkM, st_off (by decide), cpo_ne (by decide), st_off (by decide), st_self]
  · rw [cbkM, st_off (by decide), cpo_ne (by decide), st_off (by decide), st_off (by decide)]; exact h.2.1 12 (by decide) (by decide) (by decide)
  · rw [cbkM, st_off (by decide), cpo_ne (by decide), st_self]
  · rw [cbkM, st_off (by decide), cpo_ne (by decide), st_off (by decide), st_off (by decide)]
theorem RW.refuse {S X : Int → Int} {tn : Int} {M N : Mem} {b : Nat} {w : Int} (h : RW S X tn M (b + 1) w N) (hI : SI S) (e5 : M 185 = S) (hC : ∀ j : Nat, j < b + 1 → eOK X tn (ep X tn j)) (hw : 0 ≤ w) : ∃ v : Nat, v ≤ b ∧ (∀ j : Nat, j < v → rsN S X tn j = 0) ∧ ¬ rsN S X tn v = 0 ∧ (-4 : Int) = -4 ∧ RDx M (cbkM (st N 184 12 w)) S ∧ cbkM (st N 184 12 w) 184 11 = rsN S X tn v ∧ cbkM (st N 184 12 w) 184 12 = v ∧ cbkM (st N 184 12 w) 184 13 = abE S X tn v := by
  have hR : RDx M (cbkM (st N 184 12 w)) S := by
    refine cbk_RD e5 (c := b) (w := w) (tn := tn) (X := X) ?_ ?_ ?_
    · rw [st_ne (by decide)]; exact h.out hI hC
    · intro i a b; rw [st_ne a]; exact h.1 i a b
    · intro f a b d e; rw [st_off d]; exact h.2.1 f a b e
  rcases h.2.2 with ⟨q1, _⟩ | ⟨v, q1, q2, q3, q4, q5, q6, q7⟩
  · omega
  · refine ⟨v, by omega, q3, q4, rfl, hR, ?_, ?_, ?_⟩
    · rw [cbkM, st_off (by decide), cpo_ne (by decide), st_off (by decide)]; exact q5
    · rw [cbkM, st_off (by decide), cpo_ne (by decide), st_self]; exact q1
    · rw [cbkM, st_off (by decide), cpo_ne (by decide), st_off (by decide)]; exact q6
theorem RW.done {S X : Int → Int} {tn : Int} {M N : Mem} {b : Nat} {w : Int} (h : RW S X tn M (b + 1) w N) (e5 : M 185 = S) (hu0 : 0 ≤ M 184 2) (hu1 : M 184 2 ≤ 8) (hw : w < 0) : (∀ j : Nat, j ≤ b → rsN S X tn j = 0) ∧ kepM (st N 184 7 0) 185 = apN S X tn (b + 1) ∧ KP M (kepM (st N 184 7 0)) S ∧ (∀ i, i ≠ 184 → i ≠ 185 → i ≠ 186 → i ≠ 188 → kepM (st N 184 7 0) i = M i) ∧ (∀ f : Int, f ≠ 2 → f ≠ 7 → f ≠ 8 → kepM (st N 184 7 0) 184 f = M 184 f) ∧ kepM (st N 184 7 0) 184 7 = 0 := by
  have e2 : (st N 184 7 0) 184 2 = M 184 2 := by rw [st_off (by decide)]; exact h.2.1 2 (by decide) (by decide) (by decide)
  have e6 : (st N 184 7 0) 186 = M 186 := by rw [st_ne (by decide), h.1 186 (by decide) (by decide), tri_ne (by decide)]
  obtain ⟨k1, k2, k3⟩ := kep_KP (N := st N 184 7 0) (S := S) (by rw [st_ne (by decide), h.1 188 (by decide) (by decide)]; exact tri_188 e5) (by rw [e2]; exact hu0) (by rw [e2]; exact hu1)
  unfold KP at k1
  rw [e2, e6] at k1
  rcases h.2.2 with ⟨q1, q2, q3, q4, q5⟩ | ⟨v, q1, _⟩
  · refine ⟨fun j hj => q2 j (by omega), ?_, k1, fun i a b c d => ?_, fun f a b c => ?_, ?_⟩
    · rw [k2 185 (by decide) (by decide), st_ne (by decide)]; exact q3
    · rw [k2 i a c, st_ne a, h.1 i a b, tri_ne d]
    · rw [k3 f a, st_off b]
      by_cases h11 : f = 11
      · rw [h11]; exact q4
      · by_cases h13 : f = 13
        · rw [h13]; exact q5
        · exact h.2.1 f c h11 h13
    · rw [k3 7 (by decide), st_self]
  · omega

/-- where the reference's reading stands at the head of its loop -/
def RH (X : Int → Int) (tn g : Int) (kc : Nat) (N : Mem) : Prop := (g = 1 → CH X tn kc ∧ N 184 8 = ep X tn kc) ∧ (g = 0 → ∃ b : Nat, kc = b + 1 ∧ CH X tn b ∧ eOK X tn (ep X tn b) ∧ tn ≤ eE X tn (ep X tn b))

set_option maxHeartbeats 4000000 in
theorem ct_read {cx : Cx} {M : Mem} {S : Int → Int} (e5 : M 185 = S) {X : Int → Int} (e9 : M 189 = X) {tn : Int} (e7 : M 184 7 = tn) (hT : TX X tn) (hI : SI S) (hu0 : 0 ≤ M 184 2) (hu1 : M 184 2 ≤ 8) (h11 : 0 ≤ M 184 11 ∧ M 184 11 ≤ 7) (h13 : -2147483648 ≤ M 184 13 ∧ M 184 13 ≤ 2147483647) : Ct cx yX6_read cX6_read 8 (some .int) 10 0 0 [rf cx 184] M (fun rz M' => RDP M S X tn rz M') := by
  refine ct_intro cd_X6_read (by decide +kernel) (Nat.le_of_ble_eq_true rfl) rfl (fun Pg Lc Ev s m args below meth c E hr => ?_)
  refine g_ent (ls' := [some (rf cx 184), none, none, none, none, none, none, none]) rfl ?_
  have hT0 := hT.1
  have hT1 := hT.2.1
  have e9M := e9
  have e7M := e7
  have e5M := e5
  refine g_aload_n (pc := 0) E dX6_read_0 (i := 0) rfl rfl ?_
  refine g_callVv (pc := 1) (As := []) E dX6_read_1 ml_X6_54 cv_tries rfl rfl rfl rfl (by decide) (by decide) rfl (Nat.le_of_ble_eq_true rfl) (by decide) (fun M1 hM1 => ?_)
  obtain rfl := hM1
  refine g_aload_n (pc := 4) E dX6_read_4 (i := 0) rfl rfl ?_
  refine g_geti (i := 184) (t := 6) (f := 11) (fz := 11) (pc := 5) E dX6_read_5 fl_X6_162 rfl (by decide) (by decide) rfl rfl (show triM M 184 11 = M 184 11 from by rw [tri_ne (by decide)]) (fun _ _ => ?_)
  refine g_istore_n (pc := 8) E dX6_read_8 (i := 1) (ls' := [_, _, _, _, _, _, _, _]) rfl (Nat.le_of_ble_eq_true rfl) rfl ?_
  refine g_aload_n (pc := 9) E dX6_read_9 (i := 0) rfl rfl ?_
  refine g_geti (i := 184) (t := 6) (f := 13) (fz := 13) (pc := 10) E dX6_read_10 fl_X6_165 rfl (by decide) (by decide) rfl rfl (show triM M 184 13 = M 184 13 from by rw [tri_ne (by decide)]) (fun _ _ => ?_)
  refine g_istore_n (pc := 13) E dX6_read_13 (i := 2) (ls' := [_, _, _, _, _, _, _, _]) rfl (Nat.le_of_ble_eq_true rfl) rfl ?_
  refine g_aload_n (pc := 14) E dX6_read_14 (i := 0) rfl rfl ?_
  refine g_iconst (pc := 15) E dX6_read_15 rfl ?_
  refine g_puti (i := 184) (t := 6) (f := 8) (fz := 8) (pc := 16) E dX6_read_16 fl_X6_209 rfl (by decide) (by decide) rfl rfl ?_ 
  refine g_iconst (pc := 19) E dX6_read_19 rfl ?_
  refine g_istore_n (pc := 20) E dX6_read_20 (i := 3) (ls' := [_, _, _, _, _, _, _, _]) rfl (Nat.le_of_ble_eq_true rfl) rfl ?_
  refine g_iconst (pc := 21) E dX6_read_21 rfl ?_
  refine g_istore (pc := 22) E dX6_read_22 (ls' := [_, _, _, _, _, _, _, _]) (Nat.le_of_ble_eq_true rfl) rfl ?_
  refine g_iconst (pc := 24) E dX6_read_24 rfl ?_
  refine g_istore (pc := 25) E dX6_read_25 (ls' := [_, _, _, _, _, _, _, _]) (Nat.le_of_ble_eq_true rfl) rfl ?_
  have LP27 : ∀ (n : Nat) (N : Mem) (kc : Nat) (w g : Int), (tn - N 184 8) + g < (n : Int) → g = 0 ∨ g = 1 → RH X tn g kc N → RW S X tn M kc w N → N 184 8 ≤ tn → G cx Pg Lc Ev (rmD 10 0 0) s m args below meth c (MQ below (QI cx (fun rz M' => RDP M S X tn rz M')) args s 0 0 (cA0 cx)) 27 [some (rf cx 184), some (.int (oi (M 184 11))), some (.int (oi (M 184 13))), some (.int (oi ((kc : Int)))), some (.int (oi w)), some (.int (oi g)), none, none] [] (N) 0 0 := by
    intro n
    induction n with
    | zero => intro N kc w g hn hg hRH hRW hat; exact absurd hn (by omega)
    | succ n ih27 =>
      intro N kc w g hn hg hRH hRW hat
      have hwR := hRW.wR
      have hk17 : (kc : Int) ≤ 17 := by
        rcases hg with q | q
        · obtain ⟨b, e1, e2, _⟩ := hRH.2 q
          have := ep_R hT0 b e2
          omega
        · have := ep_R hT0 kc (hRH.1 q).1
          omega
      refine g_iload (pc := 27) E dX6_read_27 rfl ?_
      refine g_if_eq (pc := 29) (tgt := 144) E dX6_read_29 (by decide) (fun qh29 => ?_) (fun qh29 => ?_) 
      · have hg2 : g = 0 := by omega
        obtain ⟨b, hkb, hC, hok, hend⟩ := hRH.2 hg2
        subst hkb
        have hCC : ∀ j : Nat, j < b + 1 → eOK X tn (ep X tn j) := fun j hj => by
          by_cases q : j = b
          · rw [q]; exact hok
          · exact (hC j (by omega)).1
        refine g_iload (pc := 144) E dX6_read_144 rfl ?_
        refine g_if_lt (pc := 146) (tgt := 162) E dX6_read_146 (by decide) (fun qh146 => ?_) (fun qh146 => ?_) 
        · refine g_aload_n (pc := 162) E dX6_read_162 (i := 0) rfl rfl ?_
          refine g_iconst (pc := 163) E dX6_read_163 rfl ?_
          refine g_puti (i := 184) (t := 6) (f := 7) (fz := 7) (pc := 164) E dX6_read_164 fl_X6_206 rfl (by decide) (by decide) rfl rfl ?_ 
          refine g_aload_n (pc := 167) E dX6_read_167 (i := 0) rfl rfl ?_
          have hu2 : (st N 184 7 0) 184 2 = M 184 2 := by rw [st_off (by decide)]; exact hRW.2.1 2 (by decide) (by decide) (by decide)
          refine g_callVv (pc := 168) (As := []) E dX6_read_168 ml_X6_57 (cv_keeps (by omega) (by omega)) rfl rfl rfl rfl (by decide) (by decide) rfl (Nat.le_of_ble_eq_true rfl) (by decide) (fun M168 hM168 => ?_)
          obtain rfl := hM168
          refine g_iload_n (pc := 171) E dX6_read_171 (i := 3) rfl rfl ?_
          refine g_iret (pc := 172) E hr dX6_read_172 ?_
          obtain ⟨d1, d2⟩ := hRW.done e5M hu0 hu1 (by omega)
          exact ⟨b, hC, Or.inr ⟨hok, hend, Or.inr ⟨d1, by omega, d2⟩⟩⟩
        · refine g_aload_n (pc := 149) E dX6_read_149 (i := 0) rfl rfl ?_
          refine g_iload (pc := 150) E dX6_read_150 rfl ?_
          refine g_puti (i := 184) (t := 6) (f := 12) (fz := 12) (pc := 152) E dX6_read_152 fl_X6_174 rfl (by decide) (by decide) rfl rfl ?_ 
          refine g_aload_n (pc := 155) E dX6_read_155 (i := 0) rfl rfl ?_
          refine g_callVv (pc := 156) (As := []) E dX6_read_156 ml_X6_224 cv_comesBack rfl rfl rfl rfl (by decide) (by decide) rfl (Nat.le_of_ble_eq_true rfl) (by decide) (fun M156 hM156 => ?_)
          obtain rfl := hM156
          refine g_bipush (pc := 159) E dX6_read_159 rfl ?_
          refine g_iret (pc := 161) E hr dX6_read_161 ?_
          exact ⟨b, hC, Or.inr ⟨hok, hend, Or.inl (hRW.refuse hI e5M hCC (by omega))⟩⟩
      · have hg2 : g = 1 := by omega
        obtain ⟨hC, he8⟩ := hRH.1 hg2
        have hep := ep_R hT0 kc hC
        refine g_aload_n (pc := 32) E dX6_read_32 (i := 0) rfl rfl ?_
        refine g_iload (pc := 33) E dX6_read_33 rfl ?_
        refine g_if_ge (pc := 35) (tgt := 42) E dX6_read_35 (by decide) (fun qh35 => ?_) (fun qh35 => ?_) 
        · refine g_iconst (pc := 42) E dX6_read_42 rfl ?_
          refine g_callV (pc := 43) (As := [_]) E dX6_read_43 ml_X6_221 (ct_entry (S := N 185) rfl (hRW.e9 e9M) (hRW.e7 e7M) he8 hT (by omega) (by omega) (Or.inl rfl) (fun h => absurd h (by decide))) rfl rfl rfl rfl (by decide) (by decide) rfl (Nat.le_of_ble_eq_true rfl) (by decide) (fun x43 M43 hM43 => ?_)
          obtain ⟨O, hA, hbad, hgood⟩ := hM43
          have hx : (x43 = -1 ∧ ¬ eOK X tn (ep X tn kc) ∧ O = M43) ∨ (x43 = 0 ∧ eOK X tn (ep X tn kc) ∧ O = M43) := by
            by_cases q : eOK X tn (ep X tn kc)
            · exact Or.inr ⟨((hgood q).1 rfl).1, q, ((hgood q).1 rfl).2⟩
            · exact Or.inl ⟨(hbad q).1, q, (hbad q).2⟩
          have hxR : -1 ≤ x43 ∧ x43 ≤ 0 := by rcases hx with ⟨q, _⟩ | ⟨q, _⟩ <;> omega
          refine g_istore (pc := 46) E dX6_read_46 (ls' := [_, _, _, _, _, _, _, _]) (Nat.le_of_ble_eq_true rfl) rfl ?_
          refine g_iload (pc := 48) E dX6_read_48 rfl ?_
          refine g_if_lt (pc := 50) (tgt := 68) E dX6_read_50 (by decide) (fun qh50 => ?_) (fun qh50 => ?_) 
          · have hbk : ¬ eOK X tn (ep X tn kc) ∧ O = M43 := by
              rcases hx with ⟨_, q⟩ | ⟨q, _⟩
              · exact q
              · omega
            have hF := (hRW.a8 hA).fault hI e5M (fun j hj => (hC j hj).1)
            rw [hbk.2] at hF hA
            refine g_iconst (pc := 68) E dX6_read_68 rfl ?_
            refine g_istore (pc := 69) E dX6_read_69 (ls' := [_, _, _, _, _, _, _, _]) (Nat.le_of_ble_eq_true rfl) rfl ?_
            refine g_iload (pc := 71) E dX6_read_71 rfl ?_
            refine g_if_eq (pc := 73) (tgt := 89) E dX6_read_73 (by decide) (fun qh73 => ?_) (fun qh73 => absurd qh73 (by omega)) 
            refine g_iconst (pc := 89) E dX6_read_89 rfl ?_
            refine g_istore (pc := 90) E dX6_read_90 (ls' := [_, _, _, _, _, _, _, _]) (Nat.le_of_ble_eq_true rfl) rfl ?_
            refine g_iload (pc := 92) E dX6_read_92 rfl ?_
            refine g_if_lt (pc := 94) (tgt := 102) E dX6_read_94 (by decide) (fun qh94 => ?_) (fun qh94 => absurd qh94 (by omega)) 
            refine g_aload_n (pc := 102) E dX6_read_102 (i := 0) rfl rfl ?_
            refine g_iload_n (pc := 103) E dX6_read_103 (i := 1) rfl rfl ?_
            refine g_puti (i := 184) (t := 6) (f := 11) (fz := 11) (pc := 104) E dX6_read_104 fl_X6_162 rfl (by decide) (by decide) rfl rfl ?_ 
            refine g_aload_n (pc := 107) E dX6_read_107 (i := 0) rfl rfl ?_
            refine g_iload_n (pc := 108) E dX6_read_108 (i := 2) rfl rfl ?_
            refine g_puti (i := 184) (t := 6) (f := 13) (fz := 13) (pc := 109) E dX6_read_109 fl_X6_165 rfl (by decide) (by decide) rfl rfl ?_ 
            refine g_aload_n (pc := 112) E dX6_read_112 (i := 0) rfl rfl ?_
            refine g_callVv (pc := 113) (As := []) E dX6_read_113 ml_X6_224 cv_comesBack rfl rfl rfl rfl (by decide) (by decide) rfl (Nat.le_of_ble_eq_true rfl) (by decide) (fun M113 hM113 => ?_)
            obtain rfl := hM113
            refine g_sipush (pc := 116) E dX6_read_116 rfl ?_
            refine g_aload_n (pc := 119) E dX6_read_119 (i := 0) rfl rfl ?_
            refine g_geti (i := 184) (t := 6) (f := 8) (fz := 8) (pc := 120) E dX6_read_120 fl_X6_209 rfl (by decide) (by decide) rfl rfl hF.2.2.2.2 (fun _ _ => ?_)
            refine g_isub (pc := 123) E dX6_read_123 ?_
            refine g_iret (pc := 124) E hr dX6_read_124 ?_
            exact ⟨kc, hC, Or.inl ⟨Or.inl hbk.1, by rw [hA.1], hF.1, hF.2.1, hF.2.2.1, hF.2.2.2.1⟩⟩
          · have hgk : eOK X tn (ep X tn kc) ∧ O = M43 := by
              rcases hx with ⟨q, _⟩ | ⟨_, q⟩
              · omega
              · exact q
            have hok := hgk.1
            rw [hgk.2] at hA
            have hR2 : RW S X tn M (kc + 1) w M43 := (hRW.a8 hA).rd (by omega)
            have h48 := hA.1
            have hCC : ∀ j : Nat, j < kc + 1 → eOK X tn (ep X tn j) := fun j hj => by
              by_cases q : j = kc
              · rw [q]; exact hok
              · exact (hC j (by omega)).1
            have hE := eE_R (X := X) (n := tn) (a := ep X tn kc) (by omega) (by omega)
            have hE4 := eE_4 hok
            have e9P := hR2.e9 e9M
            have e7P := hR2.e7 e7M
            refine g_aload_n (pc := 53) E dX6_read_53 (i := 0) rfl rfl ?_
            refine g_geti (i := 184) (t := 6) (f := 8) (fz := 8) (pc := 54) E dX6_read_54 fl_X6_209 rfl (by decide) (by decide) rfl rfl h48 (fun _ _ => ?_)
            refine g_aload_n (pc := 57) E dX6_read_57 (i := 0) rfl rfl ?_
            refine g_geti (i := 184) (t := 6) (f := 7) (fz := 7) (pc := 58) E dX6_read_58 fl_X6_206 rfl (by decide) (by decide) rfl rfl e7P (fun _ _ => ?_)
            refine g_icmp_ge (pc := 61) (tgt := 68) E dX6_read_61 (by decide) (fun qh61 => ?_) (fun qh61 => ?_) 
            · refine g_iconst (pc := 68) E dX6_read_68 rfl ?_
              refine g_istore (pc := 69) E dX6_read_69 (ls' := [_, _, _, _, _, _, _, _]) (Nat.le_of_ble_eq_true rfl) rfl ?_
              refine g_iload (pc := 71) E dX6_read_71 rfl ?_
              refine g_if_eq (pc := 73) (tgt := 89) E dX6_read_73 (by decide) (fun qh73 => ?_) (fun qh73 => absurd qh73 (by omega)) 
              refine g_iconst (pc := 89) E dX6_read_89 rfl ?_
              refine g_istore (pc := 90) E dX6_read_90 (ls' := [_, _, _, _, _, _, _, _]) (Nat.le_of_ble_eq_true rfl) rfl ?_
              refine g_iload (pc := 92) E dX6_read_92 rfl ?_
              refine g_if_lt (pc := 94) (tgt := 102) E dX6_read_94 (by decide) (fun qh94 => absurd qh94 (by omega)) (fun qh94 => ?_) 
              refine g_iload (pc := 97) E dX6_read_97 rfl ?_
              refine g_if_eq (pc := 99) (tgt := 125) E dX6_read_99 (by decide) (fun qh99 => ?_) (fun qh99 => absurd qh99 (by omega)) 
              refine g_iload (pc := 125) E dX6_read_125 rfl ?_
              refine g_if_le (pc := 127) (tgt := 138) E dX6_read_127 (by decide) (fun qh127 => ?_) (fun qh127 => absurd qh127 (by omega)) 
              refine g_iinc (pc := 138) E dX6_read_138 (ls' := [_, _, _, _, _, _, _, _]) rfl rfl rfl ?_
              refine g_goto (pc := 141) (tgt := 27) E dX6_read_141 (by decide) ?_
              exact g_wk2 (ih27 M43 (kc + 1) (w) 0 (by omega) (Or.inl rfl) ⟨fun h => absurd h (by decide), fun _ => ⟨kc, rfl, hC, hok, by omega⟩⟩ hR2 (by omega)) ⟨rfl, rfl, rfl, rfl, rfl, rfl, trivial⟩
            · refine g_iconst (pc := 64) E dX6_read_64 rfl ?_
              refine g_goto (pc := 65) (tgt := 69) E dX6_read_65 (by decide) ?_
              refine g_istore (pc := 69) E dX6_read_69 (ls' := [_, _, _, _, _, _, _, _]) (Nat.le_of_ble_eq_true rfl) rfl ?_
              refine g_iload (pc := 71) E dX6_read_71 rfl ?_
              refine g_if_eq (pc := 73) (tgt := 89) E dX6_read_73 (by decide) (fun qh73 => absurd qh73 (by omega)) (fun qh73 => ?_) 
              refine g_aload_n (pc := 76) E dX6_read_76 (i := 0) rfl rfl ?_
              refine g_bipush (pc := 77) E dX6_read_77 rfl ?_
              refine g_callV (pc := 79) (As := [_]) E dX6_read_79 ml_X6_218 (ct_takes e9P e7P h48 hT (by omega) (by omega) (by omega)) rfl rfl rfl rfl (by decide) (by decide) rfl (Nat.le_of_ble_eq_true rfl) (by decide) (fun x79 M79 hM79 => ?_)
              obtain ⟨rfl, rfl⟩ := hM79
              refine g_if_ne (pc := 82) (tgt := 89) E dX6_read_82 (by decide) (fun qh82 => ?_) (fun qh82 => ?_) (Int.le_trans (by decide) (bi_R _).1) (Int.le_trans (bi_R _).2 (by decide))
              · replace qh82 := bi_n.mp qh82
                refine g_mem (if_pos qh82) ?_
                obtain ⟨MX, hMXe⟩ : ∃ MX, st M43 184 8 (eE X tn (ep X tn kc) + 1) = MX := ⟨_, rfl⟩
                refine g_mem hMXe ?_
                have hAX : A8 M43 MX (eE X tn (ep X tn kc) + 1) := hMXe ▸ (A8.rf h48).st _
                have hMX8 : MX 184 8 = ep X tn (kc + 1) := hAX.1
                have hE1 : ep X tn (kc + 1) = eE X tn (ep X tn kc) + 1 := rfl
                refine g_iconst (pc := 89) E dX6_read_89 rfl ?_
                refine g_istore (pc := 90) E dX6_read_90 (ls' := [_, _, _, _, _, _, _, _]) (Nat.le_of_ble_eq_true rfl) rfl ?_
                refine g_iload (pc := 92) E dX6_read_92 rfl ?_
                refine g_if_lt (pc := 94) (tgt := 102) E dX6_read_94 (by decide) (fun qh94 => absurd qh94 (by omega)) (fun qh94 => ?_) 
                refine g_iload (pc := 97) E dX6_read_97 rfl ?_
                refine g_if_eq (pc := 99) (tgt := 125) E dX6_read_99 (by decide) (fun qh99 => ?_) (fun qh99 => absurd qh99 (by omega)) 
                refine g_iload (pc := 125) E dX6_read_125 rfl ?_
                refine g_if_le (pc := 127) (tgt := 138) E dX6_read_127 (by decide) (fun qh127 => ?_) (fun qh127 => absurd qh127 (by omega)) 
                refine g_iinc (pc := 138) E dX6_read_138 (ls' := [_, _, _, _, _, _, _, _]) rfl rfl rfl ?_
                refine g_goto (pc := 141) (tgt := 27) E dX6_read_141 (by decide) ?_
                exact g_wk2 (ih27 MX (kc + 1) (w) 1 (by rw [hMX8]; omega) (Or.inr rfl) ⟨fun _ => ⟨hC.s hok (by omega) qh82, hMX8⟩, fun h => absurd h (by decide)⟩ (RW.a8 hR2 hAX) (by rw [hMX8]; omega)) ⟨rfl, rfl, rfl, rfl, rfl, rfl, trivial⟩
              · replace qh82 := bi_0.mp qh82
                refine g_mem (if_neg qh82) ?_
                have hF2 := hR2.fault hI e5M hCC
                refine g_iconst (pc := 85) E dX6_read_85 rfl ?_
                refine g_goto (pc := 86) (tgt := 90) E dX6_read_86 (by decide) ?_
                refine g_istore (pc := 90) E dX6_read_90 (ls' := [_, _, _, _, _, _, _, _]) (Nat.le_of_ble_eq_true rfl) rfl ?_
                refine g_iload (pc := 92) E dX6_read_92 rfl ?_
                refine g_if_lt (pc := 94) (tgt := 102) E dX6_read_94 (by decide) (fun qh94 => absurd qh94 (by omega)) (fun qh94 => ?_) 
                refine g_iload (pc := 97) E dX6_read_97 rfl ?_
                refine g_if_eq (pc := 99) (tgt := 125) E dX6_read_99 (by decide) (fun qh99 => absurd qh99 (by omega)) (fun qh99 => ?_) 
                refine g_aload_n (pc := 102) E dX6_read_102 (i := 0) rfl rfl ?_
                refine g_iload_n (pc := 103) E dX6_read_103 (i := 1) rfl rfl ?_
                refine g_puti (i := 184) (t := 6) (f := 11) (fz := 11) (pc := 104) E dX6_read_104 fl_X6_162 rfl (by decide) (by decide) rfl rfl ?_ 
                refine g_aload_n (pc := 107) E dX6_read_107 (i := 0) rfl rfl ?_
                refine g_iload_n (pc := 108) E dX6_read_108 (i := 2) rfl rfl ?_
                refine g_puti (i := 184) (t := 6) (f := 13) (fz := 13) (pc := 109) E dX6_read_109 fl_X6_165 rfl (by decide) (by decide) rfl rfl ?_ 
                refine g_aload_n (pc := 112) E dX6_read_112 (i := 0) rfl rfl ?_
                refine g_callVv (pc := 113) (As := []) E dX6_read_113 ml_X6_224 cv_comesBack rfl rfl rfl rfl (by decide) (by decide) rfl (Nat.le_of_ble_eq_true rfl) (by decide) (fun M113 hM113 => ?_)
                obtain rfl := hM113
                refine g_sipush (pc := 116) E dX6_read_116 rfl ?_
                refine g_aload_n (pc := 119) E dX6_read_119 (i := 0) rfl rfl ?_
                refine g_geti (i := 184) (t := 6) (f := 8) (fz := 8) (pc := 120) E dX6_read_120 fl_X6_209 rfl (by decide) (by decide) rfl rfl hF2.2.2.2.2 (fun _ _ => ?_)
                refine g_isub (pc := 123) E dX6_read_123 ?_
                refine g_iret (pc := 124) E hr dX6_read_124 ?_
                exact ⟨kc, hC, Or.inl ⟨Or.inr ⟨hok, by omega, qh82⟩, by rw [h48], hF2.1, hF2.2.1, hF2.2.2.1, hF2.2.2.2.1⟩⟩
        · refine g_iconst (pc := 38) E dX6_read_38 rfl ?_
          refine g_goto (pc := 39) (tgt := 43) E dX6_read_39 (by decide) ?_
          refine g_callV (pc := 43) (As := [_]) E dX6_read_43 ml_X6_221 (ct_entry (S := apN S X tn kc) (hRW.si hI hC (by omega)).2 (hRW.e9 e9M) (hRW.e7 e7M) he8 hT (by omega) (by omega) (Or.inr rfl) (fun _ => (hRW.si hI hC (by omega)).1)) rfl rfl rfl rfl (by decide) (by decide) rfl (Nat.le_of_ble_eq_true rfl) (by decide) (fun x43 M43 hM43 => ?_)
          obtain ⟨O, hA, hbad, hgood⟩ := hM43
          have hx : (x43 = -1 ∧ ¬ eOK X tn (ep X tn kc) ∧ O = M43) ∨ (0 ≤ x43 ∧ x43 ≤ 7 ∧ eOK X tn (ep X tn kc) ∧ ENT (apN S X tn kc) (hereS X tn (ep X tn kc)) (eSt X tn (ep X tn kc)) (ePa X tn (ep X tn kc)) (eRw X tn (ep X tn kc)) O M43 x43) := by
            by_cases q : eOK X tn (ep X tn kc)
            · have h1 := (hgood q).2 rfl
              have h2 := reS_R (apN S X tn kc) (hereS X tn (ep X tn kc)) (eSt X tn (ep X tn kc)) (ePa X tn (ep X tn kc)) (eRw X tn (ep X tn kc))
              have h3 := h1.1
              exact Or.inr ⟨by omega, by omega, q, h1⟩
            · exact Or.inl ⟨(hbad q).1, q, (hbad q).2⟩
          have hxR : -1 ≤ x43 ∧ x43 ≤ 7 := by rcases hx with ⟨q, _⟩ | ⟨q, q2, _⟩ <;> omega
          refine g_istore (pc := 46) E dX6_read_46 (ls' := [_, _, _, _, _, _, _, _]) (Nat.le_of_ble_eq_true rfl) rfl ?_
          refine g_iload (pc := 48) E dX6_read_48 rfl ?_
          refine g_if_lt (pc := 50) (tgt := 68) E dX6_read_50 (by decide) (fun qh50 => ?_) (fun qh50 => ?_) 
          · have hbk : ¬ eOK X tn (ep X tn kc) ∧ O = M43 := by
              rcases hx with ⟨_, q⟩ | ⟨q, _⟩
              · exact q
              · omega
            have hF := (hRW.a8 hA).fault hI e5M (fun j hj => (hC j hj).1)
            rw [hbk.2] at hF hA
            refine g_iconst (pc := 68) E dX6_read_68 rfl ?_
            refine g_istore (pc := 69) E dX6_read_69 (ls' := [_, _, _, _, _, _, _, _]) (Nat.le_of_ble_eq_true rfl) rfl ?_
            refine g_iload (pc := 71) E dX6_read_71 rfl ?_
            refine g_if_eq (pc := 73) (tgt := 89) E dX6_read_73 (by decide) (fun qh73 => ?_) (fun qh73 => absurd qh73 (by omega)) 
            refine g_iconst (pc := 89) E dX6_read_89 rfl ?_
            refine g_istore (pc := 90) E dX6_read_90 (ls' := [_, _, _, _, _, _, _, _]) (Nat.le_of_ble_eq_true rfl) rfl ?_
            refine g_iload (pc := 92) E dX6_read_92 rfl ?_
            refine g_if_lt (pc := 94) (tgt := 102) E dX6_read_94 (by decide) (fun qh94 => ?_) (fun qh94 => absurd qh94 (by omega)) 
            refine g_aload_n (pc := 102) E dX6_read_102 (i := 0) rfl rfl ?_
            refine g_iload_n (pc := 103) E dX6_read_103 (i := 1) rfl rfl ?_
            refine g_puti (i := 184) (t := 6) (f := 11) (fz := 11) (pc := 104) E dX6_read_104 fl_X6_162 rfl (by decide) (by decide) rfl rfl ?_ 
            refine g_aload_n (pc := 107) E dX6_read_107 (i := 0) rfl rfl ?_
            refine g_iload_n (pc := 108) E dX6_read_108 (i := 2) rfl rfl ?_
            refine g_puti (i := 184) (t := 6) (f := 13) (fz := 13) (pc := 109) E dX6_read_109 fl_X6_165 rfl (by decide) (by decide) rfl rfl ?_ 
            refine g_aload_n (pc := 112) E dX6_read_112 (i := 0) rfl rfl ?_
            refine g_callVv (pc := 113) (As := []) E dX6_read_113 ml_X6_224 cv_comesBack rfl rfl rfl rfl (by decide) (by decide) rfl (Nat.le_of_ble_eq_true rfl) (by decide) (fun M113 hM113 => ?_)
            obtain rfl := hM113
            refine g_sipush (pc := 116) E dX6_read_116 rfl ?_
            refine g_aload_n (pc := 119) E dX6_read_119 (i := 0) rfl rfl ?_
            refine g_geti (i := 184) (t := 6) (f := 8) (fz := 8) (pc := 120) E dX6_read_120 fl_X6_209 rfl (by decide) (by decide) rfl rfl hF.2.2.2.2 (fun _ _ => ?_)
            refine g_isub (pc := 123) E dX6_read_123 ?_
            refine g_iret (pc := 124) E hr dX6_read_124 ?_
            exact ⟨kc, hC, Or.inl ⟨Or.inl hbk.1, by rw [hA.1], hF.1, hF.2.1, hF.2.2.1, hF.2.2.2.1⟩⟩
          · have hgk : eOK X tn (ep X tn kc) ∧ ENT (apN S X tn kc) (hereS X tn (ep X tn kc)) (eSt X tn (ep X tn kc)) (ePa X tn (ep X tn kc)) (eRw X tn (ep X tn kc)) O M43 x43 := by
              rcases hx with ⟨q, _⟩ | ⟨_, _, q⟩
              · omega
              · exact q
            have hok := hgk.1
            have hR3 : RW S X tn M (kc + 1) (if x43 = 0 then w else kc) M43 ∧ M43 184 8 = eE X tn (ep X tn kc) := by
              split
              · next q => exact hRW.ok (by omega) hA hgk.2 q
              · next q => exact hRW.no (by omega) hA hgk.2 q
            have hR2 := hR3.1
            have h48 := hR3.2
            have hCC : ∀ j : Nat, j < kc + 1 → eOK X tn (ep X tn j) := fun j hj => by
              by_cases q : j = kc
              · rw [q]; exact hok
              · exact (hC j (by omega)).1
            have hE := eE_R (X := X) (n := tn) (a := ep X tn kc) (by omega) (by omega)
            have hE4 := eE_4 hok
            have e9P := hR2.e9 e9M
            have e7P := hR2.e7 e7M
            refine g_aload_n (pc := 53) E dX6_read_53 (i := 0) rfl rfl ?_
            refine g_geti (i := 184) (t := 6) (f := 8) (fz := 8) (pc := 54) E dX6_read_54 fl_X6_209 rfl (by decide) (by decide) rfl rfl h48 (fun _ _ => ?_)
            refine g_aload_n (pc := 57) E dX6_read_57 (i := 0) rfl rfl ?_
            refine g_geti (i := 184) (t := 6) (f := 7) (fz := 7) (pc := 58) E dX6_read_58 fl_X6_206 rfl (by decide) (by decide) rfl rfl e7P (fun _ _ => ?_)
            refine g_icmp_ge (pc := 61) (tgt := 68) E dX6_read_61 (by decide) (fun qh61 => ?_) (fun qh61 => ?_) 
            · refine g_iconst (pc := 68) E dX6_read_68 rfl ?_
              refine g_istore (pc := 69) E dX6_read_69 (ls' := [_, _, _, _, _, _, _, _]) (Nat.le_of_ble_eq_true rfl) rfl ?_
              refine g_iload (pc := 71) E dX6_read_71 rfl ?_
              refine g_if_eq (pc := 73) (tgt := 89) E dX6_read_73 (by decide) (fun qh73 => ?_) (fun qh73 => absurd qh73 (by omega)) 
              refine g_iconst (pc := 89) E dX6_read_89 rfl ?_
              refine g_istore (pc := 90) E dX6_read_90 (ls' := [_, _, _, _, _, _, _, _]) (Nat.le_of_ble_eq_true rfl) rfl ?_
              refine g_iload (pc := 92) E dX6_read_92 rfl ?_
              refine g_if_lt (pc := 94) (tgt := 102) E dX6_read_94 (by decide) (fun qh94 => absurd qh94 (by omega)) (fun qh94 => ?_) 
              refine g_iload (pc := 97) E dX6_read_97 rfl ?_
              refine g_if_eq (pc := 99) (tgt := 125) E dX6_read_99 (by decide) (fun qh99 => ?_) (fun qh99 => absurd qh99 (by omega)) 
              refine g_iload (pc := 125) E dX6_read_125 rfl ?_
              refine g_if_le (pc := 127) (tgt := 138) E dX6_read_127 (by decide) (fun qh127 => ?_) (fun qh127 => ?_) 
              · refine g_iinc (pc := 138) E dX6_read_138 (ls' := [_, _, _, _, _, _, _, _]) rfl rfl rfl ?_
                refine g_goto (pc := 141) (tgt := 27) E dX6_read_141 (by decide) ?_
                exact g_wk2 (ih27 M43 (kc + 1) (w) 0 (by omega) (Or.inl rfl) ⟨fun h => absurd h (by decide), fun _ => ⟨kc, rfl, hC, hok, by omega⟩⟩ (by rw [if_pos (by omega)] at hR2; exact hR2) (by omega)) ⟨rfl, rfl, rfl, rfl, rfl, rfl, trivial⟩
              · refine g_iload (pc := 130) E dX6_read_130 rfl ?_
                refine g_if_ge (pc := 132) (tgt := 138) E dX6_read_132 (by decide) (fun qh132 => absurd qh132 (by omega)) (fun qh132 => ?_) 
                refine g_iload_n (pc := 135) E dX6_read_135 (i := 3) rfl rfl ?_
                refine g_istore (pc := 136) E dX6_read_136 (ls' := [_, _, _, _, _, _, _, _]) (Nat.le_of_ble_eq_true rfl) rfl ?_
                refine g_iinc (pc := 138) E dX6_read_138 (ls' := [_, _, _, _, _, _, _, _]) rfl rfl rfl ?_
                refine g_goto (pc := 141) (tgt := 27) E dX6_read_141 (by decide) ?_
                exact g_wk2 (ih27 M43 (kc + 1) (kc) 0 (by omega) (Or.inl rfl) ⟨fun h => absurd h (by decide), fun _ => ⟨kc, rfl, hC, hok, by omega⟩⟩ (by rw [if_neg (by omega)] at hR2; exact hR2) (by omega)) ⟨rfl, rfl, rfl, rfl, rfl, rfl, trivial⟩
            · refine g_iconst (pc := 64) E dX6_read_64 rfl ?_
              refine g_goto (pc := 65) (tgt := 69) E dX6_read_65 (by decide) ?_
              refine g_istore (pc := 69) E dX6_read_69 (ls' := [_, _, _, _, _, _, _, _]) (Nat.le_of_ble_eq_true rfl) rfl ?_
              refine g_iload (pc := 71) E dX6_read_71 rfl ?_
              refine g_if_eq (pc := 73) (tgt := 89) E dX6_read_73 (by decide) (fun qh73 => absurd qh73 (by omega)) (fun qh73 => ?_) 
              refine g_aload_n (pc := 76) E dX6_read_76 (i := 0) rfl rfl ?_
              refine g_bipush (pc := 77) E dX6_read_77 rfl ?_
              refine g_callV (pc := 79) (As := [_]) E dX6_read_79 ml_X6_218 (ct_takes e9P e7P h48 hT (by omega) (by omega) (by omega)) rfl rfl rfl rfl (by decide) (by decide) rfl (Nat.le_of_ble_eq_true rfl) (by decide) (fun x79 M79 hM79 => ?_)
              obtain ⟨rfl, rfl⟩ := hM79
              refine g_if_ne (pc := 82) (tgt := 89) E dX6_read_82 (by decide) (fun qh82 => ?_) (fun qh82 => ?_) (Int.le_trans (by decide) (bi_R _).1) (Int.le_trans (bi_R _).2 (by decide))
              · replace qh82 := bi_n.mp qh82
                refine g_mem (if_pos qh82) ?_
                obtain ⟨MX, hMXe⟩ : ∃ MX, st M43 184 8 (eE X tn (ep X tn kc) + 1) = MX := ⟨_, rfl⟩
                refine g_mem hMXe ?_
                have hAX : A8 M43 MX (eE X tn (ep X tn kc) + 1) := hMXe ▸ (A8.rf h48).st _
                have hMX8 : MX 184 8 = ep X tn (kc + 1) := hAX.1
                have hE1 : ep X tn (kc + 1) = eE X tn (ep X tn kc) + 1 := rfl
                refine g_iconst (pc := 89) E dX6_read_89 rfl ?_
                refine g_istore (pc := 90) E dX6_read_90 (ls' := [_, _, _, _, _, _, _, _]) (Nat.le_of_ble_eq_true rfl) rfl ?_
                refine g_iload (pc := 92) E dX6_read_92 rfl ?_
                refine g_if_lt (pc := 94) (tgt := 102) E dX6_read_94 (by decide) (fun qh94 => absurd qh94 (by omega)) (fun qh94 => ?_) 
                refine g_iload (pc := 97) E dX6_read_97 rfl ?_
                refine g_if_eq (pc := 99) (tgt := 125) E dX6_read_99 (by decide) (fun qh99 => ?_) (fun qh99 => absurd qh99 (by omega)) 
                refine g_iload (pc := 125) E dX6_read_125 rfl ?_
                refine g_if_le (pc := 127) (tgt := 138) E dX6_read_127 (by decide) (fun qh127 => ?_) (fun qh127 => ?_) 
                · refine g_iinc (pc := 138) E dX6_read_138 (ls' := [_, _, _, _, _, _, _, _]) rfl rfl rfl ?_
                  refine g_goto (pc := 141) (tgt := 27) E dX6_read_141 (by decide) ?_
                  exact g_wk2 (ih27 MX (kc + 1) (w) 1 (by rw [hMX8]; omega) (Or.inr rfl) ⟨fun _ => ⟨hC.s hok (by omega) qh82, hMX8⟩, fun h => absurd h (by decide)⟩ (RW.a8 (by rw [if_pos (by omega)] at hR2; exact hR2) hAX) (by rw [hMX8]; omega)) ⟨rfl, rfl, rfl, rfl, rfl, rfl, trivial⟩
                · refine g_iload (pc := 130) E dX6_read_130 rfl ?_
                  refine g_if_ge (pc := 132) (tgt := 138) E dX6_read_132 (by decide) (fun qh132 => absurd qh132 (by omega)) (fun qh132 => ?_) 
                  refine g_iload_n (pc := 135) E dX6_read_135 (i := 3) rfl rfl ?_
                  refine g_istore (pc := 136) E dX6_read_136 (ls' := [_, _, _, _, _, _, _, _]) (Nat.le_of_ble_eq_true rfl) rfl ?_
                  refine g_iinc (pc := 138) E dX6_read_138 (ls' := [_, _, _, _, _, _, _, _]) rfl rfl rfl ?_
                  refine g_goto (pc := 141) (tgt := 27) E dX6_read_141 (by decide) ?_
                  exact g_wk2 (ih27 MX (kc + 1) (kc) 1 (by rw [hMX8]; omega) (Or.inr rfl) ⟨fun _ => ⟨hC.s hok (by omega) qh82, hMX8⟩, fun h => absurd h (by decide)⟩ (RW.a8 (by rw [if_neg (by omega)] at hR2; exact hR2) hAX) (by rw [hMX8]; omega)) ⟨rfl, rfl, rfl, rfl, rfl, rfl, trivial⟩
              · replace qh82 := bi_0.mp qh82
                refine g_mem (if_neg qh82) ?_
                have hF2 := hR2.fault hI e5M hCC
                refine g_iconst (pc := 85) E dX6_read_85 rfl ?_
                refine g_goto (pc := 86) (tgt := 90) E dX6_read_86 (by decide) ?_
                refine g_istore (pc := 90) E dX6_read_90 (ls' := [_, _, _, _, _, _, _, _]) (Nat.le_of_ble_eq_true rfl) rfl ?_
                refine g_iload (pc := 92) E dX6_read_92 rfl ?_
                refine g_if_lt (pc := 94) (tgt := 102) E dX6_read_94 (by decide) (fun qh94 => absurd qh94 (by omega)) (fun qh94 => ?_) 
                refine g_iload (pc := 97) E dX6_read_97 rfl ?_
                refine g_if_eq (pc := 99) (tgt := 125) E dX6_read_99 (by decide) (fun qh99 => absurd qh99 (by omega)) (fun qh99 => ?_) 
                refine g_aload_n (pc := 102) E dX6_read_102 (i := 0) rfl rfl ?_
                refine g_iload_n (pc := 103) E dX6_read_103 (i := 1) rfl rfl ?_
                refine g_puti (i := 184) (t := 6) (f := 11) (fz := 11) (pc := 104) E dX6_read_104 fl_X6_162 rfl (by decide) (by decide) rfl rfl ?_ 
                refine g_aload_n (pc := 107) E dX6_read_107 (i := 0) rfl rfl ?_
                refine g_iload_n (pc := 108) E dX6_read_108 (i := 2) rfl rfl ?_
                refine g_puti (i := 184) (t := 6) (f := 13) (fz := 13) (pc := 109) E dX6_read_109 fl_X6_165 rfl (by decide) (by decide) rfl rfl ?_ 
                refine g_aload_n (pc := 112) E dX6_read_112 (i := 0) rfl rfl ?_
                refine g_callVv (pc := 113) (As := []) E dX6_read_113 ml_X6_224 cv_comesBack rfl rfl rfl rfl (by decide) (by decide) rfl (Nat.le_of_ble_eq_true rfl) (by decide) (fun M113 hM113 => ?_)
                obtain rfl := hM113
                refine g_sipush (pc := 116) E dX6_read_116 rfl ?_
                refine g_aload_n (pc := 119) E dX6_read_119 (i := 0) rfl rfl ?_
                refine g_geti (i := 184) (t := 6) (f := 8) (fz := 8) (pc := 120) E dX6_read_120 fl_X6_209 rfl (by decide) (by decide) rfl rfl hF2.2.2.2.2 (fun _ _ => ?_)
                refine g_isub (pc := 123) E dX6_read_123 ?_
                refine g_iret (pc := 124) E hr dX6_read_124 ?_
                exact ⟨kc, hC, Or.inl ⟨Or.inr ⟨hok, by omega, qh82⟩, by rw [h48], hF2.1, hF2.2.1, hF2.2.2.1, hF2.2.2.2.1⟩⟩
  exact g_wk2 (LP27 (tn + 2).toNat _ 0 (-1) 1 (by rw [st_self]; omega) (Or.inr rfl) ⟨fun _ => ⟨fun j hj => absurd hj (by omega), st_self _ _ _ _⟩, fun h => absurd h (by decide)⟩ ⟨fun i a b => st_ne a, fun f a b d => by rw [st_off a, tri_ne (by decide)], Or.inl ⟨rfl, fun j hj => absurd hj (by omega), by rw [st_ne (by decide), tri_ne (by decide)]; exact e5, by rw [st_off (by decide), tri_ne (by decide)], by rw [st_off (by decide), tri_ne (by decide)]⟩⟩ (by rw [st_self]; omega)) ⟨rfl, rfl, rfl, rfl, rfl, rfl, trivial⟩
