/-! the class's standing of a student: small methods -/
theorem pcnt_vF {S : Int → Int} (hV : SOK S) (m : Int) : 0 < pcnt S m ↔ 0 < sz (vF S m) (S 6) := by
  have h0 := hV.1
  have a : sz (vF S m) (S 6) ≤ 9 * pcnt S m := smN_le' 9 _ (fun p p0 p1 => by
    have := hV.2.2.1 p p0 (by omega)
    unfold vF pcF
    split <;> omega)
  have b : pcnt S m ≤ 1 * sz (vF S m) (S 6) := smN_le' 1 _ (fun p p0 p1 => by
    have := hV.2.2.1 p p0 (by omega)
    unfold vF pcF
    split <;> omega)
  omega
theorem pcnt_R8 {S : Int → Int} (hV : SOK S) (m : Int) : 0 ≤ pcnt S m ∧ pcnt S m ≤ 8 := by
  have h0 := hV.1
  have := sz_R (f := pcF S m) (a := 0) (b := 1) (x := S 6) (by omega) (fun j _ _ => pcF_R S m j)
  unfold pcnt
  omega
/-- a module with a mark counts -/
theorem inS_pc {S mk : Int → Int} (hV : SOK S) {m : Int} (h : 0 ≤ inS S mk m) : 0 < pcnt S m := by
  rw [pcnt_vF hV]
  unfold inS at h
  split at h
  · next q => exact q.2
  · omega
/-- points of the modules that are whole -/
def pwF (S mk : Int → Int) (m : Int) : Int := if 0 < pcnt S m ∧ 0 ≤ inS S mk m then inS S mk m * S (9 + m) else 0
def apF (S mk : Int → Int) (m : Int) : Int := if 0 < pcnt S m ∧ ¬ psM S mk m then 1 else 0
def pvF (S mk : Int → Int) (m v p : Int) : Int := if S (13 + 3 * p) = m ∧ stA S mk p = v then 1 else 0
def pwS (S mk : Int → Int) : Int := sz (pwF S mk) (S 5)
theorem sz_fi {f : Int → Int} (hf : ∀ j, f j = 0 ∨ f j = 1) : ∀ k : Nat, (sz f k = 0 ↔ fi f k = -1) ∧ 0 ≤ sz f k
  | 0 => ⟨⟨fun _ => rfl, fun _ => rfl⟩, Int.le_refl _⟩
  | k + 1 => by
    have ih := sz_fi hf k
    have e : ((k + 1 : Nat) : Int) = (k : Int) + 1 := rfl
    rw [e, sz_s (by omega), fi_s (by omega)]
    have hR := fi_R f (n := (k : Int)) (by omega)
    rcases hf k with q | q
    · rw [q, if_neg (show ¬ (0 : Int) = 1 by decide)]
      refine ⟨⟨fun z => ?_, fun z => ?_⟩, by omega⟩
      · have := ih.1.mp (by omega)
        rw [if_neg (by omega)]
      · split at z
        · omega
        · have := ih.1.mpr (by omega); omega
    · rw [q, if_pos rfl]
      refine ⟨⟨fun z => ?_, fun z => ?_⟩, by omega⟩
      · omega
      · split at z <;> omega
theorem misF_01 (S mk : Int → Int) (m : Int) : misF S mk m = 0 ∨ misF S mk m = 1 := by unfold misF; split <;> omega
theorem apF_01 (S mk : Int → Int) (m : Int) : apF S mk m = 0 ∨ apF S mk m = 1 := by unfold apF; split <;> omega
theorem f3_01 (S mk : Int → Int) (m : Int) : f3 S mk m = 0 ∨ f3 S mk m = 1 := by unfold f3; split <;> omega
theorem mis_sz {S mk : Int → Int} (hV : SOK S) : sz (misF S mk) (S 5) = 0 ↔ misS S mk = -1 := by
  have h0 := hV.1
  have := (sz_fi (misF_01 S mk) (S 5).toNat).1
  rw [Int.toNat_of_nonneg (by omega)] at this
  exact this
/-- whether all that counts was passed, is whether no paper failed -/
theorem ap_lost {S mk : Int → Int} (hV : SOK S) (hi : ¬ incS S mk) : sz (apF S mk) (S 5) = 0 ↔ lostS S mk < 0 := by
  have h0 := hV.1
  have hmi : misS S mk = -1 := by
    have := fi_R (misF S mk) (n := S 5) (by omega)
    unfold incS at hi
    have e : misS S mk = fi (misF S mk) (S 5) := rfl
    omega
  have hw : ∀ m, 0 ≤ m → m < S 5 → 0 < pcnt S m → 0 ≤ inS S mk m := fun m a b q => by
    rcases fi_is (misF S mk) (n := S 5) (by omega) with ⟨_, z⟩ | ⟨z, _⟩
    · have z := z m a b
      unfold misF at z
      split at z
      · omega
      · omega
    · have e : misS S mk = fi (misF S mk) (S 5) := rfl
      omega
  constructor
  · intro hz
    have hR := fi_R (f3 S mk) (n := S 6) (by omega)
    by_cases q : lostS S mk < 0
    · exact q
    · exfalso
      rcases fi_is (f3 S mk) (n := S 6) (by omega) with ⟨z, _⟩ | ⟨z1, z2, z3, _⟩
      · have e : lostS S mk = fi (f3 S mk) (S 6) := rfl
        omega
      · have hp := hV.2.2.1 _ z1 z2
        have hst : stA S mk (fi (f3 S mk) (S 6)) = 3 := by
          unfold f3 at z3
          split at z3
          · assumption
          · omega
        have h1 : f3F S mk (S (13 + 3 * fi (f3 S mk) (S 6))) (fi (f3 S mk) (S 6)) = 1 := if_pos ⟨rfl, hst⟩
        have h2 := sz_ge (f := f3F S mk (S (13 + 3 * fi (f3 S mk) (S 6)))) (n := S 6) (x := fi (f3 S mk) (S 6)) (fun j _ _ => by unfold f3F; split <;> omega) z1 z2
        have h3 : pcF S (S (13 + 3 * fi (f3 S mk) (S 6))) (fi (f3 S mk) (S 6)) = 1 := if_pos rfl
        have h4 := sz_ge (f := pcF S (S (13 + 3 * fi (f3 S mk) (S 6)))) (n := S 6) (x := fi (f3 S mk) (S 6)) (fun j _ _ => (pcF_R _ _ _).1) z1 z2
        have h5 : 0 < pcnt S (S (13 + 3 * fi (f3 S mk) (S 6))) := by unfold pcnt; omega
        have h6 : apF S mk (S (13 + 3 * fi (f3 S mk) (S 6))) = 1 := if_pos ⟨h5, fun w => by have := w.2; omega⟩
        have h7 := sz_ge (f := apF S mk) (n := S 5) (x := S (13 + 3 * fi (f3 S mk) (S 6))) (fun j _ _ => by rcases apF_01 S mk j with w | w <;> omega) hp.1 hp.2.1
        omega
  · intro hl
    refine sz_z (fun m a b => if_neg (fun w => w.2 ⟨hw m a b w.1, ?_⟩))
    refine sz_z (fun p c d => if_neg (fun z => ?_))
    rcases fi_is (f3 S mk) (n := S 6) (by omega) with ⟨_, y⟩ | ⟨y, _⟩
    · exact y p c d (if_pos z.2)
    · have e : lostS S mk = fi (f3 S mk) (S 6) := rfl
      omega
theorem pw_pt {S mk : Int → Int} (hV : SOK S) (hi : ¬ incS S mk) : pwS S mk = ptS S mk := by
  have h0 := hV.1
  refine sz_c (fun m a b => ?_)
  rcases fi_is (misF S mk) (n := S 5) (by omega) with ⟨_, z⟩ | ⟨z, _⟩
  · have z := z m a b
    unfold misF at z
    unfold pwF ptF
    by_cases q : 0 < pcnt S m
    · have q2 : 0 ≤ inS S mk m := by
        split at z
        · omega
        · omega
      rw [if_pos ⟨q, q2⟩, if_pos q, Int.mul_comm]
    · rw [if_neg (fun w => q w.1), if_neg q]
  · unfold incS at hi
    have e : misS S mk = fi (misF S mk) (S 5) := rfl
    omega
theorem pwF_R {S mk : Int → Int} (hV : SOK S) (hm : mkOK S mk) {m : Int} (h0 : 0 ≤ m) (h1 : m < S 5) : 0 ≤ pwF S mk m ∧ pwF S mk m ≤ 900 := by
  have a := hV.2.1 m h0 h1
  have b := inS_R hV hm m
  unfold pwF
  split
  · next q =>
    have c := mulR (a := inS S mk m) (b := S (9 + m)) (A := 100) (B := 9) (by omega) (by omega) (by omega) (by omega)
    have d : 0 ≤ inS S mk m * S (9 + m) := Int.mul_nonneg q.2 (by omega)
    omega
  · omega
theorem pwS_R {S mk : Int → Int} (hV : SOK S) (hm : mkOK S mk) {x : Int} (h0 : 0 ≤ x) (h1 : x ≤ S 5) : 0 ≤ sz (pwF S mk) x ∧ sz (pwF S mk) x ≤ 3600 := by
  have a := hV.1
  have b := sz_R (f := pwF S mk) (a := 0) (b := 900) h0 (fun j j0 j1 => pwF_R hV hm j0 (by omega))
  omega
theorem av_lt {p a L : Int} (h : 0 < a) : p < L * a ↔ 100 * p / a < 100 * L := by
  rw [Int.ediv_lt_iff_lt_mul h, Int.mul_assoc]
  omega

theorem ct_isWhole {cx : Cx} {M : Mem} {S : Int → Int} (hB : BD M S) (hV : SOK S) {mk : Int → Int} (hm : mkOK S mk) (hin : ∀ m, 0 ≤ m → m < S 5 → M 170 m = inS S mk m) {mn : Int} (hm0 : 0 ≤ mn) (hm1 : mn < S 5) : Ct cx yX4_isWhole cX4_isWhole 2 (some .boolean) 1 0 0 [rf cx 167, .int (oi mn)] M (fun rz M' => bi (0 ≤ inS S mk mn) = rz ∧ M = M') := by
  refine ct_intro cd_X4_isWhole (by decide +kernel) (Nat.le_of_ble_eq_true rfl) rfl (fun Pg Lc Ev s m args below meth c E hr => ?_)
  refine g_ent (ls' := [some (rf cx 167), some (.int (oi mn))]) rfl ?_
  have hV0 := hV.1
  have hB0 := hB.c0
  have hB1 := hB.c1
  have hB2 := hB.c2
  have hB3 := hB.c3
  have hiR := inS_R hV hm mn
  refine g_aload_n (pc := 0) E dX4_isWhole_0 (i := 0) rfl rfl ?_
  refine g_getr (i := 167) (j := 170) (t := 4) (f := 2) (pc := 1) E dX4_isWhole_1 fl_X4_18 rfl (by decide) (by decide) rfl rfl ?_
  refine g_iload_n (pc := 4) E dX4_isWhole_4 (i := 1) rfl rfl ?_
  refine g_iald (pc := 5) E dX4_isWhole_5 rfl (by omega) (by omega) (hin _ (by omega) (by omega)) (fun _ _ => ?_)
  refine g_iconst (pc := 6) E dX4_isWhole_6 rfl ?_
  refine g_icmp_eq (pc := 7) (tgt := 14) E dX4_isWhole_7 (by decide) (fun qh7 => ?_) (fun qh7 => ?_) 
  · refine g_iconst (pc := 14) E dX4_isWhole_14 rfl ?_
    refine g_zret (pc := 15) E hr dX4_isWhole_15 (by first | exact Or.inl rfl | exact Or.inr rfl | exact bi_in _ | omega) ?_
    exact ⟨bi_f (by omega), rfl⟩
  · refine g_iconst (pc := 10) E dX4_isWhole_10 rfl ?_
    refine g_goto (pc := 11) (tgt := 15) E dX4_isWhole_11 (by decide) ?_
    refine g_zret (pc := 15) E hr dX4_isWhole_15 (by first | exact Or.inl rfl | exact Or.inr rfl | exact bi_in _ | omega) ?_
    exact ⟨bi_t (by omega), rfl⟩

theorem ct_papersWith {cx : Cx} {M : Mem} {S : Int → Int} (hB : BD M S) (hV : SOK S) {mk : Int → Int} (hst : ∀ p, 0 ≤ p → p < S 6 → M 169 p = stA S mk p) {mn v : Int} (hmn : -2147483648 ≤ mn ∧ mn ≤ 2147483647) (hv : -2147483648 ≤ v ∧ v ≤ 2147483647) : Ct cx yX4_papersWith cX4_papersWith 6 (some .int) 1 0 0 [rf cx 167, rf cx 0, .int (oi mn), .int (oi v)] M (fun rz M' => sz (pvF S mk mn v) (S 6) = rz ∧ M = M') := by
  refine ct_intro cd_X4_papersWith (by decide +kernel) (Nat.le_of_ble_eq_true rfl) rfl (fun Pg Lc Ev s m args below meth c E hr => ?_)
  refine g_ent (ls' := [some (rf cx 167), some (rf cx 0), some (.int (oi mn)), some (.int (oi v)), none, none]) rfl ?_
  have hV0 := hV.1
  have hB0 := hB.c0
  have hB1 := hB.c1
  have hB2 := hB.c2
  have hB3 := hB.c3
  refine g_iconst (pc := 0) E dX4_papersWith_0 rfl ?_
  refine g_istore (pc := 1) E dX4_papersWith_1 (ls' := [_, _, _, _, _, _]) (Nat.le_of_ble_eq_true rfl) rfl ?_
  refine g_iconst (pc := 3) E dX4_papersWith_3 rfl ?_
  refine g_istore (pc := 4) E dX4_papersWith_4 (ls' := [_, _, _, _, _, _]) (Nat.le_of_ble_eq_true rfl) rfl ?_
  have LP6 : ∀ (n : Nat) (x a : Int), S 6 - x < (n : Int) → 0 ≤ x → x ≤ S 6 → a = sz (pvF S mk mn v) x → G cx Pg Lc Ev (rmD 1 0 0) s m args below meth c (MQ below (QI cx (fun rz M' => sz (pvF S mk mn v) (S 6) = rz ∧ M = M')) args s 0 0 (cA0 cx)) 6 [some (rf cx 167), some (rf cx 0), some (.int (oi mn)), some (.int (oi v)), some (.int (oi a)), some (.int (oi x))] [] (M) 0 0 := by
    intro n
    induction n with
    | zero => intro x a hn hx0 hx1 ha; exact absurd hn (by omega)
    | succ n ih6 =>
      intro x a hn hx0 hx1 ha
      refine g_iload (pc := 6) E dX4_papersWith_6 rfl ?_
      refine g_aload_n (pc := 8) E dX4_papersWith_8 (i := 1) rfl rfl ?_
      refine g_geti (i := 0) (t := 0) (f := 1) (fz := 1) (pc := 9) E dX4_papersWith_9 fl_X4_51 rfl (by decide) (by decide) rfl rfl hB.c1 (fun _ _ => ?_)
      refine g_icmp_ge (pc := 12) (tgt := 46) E dX4_papersWith_12 (by decide) (fun qh12 => ?_) (fun qh12 => ?_) 
      · refine g_iload (pc := 46) E dX4_papersWith_46 rfl ?_
        refine g_iret (pc := 48) E hr dX4_papersWith_48 ?_
        exact ⟨by rw [ha, show x = S 6 by omega], rfl⟩
      · have hVp := hV.2.2.1 x (by omega) (by omega)
        have hsR := stA_R S mk x
        refine g_aload_n (pc := 15) E dX4_papersWith_15 (i := 1) rfl rfl ?_
        refine g_getr (i := 0) (j := 3) (t := 0) (f := 6) (pc := 16) E dX4_papersWith_16 fl_X4_80 rfl (by decide) (by decide) rfl rfl ?_
        refine g_iload (pc := 19) E dX4_papersWith_19 rfl ?_
        refine g_iald (q := 8) (pc := 21) E dX4_papersWith_21 rfl (by omega) (by omega) (hB.f3 _ (by omega) (by omega)) (fun _ _ => ?_)
        refine g_iload_n (pc := 22) E dX4_papersWith_22 (i := 2) rfl rfl ?_
        refine g_icmp_ne (pc := 23) (tgt := 40) E dX4_papersWith_23 (by decide) (fun qh23 => ?_) (fun qh23 => ?_) 
        · refine g_iinc (pc := 40) E dX4_papersWith_40 (ls' := [_, _, _, _, _, _]) rfl rfl rfl ?_
          refine g_goto (pc := 43) (tgt := 6) E dX4_papersWith_43 (by decide) ?_
          exact g_wk2 (ih6 (x + 1) a (by omega) (by omega) (by omega) (by rw [sz_s hx0, ha, show pvF S mk mn v x = 0 from if_neg (by omega)]; omega)) ⟨rfl, rfl, rfl, rfl, rfl, rfl, trivial⟩
        · refine g_aload_n (pc := 26) E dX4_papersWith_26 (i := 0) rfl rfl ?_
          refine g_getr (i := 167) (j := 169) (t := 4) (f := 1) (pc := 27) E dX4_papersWith_27 fl_X4_15 rfl (by decide) (by decide) rfl rfl ?_
          refine g_iload (pc := 30) E dX4_papersWith_30 rfl ?_
          refine g_iald (pc := 32) E dX4_papersWith_32 rfl (by omega) (by omega) (hst _ (by omega) (by omega)) (fun _ _ => ?_)
          refine g_iload_n (pc := 33) E dX4_papersWith_33 (i := 3) rfl rfl ?_
          refine g_icmp_ne (pc := 34) (tgt := 40) E dX4_papersWith_34 (by decide) (fun qh34 => ?_) (fun qh34 => ?_) 
          · refine g_iinc (pc := 40) E dX4_papersWith_40 (ls' := [_, _, _, _, _, _]) rfl rfl rfl ?_
            refine g_goto (pc := 43) (tgt := 6) E dX4_papersWith_43 (by decide) ?_
            exact g_wk2 (ih6 (x + 1) a (by omega) (by omega) (by omega) (by rw [sz_s hx0, ha, show pvF S mk mn v x = 0 from if_neg (by omega)]; omega)) ⟨rfl, rfl, rfl, rfl, rfl, rfl, trivial⟩
          · refine g_iinc (pc := 37) E dX4_papersWith_37 (ls' := [_, _, _, _, _, _]) rfl rfl rfl ?_
            refine g_iinc (pc := 40) E dX4_papersWith_40 (ls' := [_, _, _, _, _, _]) rfl rfl rfl ?_
            refine g_goto (pc := 43) (tgt := 6) E dX4_papersWith_43 (by decide) ?_
            exact g_wk2 (ih6 (x + 1) (a + 1) (by omega) (by omega) (by omega) (by rw [sz_s hx0, ha, show pvF S mk mn v x = 1 from if_pos (by omega)])) ⟨rfl, rfl, rfl, rfl, rfl, rfl, trivial⟩
  exact g_wk2 (LP6 (S 6 + 1).toNat 0 0 (by omega) (by omega) (by omega) rfl) ⟨rfl, rfl, rfl, rfl, rfl, rfl, trivial⟩

theorem pv_f3 (S mk : Int → Int) (m : Int) : pvF S mk m 3 = f3F S mk m := rfl
theorem pvF_R {S mk : Int → Int} (hV : SOK S) (m v : Int) : 0 ≤ sz (pvF S mk m v) (S 6) ∧ sz (pvF S mk m v) (S 6) ≤ 8 := by
  have h0 := hV.1
  have := sz_R (f := pvF S mk m v) (a := 0) (b := 1) (x := S 6) (by omega) (fun j _ _ => by unfold pvF; split <;> omega)
  omega

theorem ct_passes {cx : Cx} {M : Mem} {S : Int → Int} (hB : BD M S) (hV : SOK S) {mk : Int → Int} (hm : mkOK S mk) (hin : ∀ m, 0 ≤ m → m < S 5 → M 170 m = inS S mk m) (hst : ∀ p, 0 ≤ p → p < S 6 → M 169 p = stA S mk p) {mn : Int} (hm0 : 0 ≤ mn) (hm1 : mn < S 5) : Ct cx yX4_passes cX4_passes 3 (some .boolean) 2 0 0 [rf cx 167, rf cx 0, .int (oi mn)] M (fun rz M' => bi (psM S mk mn) = rz ∧ M = M') := by
  refine ct_intro cd_X4_passes (by decide +kernel) (Nat.le_of_ble_eq_true rfl) rfl (fun Pg Lc Ev s m args below meth c E hr => ?_)
  refine g_ent (ls' := [some (rf cx 167), some (rf cx 0), some (.int (oi mn))]) rfl ?_
  have hV0 := hV.1
  have hB0 := hB.c0
  have hB1 := hB.c1
  have hB2 := hB.c2
  have hB3 := hB.c3
  have hpR := pvF_R (mk := mk) hV mn 3
  refine g_aload_n (pc := 0) E dX4_passes_0 (i := 0) rfl rfl ?_
  refine g_iload_n (pc := 1) E dX4_passes_1 (i := 2) rfl rfl ?_
  refine g_callV (pc := 2) (As := [_]) E dX4_passes_2 ml_X4_99 (ct_isWhole hB hV hm hin (by omega) (by omega)) rfl rfl rfl rfl (by decide) (by decide) rfl (Nat.le_of_ble_eq_true rfl) (by decide) (fun x2 M2 hM2 => ?_)
  obtain ⟨rfl, rfl⟩ := hM2
  refine g_if_eq (pc := 5) (tgt := 22) E dX4_passes_5 (by decide) (fun qh5 => ?_) (fun qh5 => ?_) (Int.le_trans (by decide) (bi_R _).1) (Int.le_trans (bi_R _).2 (by decide))
  · replace qh5 := bi_0.mp qh5
    refine g_iconst (pc := 22) E dX4_passes_22 rfl ?_
    refine g_zret (pc := 23) E hr dX4_passes_23 (by first | exact Or.inl rfl | exact Or.inr rfl | exact bi_in _ | omega) ?_
    exact ⟨bi_f (fun h => qh5 h.1), rfl⟩
  · replace qh5 := bi_n.mp qh5
    refine g_aload_n (pc := 8) E dX4_passes_8 (i := 0) rfl rfl ?_
    refine g_aload_n (pc := 9) E dX4_passes_9 (i := 1) rfl rfl ?_
    refine g_iload_n (pc := 10) E dX4_passes_10 (i := 2) rfl rfl ?_
    refine g_iconst (pc := 11) E dX4_passes_11 rfl ?_
    refine g_callV (pc := 12) (As := [_, _, _]) E dX4_passes_12 ml_X4_119 (ct_papersWith hB hV hst (by omega) (by omega)) rfl rfl rfl rfl (by decide) (by decide) rfl (Nat.le_of_ble_eq_true rfl) (by decide) (fun x12 M12 hM12 => ?_)
    obtain ⟨rfl, rfl⟩ := hM12
    refine g_if_ne (pc := 15) (tgt := 22) E dX4_passes_15 (by decide) (fun qh15 => ?_) (fun qh15 => ?_) 
    · refine g_iconst (pc := 22) E dX4_passes_22 rfl ?_
      refine g_zret (pc := 23) E hr dX4_passes_23 (by first | exact Or.inl rfl | exact Or.inr rfl | exact bi_in _ | omega) ?_
      exact ⟨bi_f (fun h => qh15 h.2), rfl⟩
    · refine g_iconst (pc := 18) E dX4_passes_18 rfl ?_
      refine g_goto (pc := 19) (tgt := 23) E dX4_passes_19 (by decide) ?_
      refine g_zret (pc := 23) E hr dX4_passes_23 (by first | exact Or.inl rfl | exact Or.inr rfl | exact bi_in _ | omega) ?_
      exact ⟨bi_t ⟨qh5, qh15⟩, rfl⟩

theorem ct_isCompensable {cx : Cx} {M : Mem} {S : Int → Int} (hB : BD M S) (hV : SOK S) {mk : Int → Int} (hm : mkOK S mk) (hmk : ∀ p, 0 ≤ p → p < S 6 → M 168 p = mk p) (hin : ∀ m, 0 ≤ m → m < S 5 → M 170 m = inS S mk m) {p : Int} (hp0 : 0 ≤ p) (hp1 : p < S 6) : Ct cx yX4_isCompensable cX4_isCompensable 3 (some .boolean) 1 0 0 [rf cx 167, rf cx 0, .int (oi p)] M (fun rz M' => bi (S 1 ≤ mk p ∧ S 0 ≤ inS S mk (S (13 + 3 * p))) = rz ∧ M = M') := by
  refine ct_intro cd_X4_isCompensable (by decide +kernel) (Nat.le_of_ble_eq_true rfl) rfl (fun Pg Lc Ev s m args below meth c E hr => ?_)
  refine g_ent (ls' := [some (rf cx 167), some (rf cx 0), some (.int (oi p))]) rfl ?_
  have hV0 := hV.1
  have hB0 := hB.c0
  have hB1 := hB.c1
  have hB2 := hB.c2
  have hB3 := hB.c3
  have hVp := hV.2.2.1 p (by omega) (by omega)
  have hmR := hm p hp0 hp1
  have hiR := inS_R hV hm (S (13 + 3 * p))
  refine g_aload_n (pc := 0) E dX4_isCompensable_0 (i := 0) rfl rfl ?_
  refine g_getr (i := 167) (j := 168) (t := 4) (f := 0) (pc := 1) E dX4_isCompensable_1 fl_X4_9 rfl (by decide) (by decide) rfl rfl ?_
  refine g_iload_n (pc := 4) E dX4_isCompensable_4 (i := 2) rfl rfl ?_
  refine g_iald (pc := 5) E dX4_isCompensable_5 rfl (by omega) (by omega) (hmk _ (by omega) (by omega)) (fun _ _ => ?_)
  refine g_aload_n (pc := 6) E dX4_isCompensable_6 (i := 1) rfl rfl ?_
  refine g_getr (i := 0) (j := 1) (t := 0) (f := 4) (pc := 7) E dX4_isCompensable_7 fl_X4_90 rfl (by decide) (by decide) rfl rfl ?_
  refine g_iconst (pc := 10) E dX4_isCompensable_10 rfl ?_
  refine g_iald (q := 5) (pc := 11) E dX4_isCompensable_11 rfl (by omega) (by omega) (hB.f1 _ (by omega) (by omega)) (fun _ _ => ?_)
  refine g_icmp_lt (pc := 12) (tgt := 39) E dX4_isCompensable_12 (by decide) (fun qh12 => ?_) (fun qh12 => ?_) 
  · refine g_iconst (pc := 39) E dX4_isCompensable_39 rfl ?_
    refine g_zret (pc := 40) E hr dX4_isCompensable_40 (by first | exact Or.inl rfl | exact Or.inr rfl | exact bi_in _ | omega) ?_
    exact ⟨bi_f (by omega), rfl⟩
  · refine g_aload_n (pc := 15) E dX4_isCompensable_15 (i := 0) rfl rfl ?_
    refine g_getr (i := 167) (j := 170) (t := 4) (f := 2) (pc := 16) E dX4_isCompensable_16 fl_X4_18 rfl (by decide) (by decide) rfl rfl ?_
    refine g_aload_n (pc := 19) E dX4_isCompensable_19 (i := 1) rfl rfl ?_
    refine g_getr (i := 0) (j := 3) (t := 0) (f := 6) (pc := 20) E dX4_isCompensable_20 fl_X4_80 rfl (by decide) (by decide) rfl rfl ?_
    refine g_iload_n (pc := 23) E dX4_isCompensable_23 (i := 2) rfl rfl ?_
    refine g_iald (q := 8) (pc := 24) E dX4_isCompensable_24 rfl (by omega) (by omega) (hB.f3 _ (by omega) (by omega)) (fun _ _ => ?_)
    refine g_iald (pc := 25) E dX4_isCompensable_25 rfl (by omega) (by omega) (hin _ (by omega) (by omega)) (fun _ _ => ?_)
    refine g_aload_n (pc := 26) E dX4_isCompensable_26 (i := 1) rfl rfl ?_
    refine g_getr (i := 0) (j := 1) (t := 0) (f := 4) (pc := 27) E dX4_isCompensable_27 fl_X4_90 rfl (by decide) (by decide) rfl rfl ?_
    refine g_iconst (pc := 30) E dX4_isCompensable_30 rfl ?_
    refine g_iald (q := 5) (pc := 31) E dX4_isCompensable_31 rfl (by omega) (by omega) (hB.f1 _ (by omega) (by omega)) (fun _ _ => ?_)
    refine g_icmp_lt (pc := 32) (tgt := 39) E dX4_isCompensable_32 (by decide) (fun qh32 => ?_) (fun qh32 => ?_) 
    · refine g_iconst (pc := 39) E dX4_isCompensable_39 rfl ?_
      refine g_zret (pc := 40) E hr dX4_isCompensable_40 (by first | exact Or.inl rfl | exact Or.inr rfl | exact bi_in _ | omega) ?_
      exact ⟨bi_f (by omega), rfl⟩
    · refine g_iconst (pc := 35) E dX4_isCompensable_35 rfl ?_
      refine g_goto (pc := 36) (tgt := 40) E dX4_isCompensable_36 (by decide) ?_
      refine g_zret (pc := 40) E hr dX4_isCompensable_40 (by first | exact Or.inl rfl | exact Or.inr rfl | exact bi_in _ | omega) ?_
      exact ⟨bi_t (by omega), rfl⟩

theorem cv_weigh {cx : Cx} {M : Mem} {S : Int → Int} (hB : BD M S) (hV : SOK S) {mk : Int → Int} (hm : mkOK S mk) (hmk : ∀ p, 0 ≤ p → p < S 6 → M 168 p = mk p) {mn : Int} (hm0 : 0 ≤ mn) (hm1 : mn < S 5) : Cv cx yX4_weigh cX4_weigh 7 2 0 0 [rf cx 167, rf cx 0, .int (oi mn)] M (fun M' => st (st M 171 mn (bi (0 < pcnt S mn))) 170 mn (inS S mk mn) = M') := by
  refine cv_intro cd_X4_weigh (by decide +kernel) (Nat.le_of_ble_eq_true rfl) rfl (fun Pg Lc Ev s m args below meth c E hr => ?_)
  refine g_ent (ls' := [some (rf cx 167), some (rf cx 0), some (.int (oi mn)), none, none, none, none]) rfl ?_
  have hV0 := hV.1
  have hB0 := hB.c0
  have hB1 := hB.c1
  have hB2 := hB.c2
  have hB3 := hB.c3
  have hnS := nF_R (mk := mk) hV mn (show 0 ≤ S 6 by omega) (Int.le_refl _)
  have hvS := vF_R hV mn (show 0 ≤ S 6 by omega) (Int.le_refl _)
  have hwS := wF_R hV hm mn (show 0 ≤ S 6 by omega) (Int.le_refl _)
  have hpc := pcnt_vF hV mn
  refine g_iconst (pc := 0) E dX4_weigh_0 rfl ?_
  refine g_istore_n (pc := 1) E dX4_weigh_1 (i := 3) (ls' := [_, _, _, _, _, _, _]) rfl (Nat.le_of_ble_eq_true rfl) rfl ?_
  refine g_iconst (pc := 2) E dX4_weigh_2 rfl ?_
  refine g_istore (pc := 3) E dX4_weigh_3 (ls' := [_, _, _, _, _, _, _]) (Nat.le_of_ble_eq_true rfl) rfl ?_
  refine g_iconst (pc := 5) E dX4_weigh_5 rfl ?_
  refine g_istore (pc := 6) E dX4_weigh_6 (ls' := [_, _, _, _, _, _, _]) (Nat.le_of_ble_eq_true rfl) rfl ?_
  refine g_iconst (pc := 8) E dX4_weigh_8 rfl ?_
  refine g_istore (pc := 9) E dX4_weigh_9 (ls' := [_, _, _, _, _, _, _]) (Nat.le_of_ble_eq_true rfl) rfl ?_
  have LP11 : ∀ (n : Nat) (x w v al : Int), S 6 - x < (n : Int) → 0 ≤ x → x ≤ S 6 → w = sz (wF S mk mn) x → v = sz (vF S mn) x → al = bi (sz (nF S mk mn) x = 0) → G cx Pg Lc Ev (rmD 2 0 0) s m args below meth c (MQ below (QV cx (fun M' => st (st M 171 mn (bi (0 < pcnt S mn))) 170 mn (inS S mk mn) = M')) args s 0 0 (cA0 cx)) 11 [some (rf cx 167), some (rf cx 0), some (.int (oi mn)), some (.int (oi w)), some (.int (oi v)), some (.int (oi al)), some (.int (oi x))] [] (M) 0 0 := by
    intro n
    induction n with
    | zero => intro x w v al hn hx0 hx1 hw hv hal; exact absurd hn (by omega)
    | succ n ih11 =>
      intro x w v al hn hx0 hx1 hw hv hal
      have hbR := bi_R (sz (nF S mk mn) x = 0)
      have hnR := nF_R (mk := mk) hV mn hx0 hx1
      have hvR := vF_R hV mn hx0 hx1
      have hwR := wF_R hV hm mn hx0 hx1
      refine g_iload (pc := 11) E dX4_weigh_11 rfl ?_
      refine g_aload_n (pc := 13) E dX4_weigh_13 (i := 1) rfl rfl ?_
      refine g_geti (i := 0) (t := 0) (f := 1) (fz := 1) (pc := 14) E dX4_weigh_14 fl_X4_51 rfl (by decide) (by decide) rfl rfl hB.c1 (fun _ _ => ?_)
      refine g_icmp_ge (pc := 17) (tgt := 90) E dX4_weigh_17 (by decide) (fun qh17 => ?_) (fun qh17 => ?_) 
      · rw [show x = S 6 by omega] at hw hv hal hbR
        refine g_aload_n (pc := 90) E dX4_weigh_90 (i := 0) rfl rfl ?_
        refine g_getr (i := 167) (j := 171) (t := 4) (f := 3) (pc := 91) E dX4_weigh_91 fl_X4_21 rfl (by decide) (by decide) rfl rfl ?_
        refine g_iload_n (pc := 94) E dX4_weigh_94 (i := 2) rfl rfl ?_
        refine g_iload (pc := 95) E dX4_weigh_95 rfl ?_
        refine g_if_le (pc := 97) (tgt := 104) E dX4_weigh_97 (by decide) (fun qh97 => ?_) (fun qh97 => ?_) 
        · refine g_iconst (pc := 104) E dX4_weigh_104 rfl ?_
          refine g_zast (pc := 105) E dX4_weigh_105 rfl (by omega) (by omega) (by first | exact Or.inl rfl | exact Or.inr rfl) ?_
          refine g_aload_n (pc := 106) E dX4_weigh_106 (i := 0) rfl rfl ?_
          refine g_getr (i := 167) (j := 170) (t := 4) (f := 2) (pc := 107) E dX4_weigh_107 fl_X4_18 rfl (by decide) (by decide) rfl rfl ?_
          refine g_iload_n (pc := 110) E dX4_weigh_110 (i := 2) rfl rfl ?_
          refine g_iload (pc := 111) E dX4_weigh_111 rfl ?_
          refine g_if_eq (pc := 113) (tgt := 126) E dX4_weigh_113 (by decide) (fun qh113 => ?_) (fun qh113 => ?_) 
          · refine g_iconst (pc := 126) E dX4_weigh_126 rfl ?_
            refine g_iast (pc := 127) E dX4_weigh_127 rfl (by omega) (by omega) ?_ 
            refine g_vret (pc := 128) E hr dX4_weigh_128 ?_
            rw [show bi (0 < pcnt S mn) = 0 from bi_f (by omega), show inS S mk mn = -1 from if_neg (by omega)]
          · refine g_iload_n (pc := 116) E dX4_weigh_116 (i := 3) rfl rfl ?_
            refine g_iload (pc := 117) E dX4_weigh_117 rfl ?_
            refine g_iconst (pc := 119) E dX4_weigh_119 rfl ?_
            refine g_callN (pc := 120) (As := [_, _, _]) E dX4_weigh_120 ml_X4_86 (ct_nearest5 (by have h1 := bi_n.mp (hal ▸ qh113); have h2 := wS_ok hV hm mn h1; omega) (by omega) (by omega) (by omega)) rfl rfl (by decide) (by decide) rfl (Nat.le_of_ble_eq_true rfl) (by decide) (fun x120 M120 hM120 => ?_)
            obtain ⟨rfl, rfl⟩ := hM120
            have hk1 := bi_n.mp (hal ▸ qh113)
            have hk2 := wS_ok hV hm mn hk1
            have hk3 : 0 < v → 0 ≤ nrs w v ∧ nrs w v ≤ 100 := fun z => nrs_R (by omega) z (by omega)
            refine g_goto (pc := 123) (tgt := 127) E dX4_weigh_123 (by decide) ?_
            refine g_iast (pc := 127) E dX4_weigh_127 rfl (by omega) (by omega) ?_ 
            refine g_vret (pc := 128) E hr dX4_weigh_128 ?_
            rw [show bi (0 < pcnt S mn) = 0 from bi_f (by omega), show inS S mk mn = -1 from if_neg (by omega), if_pos (by omega)]
        · refine g_iconst (pc := 100) E dX4_weigh_100 rfl ?_
          refine g_goto (pc := 101) (tgt := 105) E dX4_weigh_101 (by decide) ?_
          refine g_zast (pc := 105) E dX4_weigh_105 rfl (by omega) (by omega) (by first | exact Or.inl rfl | exact Or.inr rfl) ?_
          refine g_aload_n (pc := 106) E dX4_weigh_106 (i := 0) rfl rfl ?_
          refine g_getr (i := 167) (j := 170) (t := 4) (f := 2) (pc := 107) E dX4_weigh_107 fl_X4_18 rfl (by decide) (by decide) rfl rfl ?_
          refine g_iload_n (pc := 110) E dX4_weigh_110 (i := 2) rfl rfl ?_
          refine g_iload (pc := 111) E dX4_weigh_111 rfl ?_
          refine g_if_eq (pc := 113) (tgt := 126) E dX4_weigh_113 (by decide) (fun qh113 => ?_) (fun qh113 => ?_) 
          · refine g_iconst (pc := 126) E dX4_weigh_126 rfl ?_
            refine g_iast (pc := 127) E dX4_weigh_127 rfl (by omega) (by omega) ?_ 
            refine g_vret (pc := 128) E hr dX4_weigh_128 ?_
            have h1 := bi_0.mp (hal ▸ qh113)
            rw [show bi (0 < pcnt S mn) = 1 from bi_t (by omega), show inS S mk mn = -1 from if_neg (by omega)]
          · refine g_iload_n (pc := 116) E dX4_weigh_116 (i := 3) rfl rfl ?_
            refine g_iload (pc := 117) E dX4_weigh_117 rfl ?_
            refine g_iconst (pc := 119) E dX4_weigh_119 rfl ?_
            refine g_callN (pc := 120) (As := [_, _, _]) E dX4_weigh_120 ml_X4_86 (ct_nearest5 (by have h1 := bi_n.mp (hal ▸ qh113); have h2 := wS_ok hV hm mn h1; omega) (by omega) (by omega) (by omega)) rfl rfl (by decide) (by decide) rfl (Nat.le_of_ble_eq_true rfl) (by decide) (fun x120 M120 hM120 => ?_)
            obtain ⟨rfl, rfl⟩ := hM120
            have hk1 := bi_n.mp (hal ▸ qh113)
            have hk2 := wS_ok hV hm mn hk1
            have hk3 : 0 < v → 0 ≤ nrs w v ∧ nrs w v ≤ 100 := fun z => nrs_R (by omega) z (by omega)
            refine g_goto (pc := 123) (tgt := 127) E dX4_weigh_123 (by decide) ?_
            refine g_iast (pc := 127) E dX4_weigh_127 rfl (by omega) (by omega) ?_ 
            refine g_vret (pc := 128) E hr dX4_weigh_128 ?_
            have h1 := bi_n.mp (hal ▸ qh113)
            rw [show bi (0 < pcnt S mn) = 1 from bi_t (by omega), show inS S mk mn = nrs (sz (wF S mk mn) (S 6)) (sz (vF S mn) (S 6)) from if_pos (by omega), if_neg (by omega), hw, hv]
      · have hVp := hV.2.2.1 x (by omega) (by omega)
        have hmR := hm x hx0 (by omega)
        have hmu := mulR (a := S (13 + 3 * x + 1)) (b := mk x) (A := 9) (B := 100) (by omega) (by omega) (by omega) (by omega)
        refine g_aload_n (pc := 20) E dX4_weigh_20 (i := 1) rfl rfl ?_
        refine g_getr (i := 0) (j := 3) (t := 0) (f := 6) (pc := 21) E dX4_weigh_21 fl_X4_80 rfl (by decide) (by decide) rfl rfl ?_
        refine g_iload (pc := 24) E dX4_weigh_24 rfl ?_
        refine g_iald (q := 8) (pc := 26) E dX4_weigh_26 rfl (by omega) (by omega) (hB.f3 _ (by omega) (by omega)) (fun _ _ => ?_)
        refine g_iload_n (pc := 27) E dX4_weigh_27 (i := 2) rfl rfl ?_
        refine g_icmp_ne (pc := 28) (tgt := 84) E dX4_weigh_28 (by decide) (fun qh28 => ?_) (fun qh28 => ?_) 
        · refine g_iinc (pc := 84) E dX4_weigh_84 (ls' := [_, _, _, _, _, _, _]) rfl rfl rfl ?_
          refine g_goto (pc := 87) (tgt := 11) E dX4_weigh_87 (by decide) ?_
          exact g_wk2 (ih11 (x + 1) w v al (by omega) (by omega) (by omega) (by rw [sz_s hx0, hw, show wF S mk mn x = 0 from if_neg (by omega)]; omega) (by rw [sz_s hx0, hv, show vF S mn x = 0 from if_neg (by omega)]; omega) (by rw [sz_s hx0, hal, show nF S mk mn x = 0 from if_neg (by omega)]; exact bi_c (by omega))) ⟨rfl, rfl, rfl, rfl, rfl, rfl, rfl, trivial⟩
        · refine g_iload (pc := 31) E dX4_weigh_31 rfl ?_
          refine g_aload_n (pc := 33) E dX4_weigh_33 (i := 1) rfl rfl ?_
          refine g_getr (i := 0) (j := 4) (t := 0) (f := 7) (pc := 34) E dX4_weigh_34 fl_X4_83 rfl (by decide) (by decide) rfl rfl ?_
          refine g_iload (pc := 37) E dX4_weigh_37 rfl ?_
          refine g_iald (q := 8) (pc := 39) E dX4_weigh_39 rfl (by omega) (by omega) (hB.f4 _ (by omega) (by omega)) (fun _ _ => ?_)
          refine g_iadd (pc := 40) E dX4_weigh_40 ?_
          refine g_istore (pc := 41) E dX4_weigh_41 (ls' := [_, _, _, _, _, _, _]) (Nat.le_of_ble_eq_true rfl) rfl ?_
          refine g_iload_n (pc := 43) E dX4_weigh_43 (i := 3) rfl rfl ?_
          refine g_aload_n (pc := 44) E dX4_weigh_44 (i := 1) rfl rfl ?_
          refine g_getr (i := 0) (j := 4) (t := 0) (f := 7) (pc := 45) E dX4_weigh_45 fl_X4_83 rfl (by decide) (by decide) rfl rfl ?_
          refine g_iload (pc := 48) E dX4_weigh_48 rfl ?_
          refine g_iald (q := 8) (pc := 50) E dX4_weigh_50 rfl (by omega) (by omega) (hB.f4 _ (by omega) (by omega)) (fun _ _ => ?_)
          refine g_aload_n (pc := 51) E dX4_weigh_51 (i := 0) rfl rfl ?_
          refine g_getr (i := 167) (j := 168) (t := 4) (f := 0) (pc := 52) E dX4_weigh_52 fl_X4_9 rfl (by decide) (by decide) rfl rfl ?_
          refine g_iload (pc := 55) E dX4_weigh_55 rfl ?_
          refine g_iald (pc := 57) E dX4_weigh_57 rfl (by omega) (by omega) (hmk _ (by omega) (by omega)) (fun _ _ => ?_)
          refine g_imul (pc := 58) E dX4_weigh_58 ?_
          refine g_iadd (pc := 59) E dX4_weigh_59 ?_
          refine g_istore_n (pc := 60) E dX4_weigh_60 (i := 3) (ls' := [_, _, _, _, _, _, _]) rfl (Nat.le_of_ble_eq_true rfl) rfl ?_
          refine g_iload (pc := 61) E dX4_weigh_61 rfl ?_
          refine g_if_eq (pc := 63) (tgt := 81) E dX4_weigh_63 (by decide) (fun qh63 => ?_) (fun qh63 => ?_) 
          · refine g_iconst (pc := 81) E dX4_weigh_81 rfl ?_
            refine g_istore (pc := 82) E dX4_weigh_82 (ls' := [_, _, _, _, _, _, _]) (Nat.le_of_ble_eq_true rfl) rfl ?_
            refine g_iinc (pc := 84) E dX4_weigh_84 (ls' := [_, _, _, _, _, _, _]) rfl rfl rfl ?_
            refine g_goto (pc := 87) (tgt := 11) E dX4_weigh_87 (by decide) ?_
            exact g_wk2 (ih11 (x + 1) (w + S (13 + 3 * x + 1) * mk x) (v + S (13 + 3 * x + 1)) 0 (by omega) (by omega) (by omega) (by rw [sz_s hx0, hw, show wF S mk mn x = mk x * S (13 + 3 * x + 1) from if_pos (by omega), Int.mul_comm]) (by rw [sz_s hx0, hv, show vF S mn x = S (13 + 3 * x + 1) from if_pos (by omega)]) (by rw [sz_s hx0]; rw [hal] at qh63; have h1 : 0 ≤ nF S mk mn x := (by unfold nF; split <;> omega); have h2 := bi_0.mp qh63; exact (bi_f (by omega)).symm)) ⟨rfl, rfl, rfl, rfl, rfl, rfl, rfl, trivial⟩
          · refine g_aload_n (pc := 66) E dX4_weigh_66 (i := 0) rfl rfl ?_
            refine g_getr (i := 167) (j := 168) (t := 4) (f := 0) (pc := 67) E dX4_weigh_67 fl_X4_9 rfl (by decide) (by decide) rfl rfl ?_
            refine g_iload (pc := 70) E dX4_weigh_70 rfl ?_
            refine g_iald (pc := 72) E dX4_weigh_72 rfl (by omega) (by omega) (hmk _ (by omega) (by omega)) (fun _ _ => ?_)
            refine g_iconst (pc := 73) E dX4_weigh_73 rfl ?_
            refine g_icmp_eq (pc := 74) (tgt := 81) E dX4_weigh_74 (by decide) (fun qh74 => ?_) (fun qh74 => ?_) 
            · refine g_iconst (pc := 81) E dX4_weigh_81 rfl ?_
              refine g_istore (pc := 82) E dX4_weigh_82 (ls' := [_, _, _, _, _, _, _]) (Nat.le_of_ble_eq_true rfl) rfl ?_
              refine g_iinc (pc := 84) E dX4_weigh_84 (ls' := [_, _, _, _, _, _, _]) rfl rfl rfl ?_
              refine g_goto (pc := 87) (tgt := 11) E dX4_weigh_87 (by decide) ?_
              exact g_wk2 (ih11 (x + 1) (w + S (13 + 3 * x + 1) * mk x) (v + S (13 + 3 * x + 1)) 0 (by omega) (by omega) (by omega) (by rw [sz_s hx0, hw, show wF S mk mn x = mk x * S (13 + 3 * x + 1) from if_pos (by omega), Int.mul_comm]) (by rw [sz_s hx0, hv, show vF S mn x = S (13 + 3 * x + 1) from if_pos (by omega)]) (by rw [sz_s hx0, show nF S mk mn x = 1 from if_pos (by omega)]; exact (bi_f (by omega)).symm)) ⟨rfl, rfl, rfl, rfl, rfl, rfl, rfl, trivial⟩
            · refine g_iconst (pc := 77) E dX4_weigh_77 rfl ?_
              refine g_goto (pc := 78) (tgt := 82) E dX4_weigh_78 (by decide) ?_
              refine g_istore (pc := 82) E dX4_weigh_82 (ls' := [_, _, _, _, _, _, _]) (Nat.le_of_ble_eq_true rfl) rfl ?_
              refine g_iinc (pc := 84) E dX4_weigh_84 (ls' := [_, _, _, _, _, _, _]) rfl rfl rfl ?_
              refine g_goto (pc := 87) (tgt := 11) E dX4_weigh_87 (by decide) ?_
              exact g_wk2 (ih11 (x + 1) (w + S (13 + 3 * x + 1) * mk x) (v + S (13 + 3 * x + 1)) 1 (by omega) (by omega) (by omega) (by rw [sz_s hx0, hw, show wF S mk mn x = mk x * S (13 + 3 * x + 1) from if_pos (by omega), Int.mul_comm]) (by rw [sz_s hx0, hv, show vF S mn x = S (13 + 3 * x + 1) from if_pos (by omega)]) (by rw [hal] at qh63; have h2 := bi_n.mp qh63; rw [sz_s hx0, show nF S mk mn x = 0 from if_neg (by omega)]; exact (bi_t (by omega)).symm)) ⟨rfl, rfl, rfl, rfl, rfl, rfl, rfl, trivial⟩
  exact g_wk2 (LP11 (S 6 + 1).toNat 0 0 0 1 (by omega) (by omega) (by omega) rfl rfl rfl) ⟨rfl, rfl, rfl, rfl, rfl, rfl, rfl, trivial⟩
