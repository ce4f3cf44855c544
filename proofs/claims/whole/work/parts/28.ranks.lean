/-! ranks of the reference -/
def gkS (S : Int → Int) (s : Int) : Int := if grS S (lkM S s (-1) 0) = 0 then 6 else grS S (lkM S s (-1) 0)
def akS (S : Int → Int) (s : Int) : Int := max 0 (avS S (lkM S s (-1) 0))
abbrev bef (S : Int → Int) (s t : Int) : Prop := gkS S s < gkS S t ∨ (gkS S s = gkS S t ∧ (akS S t < akS S s ∨ (akS S s = akS S t ∧ s < t)))
def plF (S : Int → Int) (s t : Int) : Int := if bef S t s then 1 else 0
def plS (S : Int → Int) (s : Int) : Int := sz (plF S s) (S 7)
def rkF (S : Int → Int) (k s : Int) : Int := if plS S s = k then 1 else 0
def rkS (S : Int → Int) (k : Int) : Int := fi (rkF S k) (S 7)
def LR (S : Int → Int) (x : Int) (R : Int → Int) : Prop := (∀ j, 0 ≤ j → j < x → 0 ≤ R j ∧ R j < x) ∧ (∀ i j, 0 ≤ i → i < j → j < x → bef S (R i) (R j)) ∧ ∀ f : Int → Int, sz (fun j => f (R j)) x = sz f x
theorem LR_0 (S R : Int → Int) : LR S 0 R := ⟨fun j a b => absurd b (by omega), fun i j a b c => absurd c (by omega), fun _ => rfl⟩
theorem sz_ins {g h : Int → Int} {k : Int} (h0 : 0 ≤ k) (ha : ∀ j, 0 ≤ j → j < k → h j = g j) : ∀ d : Nat, (∀ j, k < j → j ≤ k + d → h j = g (j - 1)) → sz h (k + d + 1) = sz g (k + d) + h k
  | 0, _ => by
    rw [show k + ((0 : Nat) : Int) = k by omega, sz_s h0, sz_c ha]
  | d + 1, hc => by
    have ih := sz_ins h0 ha d (fun j a b => hc j a (by omega))
    have e := hc (k + (d : Int) + 1) (by omega) (by omega)
    rw [show k + ((d + 1 : Nat) : Int) = k + (d : Int) + 1 by omega, sz_s (by omega), ih, sz_s (f := g) (by omega), e, show k + (d : Int) + 1 - 1 = k + d by omega]
    omega
theorem LR_step {S R R2 : Int → Int} {x k : Int} (h : LR S x R) (hk0 : 0 ≤ k) (hk1 : k ≤ x) (ha : ∀ j, 0 ≤ j → j < k → R2 j = R j) (hb : R2 k = x) (hc : ∀ j, k < j → j ≤ x → R2 j = R (j - 1)) (hd : ∀ j, k ≤ j → j < x → bef S x (R j)) (he : k = 0 ∨ bef S (R (k - 1)) x) : LR S (x + 1) R2 := by
  obtain ⟨h1, h2, h3⟩ := h
  have hlo : ∀ j, 0 ≤ j → j < k → bef S (R j) x := fun j a b => by
    have he : bef S (R (k - 1)) x := he.resolve_left (by omega)
    by_cases hj : j = k - 1
    · rw [hj]; exact he
    · have := h2 j (k - 1) a (by omega) (by omega)
      unfold bef at *
      omega
  refine ⟨fun j a b => ?_, fun i j a b c => ?_, fun f => ?_⟩
  · rcases Int.lt_trichotomy j k with q | q | q
    · rw [ha j a q]; have := h1 j a (by omega); omega
    · rw [q, hb]; omega
    · rw [hc j q (by omega)]; have := h1 (j - 1) (by omega) (by omega); omega
  · rcases Int.lt_trichotomy j k with q | q | q
    · rw [ha j (by omega) q, ha i a (by omega)]; exact h2 i j a b (by omega)
    · rw [q, hb, ha i a (by omega)]; exact hlo i a (by omega)
    · rw [hc j q (by omega)]
      rcases Int.lt_trichotomy i k with r | r | r
      · rw [ha i a r]; exact h2 i (j - 1) a (by omega) (by omega)
      · rw [r, hb]; exact hd (j - 1) (by omega) (by omega)
      · rw [hc i r (by omega)]; exact h2 (i - 1) (j - 1) (by omega) (by omega) (by omega)
  · have := sz_ins (g := fun j => f (R j)) (h := fun j => f (R2 j)) hk0 (fun j a b => congrArg f (ha j a b)) (x - k).toNat (fun j a b => congrArg f (hc j a (by omega)))
    rw [show k + ((x - k).toNat : Int) = x by omega] at this
    rw [this, h3 f, sz_s (by omega), hb]
theorem cnt_lt {k : Int} (h0 : 0 ≤ k) : ∀ d : Nat, sz (fun j => if j < k then 1 else 0) (k + d) = k
  | 0 => by
    have := sz_c (f := fun j => if j < k then (1 : Int) else 0) (g := fun _ => 1) (x := k) (fun j _ b => if_pos b)
    rw [show k + ((0 : Nat) : Int) = k by omega, this]
    have := sz_R (f := fun _ => 1) (a := 1) (b := 1) h0 (fun j _ _ => by omega)
    omega
  | d + 1 => by
    have ih := cnt_lt h0 d
    rw [show k + ((d + 1 : Nat) : Int) = k + (d : Int) + 1 by omega, sz_s (by omega), ih, if_neg (by omega)]
    omega
theorem LR_pl {S R : Int → Int} (h : LR S (S 7) R) {k : Int} (h0 : 0 ≤ k) (h1 : k < S 7) : plS S (R k) = k := by
  have e := h.2.2 (plF S (R k))
  have e2 : sz (fun j => plF S (R k) (R j)) (S 7) = sz (fun j => if j < k then 1 else 0) (S 7) := sz_c (fun j a b => by
    show plF S (R k) (R j) = if j < k then 1 else 0
    rcases Int.lt_trichotomy j k with q | q | q
    · rw [if_pos q, plF, if_pos (h.2.1 j k a q h1)]
    · rw [if_neg (by omega), q, plF, if_neg (by unfold bef; omega)]
    · have := h.2.1 k j h0 q b
      rw [if_neg (by omega), plF, if_neg (by unfold bef at *; omega)])
  have e3 := cnt_lt h0 (S 7 - k).toNat
  rw [show k + ((S 7 - k).toNat : Int) = S 7 by omega] at e3
  rw [plS, ← e, e2, e3]
theorem LR_ex {S R : Int → Int} (h : LR S (S 7) R) {s : Int} (h0 : 0 ≤ s) (h1 : s < S 7) : 0 ≤ plS S s ∧ plS S s < S 7 ∧ R (plS S s) = s := by
  have e := h.2.2 (fun t => if t = s then 1 else 0)
  have g := sz_ge (f := fun t => if t = s then 1 else 0) (n := S 7) (x := s) (fun j _ _ => by show 0 ≤ (if j = s then (1 : Int) else 0); split <;> omega) h0 h1
  have g : (if s = s then (1 : Int) else 0) ≤ sz (fun t => if t = s then 1 else 0) (S 7) := g
  rw [if_pos rfl, ← e] at g
  by_cases hx : ∃ j, 0 ≤ j ∧ j < S 7 ∧ R j = s
  · obtain ⟨j, a, b, c⟩ := hx
    have := LR_pl h a b
    rw [c] at this
    rw [this]
    exact ⟨a, b, c⟩
  · have := sz_z (f := fun j => if R j = s then (1 : Int) else 0) (x := S 7) (fun j a b => if_neg (fun c => hx ⟨j, a, b, c⟩))
    omega
theorem LR_rk {S R : Int → Int} (h : LR S (S 7) R) {k : Int} (h0 : 0 ≤ k) (h1 : k < S 7) : R k = rkS S k := by
  have a := h.1 k h0 h1
  refine isF_u (f := rkF S k) (n := S 7) (Or.inr ⟨a.1, a.2, if_pos (LR_pl h h0 h1), fun j b c d => ?_⟩) (fi_is _ (by omega))
  have d : plS S j = k := by
    unfold rkF at d
    split at d
    · assumption
    · omega
  have := (LR_ex h b (by omega)).2.2
  rw [d] at this
  omega
def RG (S : Int → Int) (x : Int) (O : Mem) : Prop := ∀ j, 0 ≤ j → j < x → O 196 j = gkS S j ∧ O 197 j = akS S j
theorem SCm.st {M N : Mem} (h : SCm M N) {i : Nat} (h1 : 191 ≤ i) (h2 : i ≤ 197) (x v : Int) : SCm M (st N i x v) := ⟨fun a b c => by rw [st_ne (by omega)]; exact h.1 a b c, fun f hf => by rw [st_ne (by omega)]; exact h.2 f hf⟩
theorem RG_s {S : Int → Int} {x g a : Int} {N P : Mem} (h : RG S x N) (hf : LKf N P) (hg : g = gkS S x) (ha : a = akS S x) : RG S (x + 1) (st (st P 196 x g) 197 x a) := fun j h0 h1 => by
  rw [st_ne (by decide)]
  by_cases hj : j = x
  · rw [hj, st_self, st_self, hg, ha]; exact ⟨rfl, rfl⟩
  · rw [st_off hj, st_off hj, st_ne (by decide), hf.1 196 (by decide) (by decide) (by decide) (by decide) (by decide), hf.1 197 (by decide) (by decide) (by decide) (by decide) (by decide)]
    exact h j h0 (by omega)
theorem RG_st {S : Int → Int} {x k v : Int} {N : Mem} (h : RG S x N) : RG S x (st N 195 k v) := fun j h0 h1 => by
  rw [st_ne (by decide), st_ne (by decide)]; exact h j h0 h1
theorem gkS_R (S : Int → Int) (s : Int) : 1 ≤ gkS S s ∧ gkS S s ≤ 6 := by
  have := grS_R S (lkM S s (-1) 0)
  unfold gkS
  split <;> omega

theorem ct_isAhead {cx : Cx} {M : Mem} {sn t : Int} (hs0 : 0 ≤ sn) (hs1 : sn < 20) (ht0 : 0 ≤ t) (ht1 : t < 20) : Ct cx yX6_isAhead cX6_isAhead 3 (some .boolean) 1 0 0 [rf cx 184, .int (oi sn), .int (oi t)] M (fun rz M' => bi (M 196 sn < M 196 t ∨ (M 196 sn = M 196 t ∧ M 197 t < M 197 sn)) = rz ∧ M = M') := by
  refine ct_intro cd_X6_isAhead (by decide +kernel) (Nat.le_of_ble_eq_true rfl) rfl (fun Pg Lc Ev s m args below meth c E hr => ?_)
  refine g_ent (ls' := [some (rf cx 184), some (.int (oi sn)), some (.int (oi t))]) rfl ?_
  refine g_aload_n (pc := 0) E dX6_isAhead_0 (i := 0) rfl rfl ?_
  refine g_getr (i := 184) (j := 196) (t := 6) (f := 25) (pc := 1) E dX6_isAhead_1 fl_X6_44 rfl (by decide) (by decide) rfl rfl ?_
  refine g_iload_n (pc := 4) E dX6_isAhead_4 (i := 1) rfl rfl ?_
  refine g_iald (pc := 5) E dX6_isAhead_5 rfl (by omega) (by omega) rfl (fun _ _ => ?_)
  refine g_aload_n (pc := 6) E dX6_isAhead_6 (i := 0) rfl rfl ?_
  refine g_getr (i := 184) (j := 196) (t := 6) (f := 25) (pc := 7) E dX6_isAhead_7 fl_X6_44 rfl (by decide) (by decide) rfl rfl ?_
  refine g_iload_n (pc := 10) E dX6_isAhead_10 (i := 2) rfl rfl ?_
  refine g_iald (pc := 11) E dX6_isAhead_11 rfl (by omega) (by omega) rfl (fun _ _ => ?_)
  refine g_icmp_eq (pc := 12) (tgt := 38) E dX6_isAhead_12 (by decide) (fun qh12 => ?_) (fun qh12 => ?_) 
  · refine g_aload_n (pc := 38) E dX6_isAhead_38 (i := 0) rfl rfl ?_
    refine g_getr (i := 184) (j := 197) (t := 6) (f := 26) (pc := 39) E dX6_isAhead_39 fl_X6_47 rfl (by decide) (by decide) rfl rfl ?_
    refine g_iload_n (pc := 42) E dX6_isAhead_42 (i := 1) rfl rfl ?_
    refine g_iald (pc := 43) E dX6_isAhead_43 rfl (by omega) (by omega) rfl (fun _ _ => ?_)
    refine g_aload_n (pc := 44) E dX6_isAhead_44 (i := 0) rfl rfl ?_
    refine g_getr (i := 184) (j := 197) (t := 6) (f := 26) (pc := 45) E dX6_isAhead_45 fl_X6_47 rfl (by decide) (by decide) rfl rfl ?_
    refine g_iload_n (pc := 48) E dX6_isAhead_48 (i := 2) rfl rfl ?_
    refine g_iald (pc := 49) E dX6_isAhead_49 rfl (by omega) (by omega) rfl (fun _ _ => ?_)
    refine g_icmp_le (pc := 50) (tgt := 57) E dX6_isAhead_50 (by decide) (fun qh50 => ?_) (fun qh50 => ?_) 
    · refine g_iconst (pc := 57) E dX6_isAhead_57 rfl ?_
      refine g_zret (pc := 58) E hr dX6_isAhead_58 (by first | exact Or.inl rfl | exact Or.inr rfl | exact bi_in _ | omega) ?_
      first | exact ⟨bi_t (by omega), rfl⟩ | exact ⟨bi_f (by omega), rfl⟩
    · refine g_iconst (pc := 53) E dX6_isAhead_53 rfl ?_
      refine g_goto (pc := 54) (tgt := 58) E dX6_isAhead_54 (by decide) ?_
      refine g_zret (pc := 58) E hr dX6_isAhead_58 (by first | exact Or.inl rfl | exact Or.inr rfl | exact bi_in _ | omega) ?_
      first | exact ⟨bi_t (by omega), rfl⟩ | exact ⟨bi_f (by omega), rfl⟩
  · refine g_aload_n (pc := 15) E dX6_isAhead_15 (i := 0) rfl rfl ?_
    refine g_getr (i := 184) (j := 196) (t := 6) (f := 25) (pc := 16) E dX6_isAhead_16 fl_X6_44 rfl (by decide) (by decide) rfl rfl ?_
    refine g_iload_n (pc := 19) E dX6_isAhead_19 (i := 1) rfl rfl ?_
    refine g_iald (pc := 20) E dX6_isAhead_20 rfl (by omega) (by omega) rfl (fun _ _ => ?_)
    refine g_aload_n (pc := 21) E dX6_isAhead_21 (i := 0) rfl rfl ?_
    refine g_getr (i := 184) (j := 196) (t := 6) (f := 25) (pc := 22) E dX6_isAhead_22 fl_X6_44 rfl (by decide) (by decide) rfl rfl ?_
    refine g_iload_n (pc := 25) E dX6_isAhead_25 (i := 2) rfl rfl ?_
    refine g_iald (pc := 26) E dX6_isAhead_26 rfl (by omega) (by omega) rfl (fun _ _ => ?_)
    refine g_icmp_ge (pc := 27) (tgt := 34) E dX6_isAhead_27 (by decide) (fun qh27 => ?_) (fun qh27 => ?_) 
    · refine g_iconst (pc := 34) E dX6_isAhead_34 rfl ?_
      refine g_goto (pc := 35) (tgt := 58) E dX6_isAhead_35 (by decide) ?_
      refine g_zret (pc := 58) E hr dX6_isAhead_58 (by first | exact Or.inl rfl | exact Or.inr rfl | exact bi_in _ | omega) ?_
      first | exact ⟨bi_t (by omega), rfl⟩ | exact ⟨bi_f (by omega), rfl⟩
    · refine g_iconst (pc := 30) E dX6_isAhead_30 rfl ?_
      refine g_goto (pc := 31) (tgt := 58) E dX6_isAhead_31 (by decide) ?_
      refine g_zret (pc := 58) E hr dX6_isAhead_58 (by first | exact Or.inl rfl | exact Or.inr rfl | exact bi_in _ | omega) ?_
      first | exact ⟨bi_t (by omega), rfl⟩ | exact ⟨bi_f (by omega), rfl⟩

set_option maxHeartbeats 4000000 in
theorem cv_ranks {cx : Cx} {M : Mem} {S : Int → Int} (e5 : M 185 = S) (hV : SOK S) : Cv cx yX6_ranks cX6_ranks 3 10 0 0 [rf cx 184] M (fun M' => SCm M M' ∧ LR S (S 7) (M' 195)) := by
  refine cv_intro cd_X6_ranks (by decide +kernel) (Nat.le_of_ble_eq_true rfl) rfl (fun Pg Lc Ev s m args below meth c E hr => ?_)
  refine g_ent (ls' := [some (rf cx 184), none, none]) rfl ?_
  have hV0 := hV.1
  have e5M := e5
  have hf := SCm.rf M
  refine g_iconst (pc := 0) E dX6_ranks_0 rfl ?_
  refine g_istore_n (pc := 1) E dX6_ranks_1 (i := 1) (ls' := [_, _, _]) rfl (Nat.le_of_ble_eq_true rfl) rfl ?_
  have LP2 : ∀ (n : Nat) (N : Mem) (x : Int), S 7 - x < (n : Int) → 0 ≤ x → x ≤ S 7 → SCm M N → LR S x (N 195) → RG S x N → G cx Pg Lc Ev (rmD 10 0 0) s m args below meth c (MQ below (QV cx (fun M' => SCm M M' ∧ LR S (S 7) (M' 195))) args s 0 0 (cA0 cx)) 2 [some (rf cx 184), some (.int (oi x)), none] [] (N) 0 0 := by
    intro n
    induction n with
    | zero => intro N x hn hx0 hx1 hf hL hG; exact absurd hn (by omega)
    | succ n ih2 =>
      intro N x hn hx0 hx1 hf hL hG
      have e5 : N 185 = S := hf.e e5M
      refine g_iload_n (pc := 2) E dX6_ranks_2 (i := 1) rfl rfl ?_
      refine g_aload_n (pc := 3) E dX6_ranks_3 (i := 0) rfl rfl ?_
      refine g_getr (i := 184) (j := 185) (t := 6) (f := 0) (pc := 4) E dX6_ranks_4 fl_X6_9 rfl (by decide) (by decide) rfl rfl ?_
      refine g_bipush (pc := 7) E dX6_ranks_7 rfl ?_
      refine g_iald (pc := 9) E dX6_ranks_9 rfl (by omega) (by omega) (congrFun e5 _) (fun _ _ => ?_)
      refine g_icmp_ge (pc := 10) (tgt := 111) E dX6_ranks_10 (by decide) (fun qh10 => ?_) (fun qh10 => ?_) 
      · obtain rfl : x = S 7 := by omega
        refine g_vret (pc := 111) E hr dX6_ranks_111 ?_
        exact ⟨hf, hL⟩
      · refine g_aload_n (pc := 13) E dX6_ranks_13 (i := 0) rfl rfl ?_
        refine g_iload_n (pc := 14) E dX6_ranks_14 (i := 1) rfl rfl ?_
        refine g_iconst (pc := 15) E dX6_ranks_15 rfl ?_
        refine g_iconst (pc := 16) E dX6_ranks_16 rfl ?_
        refine g_callVv (pc := 17) (As := [_, _, _]) E dX6_ranks_17 ml_X6_90 (cv_looks e5 hV (by omega) (by omega) (by omega) (by omega)) rfl rfl rfl rfl (by decide) (by decide) rfl (Nat.le_of_ble_eq_true rfl) (by decide) (fun M17 hM17 => ?_)
        have h195 : M17 195 = N 195 := hM17.1.1 195 (by decide) (by decide) (by decide) (by decide) (by decide)
        have hgR := grS_R S (lkM S x (-1) 0)
        have havR := avS_R hV (lkM_ok hV (q := -1) (o := 0) hx0 (show x < S 7 by omega) (by decide) (by decide))
        refine g_aload_n (pc := 20) E dX6_ranks_20 (i := 0) rfl rfl ?_
        refine g_getr (i := 184) (j := 196) (t := 6) (f := 25) (pc := 21) E dX6_ranks_21 fl_X6_44 rfl (by decide) (by decide) rfl rfl ?_
        refine g_iload_n (pc := 24) E dX6_ranks_24 (i := 1) rfl rfl ?_
        refine g_aload_n (pc := 25) E dX6_ranks_25 (i := 0) rfl rfl ?_
        refine g_geti (i := 184) (t := 6) (f := 21) (fz := 21) (pc := 26) E dX6_ranks_26 fl_X6_134 rfl (by decide) (by decide) rfl rfl hM17.2.2.2.2.2.2.1 (fun _ _ => ?_)
        refine g_if_ne (pc := 29) (tgt := 37) E dX6_ranks_29 (by decide) (fun qh29 => ?_) (fun qh29 => ?_) 
        · refine g_aload_n (pc := 37) E dX6_ranks_37 (i := 0) rfl rfl ?_
          refine g_geti (i := 184) (t := 6) (f := 21) (fz := 21) (pc := 38) E dX6_ranks_38 fl_X6_134 rfl (by decide) (by decide) rfl rfl hM17.2.2.2.2.2.2.1 (fun _ _ => ?_)
          refine g_iast (pc := 41) E dX6_ranks_41 rfl (by omega) (by omega) ?_ 
          refine g_aload_n (pc := 42) E dX6_ranks_42 (i := 0) rfl rfl ?_
          refine g_getr (i := 184) (j := 197) (t := 6) (f := 26) (pc := 43) E dX6_ranks_43 fl_X6_47 rfl (by decide) (by decide) rfl rfl ?_
          refine g_iload_n (pc := 46) E dX6_ranks_46 (i := 1) rfl rfl ?_
          refine g_iconst (pc := 47) E dX6_ranks_47 rfl ?_
          refine g_aload_n (pc := 48) E dX6_ranks_48 (i := 0) rfl rfl ?_
          refine g_geti (i := 184) (t := 6) (f := 20) (fz := 20) (pc := 49) E dX6_ranks_49 fl_X6_150 rfl (by decide) (by decide) rfl rfl (v := avS S (lkM S x (-1) 0)) (by rw [st_ne (by decide)]; exact hM17.2.2.2.2.2.1) (fun _ _ => ?_)
          refine g_max (pc := 52) E dX6_ranks_52 (big_at 1270 (by decide +kernel) (by decide +kernel)) rfl (by decide) (Nat.le_of_ble_eq_true rfl) (by decide) ?_ 
          refine g_iast (pc := 55) E dX6_ranks_55 rfl (by omega) (by omega) ?_ 
          refine g_iload_n (pc := 56) E dX6_ranks_56 (i := 1) rfl rfl ?_
          refine g_istore_n (pc := 57) E dX6_ranks_57 (i := 2) (ls' := [_, _, _]) rfl (Nat.le_of_ble_eq_true rfl) rfl ?_
          have LP58 : ∀ (n : Nat) (O : Mem) (k : Int), k < (n : Int) → 0 ≤ k → k ≤ x → SCm M O → RG S (x + 1) O → (∀ j, 0 ≤ j → j < k → O 195 j = N 195 j) → (∀ j, k < j → j ≤ x → O 195 j = N 195 (j - 1)) → (∀ j, k ≤ j → j < x → bef S x (N 195 j)) → G cx Pg Lc Ev (rmD 10 0 0) s m args below meth c (MQ below (QV cx (fun M' => SCm M M' ∧ LR S (S 7) (M' 195))) args s 0 0 (cA0 cx)) 58 [some (rf cx 184), some (.int (oi x)), some (.int (oi k))] [] (O) 0 0 := by
            intro n
            induction n with
            | zero => intro O k hnk hk0 hk1 hfO hGO hA hB hC; exact absurd hnk (by omega)
            | succ n ih58 =>
              intro O k hnk hk0 hk1 hfO hGO hA hB hC
              refine g_iload_n (pc := 58) E dX6_ranks_58 (i := 2) rfl rfl ?_
              refine g_if_le (pc := 59) (tgt := 98) E dX6_ranks_59 (by decide) (fun qh59 => ?_) (fun qh59 => ?_) 
              · refine g_aload_n (pc := 98) E dX6_ranks_98 (i := 0) rfl rfl ?_
                refine g_getr (i := 184) (j := 195) (t := 6) (f := 24) (pc := 99) E dX6_ranks_99 fl_X6_41 rfl (by decide) (by decide) rfl rfl ?_
                refine g_iload_n (pc := 102) E dX6_ranks_102 (i := 2) rfl rfl ?_
                refine g_iload_n (pc := 103) E dX6_ranks_103 (i := 1) rfl rfl ?_
                refine g_iast (pc := 104) E dX6_ranks_104 rfl (by omega) (by omega) ?_ 
                refine g_iinc (pc := 105) E dX6_ranks_105 (ls' := [_, _, _]) rfl rfl rfl ?_
                refine g_goto (pc := 108) (tgt := 2) E dX6_ranks_108 (by decide) ?_
                exact g_wk2 (ih2 _ (x + 1) (by omega) (by omega) (by omega) (hfO.st (by decide) (by decide) _ _) (LR_step hL hk0 hk1 (fun j a b => by rw [st_off (by omega)]; exact hA j a b) (st_self _ _ _ _) (fun j a b => by rw [st_off (by omega)]; exact hB j a b) hC (Or.inl (by omega))) (RG_st hGO)) ⟨rfl, rfl, trivial⟩
              · have hj := hA (k - 1) (by omega) (by omega)
                have hr := hL.1 (k - 1) (by omega) (by omega)
                have hg1 := hGO x (by omega) (by omega)
                have hg2 := hGO (N 195 (k - 1)) (by omega) (by omega)
                rw [← hj] at hr
                refine g_aload_n (pc := 62) E dX6_ranks_62 (i := 0) rfl rfl ?_
                refine g_iload_n (pc := 63) E dX6_ranks_63 (i := 1) rfl rfl ?_
                refine g_aload_n (pc := 64) E dX6_ranks_64 (i := 0) rfl rfl ?_
                refine g_getr (i := 184) (j := 195) (t := 6) (f := 24) (pc := 65) E dX6_ranks_65 fl_X6_41 rfl (by decide) (by decide) rfl rfl ?_
                refine g_iload_n (pc := 68) E dX6_ranks_68 (i := 2) rfl rfl ?_
                refine g_iconst (pc := 69) E dX6_ranks_69 rfl ?_
                refine g_isub (pc := 70) E dX6_ranks_70 ?_
                refine g_iald (pc := 71) E dX6_ranks_71 rfl (by omega) (by omega) rfl (fun _ _ => ?_)
                refine g_callV (pc := 72) (As := [_, _]) E dX6_ranks_72 ml_X6_159 (ct_isAhead (by omega) (by omega) (by omega) (by omega)) rfl rfl rfl rfl (by decide) (by decide) rfl (Nat.le_of_ble_eq_true rfl) (by decide) (fun x72 M72 hM72 => ?_)
                obtain ⟨rfl, rfl⟩ := hM72
                refine g_if_eq (pc := 75) (tgt := 98) E dX6_ranks_75 (by decide) (fun qh75 => ?_) (fun qh75 => ?_) (Int.le_trans (by decide) (bi_R _).1) (Int.le_trans (bi_R _).2 (by decide))
                · replace qh75 := bi_0.mp qh75
                  refine g_aload_n (pc := 98) E dX6_ranks_98 (i := 0) rfl rfl ?_
                  refine g_getr (i := 184) (j := 195) (t := 6) (f := 24) (pc := 99) E dX6_ranks_99 fl_X6_41 rfl (by decide) (by decide) rfl rfl ?_
                  refine g_iload_n (pc := 102) E dX6_ranks_102 (i := 2) rfl rfl ?_
                  refine g_iload_n (pc := 103) E dX6_ranks_103 (i := 1) rfl rfl ?_
                  refine g_iast (pc := 104) E dX6_ranks_104 rfl (by omega) (by omega) ?_ 
                  refine g_iinc (pc := 105) E dX6_ranks_105 (ls' := [_, _, _]) rfl rfl rfl ?_
                  refine g_goto (pc := 108) (tgt := 2) E dX6_ranks_108 (by decide) ?_
                  exact g_wk2 (ih2 _ (x + 1) (by omega) (by omega) (by omega) (hfO.st (by decide) (by decide) _ _) (LR_step hL hk0 hk1 (fun j a b => by rw [st_off (by omega)]; exact hA j a b) (st_self _ _ _ _) (fun j a b => by rw [st_off (by omega)]; exact hB j a b) hC (Or.inr (by rw [hj] at hr qh75; rw [hg1.1, hg1.2, hg2.1, hg2.2] at qh75; unfold bef; omega))) (RG_st hGO)) ⟨rfl, rfl, trivial⟩
                · replace qh75 := bi_n.mp qh75
                  refine g_aload_n (pc := 78) E dX6_ranks_78 (i := 0) rfl rfl ?_
                  refine g_getr (i := 184) (j := 195) (t := 6) (f := 24) (pc := 79) E dX6_ranks_79 fl_X6_41 rfl (by decide) (by decide) rfl rfl ?_
                  refine g_iload_n (pc := 82) E dX6_ranks_82 (i := 2) rfl rfl ?_
                  refine g_aload_n (pc := 83) E dX6_ranks_83 (i := 0) rfl rfl ?_
                  refine g_getr (i := 184) (j := 195) (t := 6) (f := 24) (pc := 84) E dX6_ranks_84 fl_X6_41 rfl (by decide) (by decide) rfl rfl ?_
                  refine g_iload_n (pc := 87) E dX6_ranks_87 (i := 2) rfl rfl ?_
                  refine g_iconst (pc := 88) E dX6_ranks_88 rfl ?_
                  refine g_isub (pc := 89) E dX6_ranks_89 ?_
                  refine g_iald (pc := 90) E dX6_ranks_90 rfl (by omega) (by omega) rfl (fun _ _ => ?_)
                  refine g_iast (pc := 91) E dX6_ranks_91 rfl (by omega) (by omega) ?_ 
                  refine g_iinc (pc := 92) E dX6_ranks_92 (ls' := [_, _, _]) rfl rfl rfl ?_
                  refine g_goto (pc := 95) (tgt := 58) E dX6_ranks_95 (by decide) ?_
                  exact g_wk2 (ih58 _ (k - 1) (by omega) (by omega) (by omega) (hfO.st (by decide) (by decide) _ _) (RG_st hGO) (fun j a b => by rw [st_off (by omega)]; exact hA j a (by omega)) (fun j a b => by
                    by_cases h : j = k
                    · rw [h, st_self]; exact hj
                    · rw [st_off h]; exact hB j (by omega) b) (fun j a b => by
                    by_cases h : j = k - 1
                    · rw [h]; rw [hj] at hr qh75; rw [hg1.1, hg1.2, hg2.1, hg2.2] at qh75; unfold bef; omega
                    · exact hC j (by omega) b)) ⟨rfl, rfl, rfl, trivial⟩
          exact g_wk2 (LP58 (x + 1).toNat _ x (by omega) (by omega) (by omega) (((hf.tr hM17.1.sc).st (by decide) (by decide) _ _).st (by decide) (by decide) _ _) (RG_s hG hM17.1 (by rw [gkS, if_neg (by omega)]) rfl) (fun j a b => by rw [st_ne (by decide), st_ne (by decide), h195]) (fun j a b => absurd b (by omega)) (fun j a b => absurd b (by omega))) ⟨rfl, rfl, rfl, trivial⟩
        · refine g_bipush (pc := 32) E dX6_ranks_32 rfl ?_
          refine g_goto (pc := 34) (tgt := 41) E dX6_ranks_34 (by decide) ?_
          refine g_iast (pc := 41) E dX6_ranks_41 rfl (by omega) (by omega) ?_ 
          refine g_aload_n (pc := 42) E dX6_ranks_42 (i := 0) rfl rfl ?_
          refine g_getr (i := 184) (j := 197) (t := 6) (f := 26) (pc := 43) E dX6_ranks_43 fl_X6_47 rfl (by decide) (by decide) rfl rfl ?_
          refine g_iload_n (pc := 46) E dX6_ranks_46 (i := 1) rfl rfl ?_
          refine g_iconst (pc := 47) E dX6_ranks_47 rfl ?_
          refine g_aload_n (pc := 48) E dX6_ranks_48 (i := 0) rfl rfl ?_
          refine g_geti (i := 184) (t := 6) (f := 20) (fz := 20) (pc := 49) E dX6_ranks_49 fl_X6_150 rfl (by decide) (by decide) rfl rfl (v := avS S (lkM S x (-1) 0)) (by rw [st_ne (by decide)]; exact hM17.2.2.2.2.2.1) (fun _ _ => ?_)
          refine g_max (pc := 52) E dX6_ranks_52 (big_at 1270 (by decide +kernel) (by decide +kernel)) rfl (by decide) (Nat.le_of_ble_eq_true rfl) (by decide) ?_ 
          refine g_iast (pc := 55) E dX6_ranks_55 rfl (by omega) (by omega) ?_ 
          refine g_iload_n (pc := 56) E dX6_ranks_56 (i := 1) rfl rfl ?_
          refine g_istore_n (pc := 57) E dX6_ranks_57 (i := 2) (ls' := [_, _, _]) rfl (Nat.le_of_ble_eq_true rfl) rfl ?_
          have LP58 : ∀ (n : Nat) (O : Mem) (k : Int), k < (n : Int) → 0 ≤ k → k ≤ x → SCm M O → RG S (x + 1) O → (∀ j, 0 ≤ j → j < k → O 195 j = N 195 j) → (∀ j, k < j → j ≤ x → O 195 j = N 195 (j - 1)) → (∀ j, k ≤ j → j < x → bef S x (N 195 j)) → G cx Pg Lc Ev (rmD 10 0 0) s m args below meth c (MQ below (QV cx (fun M' => SCm M M' ∧ LR S (S 7) (M' 195))) args s 0 0 (cA0 cx)) 58 [some (rf cx 184), some (.int (oi x)), some (.int (oi k))] [] (O) 0 0 := by
            intro n
            induction n with
            | zero => intro O k hnk hk0 hk1 hfO hGO hA hB hC; exact absurd hnk (by omega)
            | succ n ih58 =>
              intro O k hnk hk0 hk1 hfO hGO hA hB hC
              refine g_iload_n (pc := 58) E dX6_ranks_58 (i := 2) rfl rfl ?_
              refine g_if_le (pc := 59) (tgt := 98) E dX6_ranks_59 (by decide) (fun qh59 => ?_) (fun qh59 => ?_) 
              · refine g_aload_n (pc := 98) E dX6_ranks_98 (i := 0) rfl rfl ?_
                refine g_getr (i := 184) (j := 195) (t := 6) (f := 24) (pc := 99) E dX6_ranks_99 fl_X6_41 rfl (by decide) (by decide) rfl rfl ?_
                refine g_iload_n (pc := 102) E dX6_ranks_102 (i := 2) rfl rfl ?_
                refine g_iload_n (pc := 103) E dX6_ranks_103 (i := 1) rfl rfl ?_
                refine g_iast (pc := 104) E dX6_ranks_104 rfl (by omega) (by omega) ?_ 
                refine g_iinc (pc := 105) E dX6_ranks_105 (ls' := [_, _, _]) rfl rfl rfl ?_
                refine g_goto (pc := 108) (tgt := 2) E dX6_ranks_108 (by decide) ?_
                exact g_wk2 (ih2 _ (x + 1) (by omega) (by omega) (by omega) (hfO.st (by decide) (by decide) _ _) (LR_step hL hk0 hk1 (fun j a b => by rw [st_off (by omega)]; exact hA j a b) (st_self _ _ _ _) (fun j a b => by rw [st_off (by omega)]; exact hB j a b) hC (Or.inl (by omega))) (RG_st hGO)) ⟨rfl, rfl, trivial⟩
              · have hj := hA (k - 1) (by omega) (by omega)
                have hr := hL.1 (k - 1) (by omega) (by omega)
                have hg1 := hGO x (by omega) (by omega)
                have hg2 := hGO (N 195 (k - 1)) (by omega) (by omega)
                rw [← hj] at hr
                refine g_aload_n (pc := 62) E dX6_ranks_62 (i := 0) rfl rfl ?_
                refine g_iload_n (pc := 63) E dX6_ranks_63 (i := 1) rfl rfl ?_
                refine g_aload_n (pc := 64) E dX6_ranks_64 (i := 0) rfl rfl ?_
                refine g_getr (i := 184) (j := 195) (t := 6) (f := 24) (pc := 65) E dX6_ranks_65 fl_X6_41 rfl (by decide) (by decide) rfl rfl ?_
                refine g_iload_n (pc := 68) E dX6_ranks_68 (i := 2) rfl rfl ?_
                refine g_iconst (pc := 69) E dX6_ranks_69 rfl ?_
                refine g_isub (pc := 70) E dX6_ranks_70 ?_
                refine g_iald (pc := 71) E dX6_ranks_71 rfl (by omega) (by omega) rfl (fun _ _ => ?_)
                refine g_callV (pc := 72) (As := [_, _]) E dX6_ranks_72 ml_X6_159 (ct_isAhead (by omega) (by omega) (by omega) (by omega)) rfl rfl rfl rfl (by decide) (by decide) rfl (Nat.le_of_ble_eq_true rfl) (by decide) (fun x72 M72 hM72 => ?_)
                obtain ⟨rfl, rfl⟩ := hM72
                refine g_if_eq (pc := 75) (tgt := 98) E dX6_ranks_75 (by decide) (fun qh75 => ?_) (fun qh75 => ?_) (Int.le_trans (by decide) (bi_R _).1) (Int.le_trans (bi_R _).2 (by decide))
                · replace qh75 := bi_0.mp qh75
                  refine g_aload_n (pc := 98) E dX6_ranks_98 (i := 0) rfl rfl ?_
                  refine g_getr (i := 184) (j := 195) (t := 6) (f := 24) (pc := 99) E dX6_ranks_99 fl_X6_41 rfl (by decide) (by decide) rfl rfl ?_
                  refine g_iload_n (pc := 102) E dX6_ranks_102 (i := 2) rfl rfl ?_
                  refine g_iload_n (pc := 103) E dX6_ranks_103 (i := 1) rfl rfl ?_
                  refine g_iast (pc := 104) E dX6_ranks_104 rfl (by omega) (by omega) ?_ 
                  refine g_iinc (pc := 105) E dX6_ranks_105 (ls' := [_, _, _]) rfl rfl rfl ?_
                  refine g_goto (pc := 108) (tgt := 2) E dX6_ranks_108 (by decide) ?_
                  exact g_wk2 (ih2 _ (x + 1) (by omega) (by omega) (by omega) (hfO.st (by decide) (by decide) _ _) (LR_step hL hk0 hk1 (fun j a b => by rw [st_off (by omega)]; exact hA j a b) (st_self _ _ _ _) (fun j a b => by rw [st_off (by omega)]; exact hB j a b) hC (Or.inr (by rw [hj] at hr qh75; rw [hg1.1, hg1.2, hg2.1, hg2.2] at qh75; unfold bef; omega))) (RG_st hGO)) ⟨rfl, rfl, trivial⟩
                · replace qh75 := bi_n.mp qh75
                  refine g_aload_n (pc := 78) E dX6_ranks_78 (i := 0) rfl rfl ?_
                  refine g_getr (i := 184) (j := 195) (t := 6) (f := 24) (pc := 79) E dX6_ranks_79 fl_X6_41 rfl (by decide) (by decide) rfl rfl ?_
                  refine g_iload_n (pc := 82) E dX6_ranks_82 (i := 2) rfl rfl ?_
                  refine g_aload_n (pc := 83) E dX6_ranks_83 (i := 0) rfl rfl ?_
                  refine g_getr (i := 184) (j := 195) (t := 6) (f := 24) (pc := 84) E dX6_ranks_84 fl_X6_41 rfl (by decide) (by decide) rfl rfl ?_
                  refine g_iload_n (pc := 87) E dX6_ranks_87 (i := 2) rfl rfl ?_
                  refine g_iconst (pc := 88) E dX6_ranks_88 rfl ?_
                  refine g_isub (pc := 89) E dX6_ranks_89 ?_
                  refine g_iald (pc := 90) E dX6_ranks_90 rfl (by omega) (by omega) rfl (fun _ _ => ?_)
                  refine g_iast (pc := 91) E dX6_ranks_91 rfl (by omega) (by omega) ?_ 
                  refine g_iinc (pc := 92) E dX6_ranks_92 (ls' := [_, _, _]) rfl rfl rfl ?_
                  refine g_goto (pc := 95) (tgt := 58) E dX6_ranks_95 (by decide) ?_
                  exact g_wk2 (ih58 _ (k - 1) (by omega) (by omega) (by omega) (hfO.st (by decide) (by decide) _ _) (RG_st hGO) (fun j a b => by rw [st_off (by omega)]; exact hA j a (by omega)) (fun j a b => by
                    by_cases h : j = k
                    · rw [h, st_self]; exact hj
                    · rw [st_off h]; exact hB j (by omega) b) (fun j a b => by
                    by_cases h : j = k - 1
                    · rw [h]; rw [hj] at hr qh75; rw [hg1.1, hg1.2, hg2.1, hg2.2] at qh75; unfold bef; omega
                    · exact hC j (by omega) b)) ⟨rfl, rfl, rfl, trivial⟩
          exact g_wk2 (LP58 (x + 1).toNat _ x (by omega) (by omega) (by omega) (((hf.tr hM17.1.sc).st (by decide) (by decide) _ _).st (by decide) (by decide) _ _) (RG_s hG hM17.1 (by rw [gkS, if_pos (by omega)]) rfl) (fun j a b => by rw [st_ne (by decide), st_ne (by decide), h195]) (fun j a b => absurd b (by omega)) (fun j a b => absurd b (by omega))) ⟨rfl, rfl, rfl, trivial⟩
  exact g_wk2 (LP2 (S 7 + 1).toNat M 0 (by omega) (by omega) (by omega) hf (LR_0 S _) (fun j a b => absurd b (by omega))) ⟨rfl, rfl, trivial⟩

def skF (S : Int → Int) (s w p : Int) : Int := if w = 7 then (if 0 ≤ lkM S s (-1) 0 p then 1 else 0) else (if 0 ≤ S (57 + 3 * (8 * s + p) + 2) then 1 else 0)
def skS (S : Int → Int) (s w : Int) : Int := if ¬ inT S s then -1 else if ¬ (0 ≤ w ∧ w ≤ 8) then -2 else if w = 6 then plS S s else if w = 0 then S (37 + s) else if w = 1 then (if avS S (lkM S s (-1) 0) < 0 then -5 else avS S (lkM S s (-1) 0)) else if w = 2 then grS S (lkM S s (-1) 0) else if w = 3 then pcrS S (lkM S s (-1) 0) else if w = 4 then cmpS S (lkM S s (-1) 0) (S 6) else if w = 5 then sz (f3 S (lkM S s (-1) 0)) (S 6) else sz (skF S s w) (S 6)
def rdS (S : Int → Int) (k : Int) : Int := if ¬ inT S k then -1 else rkS S k

theorem ct_ranked {cx : Cx} {M : Mem} {S : Int → Int} (e5 : M 185 = S) {pl : Int} (hV : SOK S) (hpl : -2147483648 ≤ pl ∧ pl ≤ 2147483647) : Ct cx yX6_ranked cX6_ranked 2 (some .int) 11 0 0 [rf cx 184, .int (oi pl)] M (fun rz M' => rdS S pl = rz ∧ SCm M M') := by
  refine ct_intro cd_X6_ranked (by decide +kernel) (Nat.le_of_ble_eq_true rfl) rfl (fun Pg Lc Ev s m args below meth c E hr => ?_)
  refine g_ent (ls' := [some (rf cx 184), some (.int (oi pl))]) rfl ?_
  have hV0 := hV.1
  refine g_aload_n (pc := 0) E dX6_ranked_0 (i := 0) rfl rfl ?_
  refine g_iload_n (pc := 1) E dX6_ranked_1 (i := 1) rfl rfl ?_
  refine g_callV (pc := 2) (As := [_]) E dX6_ranked_2 ml_X6_168 (ct_isStudent e5 hV (by omega)) rfl rfl rfl rfl (by decide) (by decide) rfl (Nat.le_of_ble_eq_true rfl) (by decide) (fun x2 M2 hM2 => ?_)
  obtain ⟨rfl, rfl⟩ := hM2
  refine g_if_ne (pc := 5) (tgt := 10) E dX6_ranked_5 (by decide) (fun qh5 => ?_) (fun qh5 => ?_) (Int.le_trans (by decide) (bi_R _).1) (Int.le_trans (bi_R _).2 (by decide))
  · replace qh5 := bi_n.mp qh5
    refine g_aload_n (pc := 10) E dX6_ranked_10 (i := 0) rfl rfl ?_
    refine g_callVv (pc := 11) (As := []) E dX6_ranked_11 ml_X6_199 (cv_ranks e5 hV) rfl rfl rfl rfl (by decide) (by decide) rfl (Nat.le_of_ble_eq_true rfl) (by decide) (fun M11 hM11 => ?_)
    have hk := LR_rk hM11.2 (k := pl) (by omega) (by omega)
    refine g_aload_n (pc := 14) E dX6_ranked_14 (i := 0) rfl rfl ?_
    refine g_getr (i := 184) (j := 195) (t := 6) (f := 24) (pc := 15) E dX6_ranked_15 fl_X6_41 rfl (by decide) (by decide) rfl rfl ?_
    refine g_iload_n (pc := 18) E dX6_ranked_18 (i := 1) rfl rfl ?_
    refine g_iald (pc := 19) E dX6_ranked_19 rfl (by omega) (by omega) hk (fun _ _ => ?_)
    refine g_iret (pc := 20) E hr dX6_ranked_20 ?_
    exact ⟨by rw [rdS, if_neg (by omega)], hM11.1⟩
  · replace qh5 := bi_0.mp qh5
    refine g_iconst (pc := 8) E dX6_ranked_8 rfl ?_
    refine g_iret (pc := 9) E hr dX6_ranked_9 ?_
    exact ⟨by rw [rdS, if_pos (by omega)], SCm.rf M⟩

set_option maxHeartbeats 4000000 in
theorem ct_student {cx : Cx} {M : Mem} {S : Int → Int} (e5 : M 185 = S) {sn w : Int} (hV : SOK S) (hsn : -2147483648 ≤ sn ∧ sn ≤ 2147483647) (hw : -2147483648 ≤ w ∧ w ≤ 2147483647) : Ct cx yX6_student cX6_student 5 (some .int) 11 0 0 [rf cx 184, .int (oi sn), .int (oi w)] M (fun rz M' => skS S sn w = rz ∧ SCm M M') := by
  refine ct_intro cd_X6_student (by decide +kernel) (Nat.le_of_ble_eq_true rfl) rfl (fun Pg Lc Ev s m args below meth c E hr => ?_)
  refine g_ent (ls' := [some (rf cx 184), some (.int (oi sn)), some (.int (oi w)), none, none]) rfl ?_
  have hV0 := hV.1
  have e5M := e5
  have hf := LKf.rf M
  refine g_aload_n (pc := 0) E dX6_student_0 (i := 0) rfl rfl ?_
  refine g_iload_n (pc := 1) E dX6_student_1 (i := 1) rfl rfl ?_
  refine g_callV (pc := 2) (As := [_]) E dX6_student_2 ml_X6_168 (ct_isStudent e5 hV (by omega)) rfl rfl rfl rfl (by decide) (by decide) rfl (Nat.le_of_ble_eq_true rfl) (by decide) (fun x2 M2 hM2 => ?_)
  obtain ⟨rfl, rfl⟩ := hM2
  refine g_if_ne (pc := 5) (tgt := 10) E dX6_student_5 (by decide) (fun qh5 => ?_) (fun qh5 => ?_) (Int.le_trans (by decide) (bi_R _).1) (Int.le_trans (bi_R _).2 (by decide))
  · replace qh5 := bi_n.mp qh5
    refine g_iload_n (pc := 10) E dX6_student_10 (i := 2) rfl rfl ?_
    refine g_iconst (pc := 11) E dX6_student_11 rfl ?_
    refine g_bipush (pc := 12) E dX6_student_12 rfl ?_
    refine g_callS (pc := 14) (As := [_, _, _]) E dX6_student_14 ml_X6_66 (ct_in (by omega) (by omega) (by omega)) rfl rfl (by decide) (by decide) rfl (Nat.le_of_ble_eq_true rfl) (by decide) (fun x14 M14 hM14 => ?_)
    obtain ⟨rfl, rfl⟩ := hM14
    refine g_if_ne (pc := 17) (tgt := 23) E dX6_student_17 (by decide) (fun qh17 => ?_) (fun qh17 => ?_) (Int.le_trans (by decide) (bi_R _).1) (Int.le_trans (bi_R _).2 (by decide))
    · replace qh17 := bi_n.mp qh17
      refine g_iconst (pc := 23) E dX6_student_23 rfl ?_
      refine g_istore_n (pc := 24) E dX6_student_24 (i := 3) (ls' := [_, _, _, _, _]) rfl (Nat.le_of_ble_eq_true rfl) rfl ?_
      refine g_iload_n (pc := 25) E dX6_student_25 (i := 2) rfl rfl ?_
      refine g_bipush (pc := 26) E dX6_student_26 rfl ?_
      refine g_icmp_ne (pc := 28) (tgt := 53) E dX6_student_28 (by decide) (fun qh28 => ?_) (fun qh28 => ?_) 
      · refine g_aload_n (pc := 53) E dX6_student_53 (i := 0) rfl rfl ?_
        refine g_iload_n (pc := 54) E dX6_student_54 (i := 1) rfl rfl ?_
        refine g_iconst (pc := 55) E dX6_student_55 rfl ?_
        refine g_iconst (pc := 56) E dX6_student_56 rfl ?_
        refine g_callVv (pc := 57) (As := [_, _, _]) E dX6_student_57 ml_X6_90 (cv_looks e5 hV (by omega) (by omega) (by omega) (by omega)) rfl rfl rfl rfl (by decide) (by decide) rfl (Nat.le_of_ble_eq_true rfl) (by decide) (fun M57 hM57 => ?_)
        have hf57 := LKf.tr hf hM57.1
        have e5 : M57 185 = S := hf57.e e5M
        have hgR := grS_R S (lkM S sn (-1) 0)
        have havR := avS_R hV (lkM_ok hV (q := -1) (o := 0) (show 0 ≤ sn by omega) (show sn < S 7 by omega) (by decide) (by decide))
        refine g_iload_n (pc := 60) E dX6_student_60 (i := 2) rfl rfl ?_
        by_cases qs61_0 : w = 0
        · refine g_tableIn (pc := 61) (tgt := 100) (off := 39) E dX6_student_61 (by omega) (by omega) (by rw [qs61_0]; rfl) (by decide) ?_
          refine g_aload_n (pc := 100) E dX6_student_100 (i := 0) rfl rfl ?_
          refine g_getr (i := 184) (j := 185) (t := 6) (f := 0) (pc := 101) E dX6_student_101 fl_X6_9 rfl (by decide) (by decide) rfl rfl ?_
          refine g_bipush (pc := 104) E dX6_student_104 rfl ?_
          refine g_iload_n (pc := 106) E dX6_student_106 (i := 1) rfl rfl ?_
          refine g_iadd (pc := 107) E dX6_student_107 ?_
          refine g_iald (pc := 108) E dX6_student_108 rfl (by omega) (by omega) (congrFun e5 _) (fun _ _ => ?_)
          refine g_iret (pc := 109) E hr dX6_student_109 ?_
          exact ⟨by rw [skS, if_neg (by omega), if_neg (by omega), if_neg (by omega), if_pos (by omega)], hf57.sc⟩
        by_cases qs61_1 : w = 1
        · refine g_tableIn (pc := 61) (tgt := 110) (off := 49) E dX6_student_61 (by omega) (by omega) (by rw [qs61_1]; rfl) (by decide) ?_
          refine g_aload_n (pc := 110) E dX6_student_110 (i := 0) rfl rfl ?_
          refine g_geti (i := 184) (t := 6) (f := 20) (fz := 20) (pc := 111) E dX6_student_111 fl_X6_150 rfl (by decide) (by decide) rfl rfl hM57.2.2.2.2.2.1 (fun _ _ => ?_)
          refine g_if_ge (pc := 114) (tgt := 122) E dX6_student_114 (by decide) (fun qh114 => ?_) (fun qh114 => ?_) 
          · refine g_aload_n (pc := 122) E dX6_student_122 (i := 0) rfl rfl ?_
            refine g_geti (i := 184) (t := 6) (f := 20) (fz := 20) (pc := 123) E dX6_student_123 fl_X6_150 rfl (by decide) (by decide) rfl rfl hM57.2.2.2.2.2.1 (fun _ _ => ?_)
            refine g_iret (pc := 126) E hr dX6_student_126 ?_
            exact ⟨by rw [skS, if_neg (by omega), if_neg (by omega), if_neg (by omega), if_neg (by omega), if_pos (by omega), if_neg (by omega)], hf57.sc⟩
          · refine g_bipush (pc := 117) E dX6_student_117 rfl ?_
            refine g_goto (pc := 119) (tgt := 126) E dX6_student_119 (by decide) ?_
            refine g_iret (pc := 126) E hr dX6_student_126 ?_
            exact ⟨by rw [skS, if_neg (by omega), if_neg (by omega), if_neg (by omega), if_neg (by omega), if_pos (by omega), if_pos (by omega)], hf57.sc⟩
        by_cases qs61_2 : w = 2
        · refine g_tableIn (pc := 61) (tgt := 127) (off := 66) E dX6_student_61 (by omega) (by omega) (by rw [qs61_2]; rfl) (by decide) ?_
          refine g_aload_n (pc := 127) E dX6_student_127 (i := 0) rfl rfl ?_
          refine g_geti (i := 184) (t := 6) (f := 21) (fz := 21) (pc := 128) E dX6_student_128 fl_X6_134 rfl (by decide) (by decide) rfl rfl hM57.2.2.2.2.2.2.1 (fun _ _ => ?_)
          refine g_iret (pc := 131) E hr dX6_student_131 ?_
          exact ⟨by rw [skS, if_neg (by omega), if_neg (by omega), if_neg (by omega), if_neg (by omega), if_neg (by omega), if_pos (by omega)], hf57.sc⟩
        by_cases qs61_3 : w = 3
        · refine g_tableIn (pc := 61) (tgt := 132) (off := 71) E dX6_student_61 (by omega) (by omega) (by rw [qs61_3]; rfl) (by decide) ?_
          refine g_aload_n (pc := 132) E dX6_student_132 (i := 0) rfl rfl ?_
          refine g_callV (pc := 133) (As := []) E dX6_student_133 ml_X6_202 (ct_passedCredits e5 hV (fun m h0 h1 => (hM57.2.2.1 m h0 h1).2)) rfl rfl rfl rfl (by decide) (by decide) rfl (Nat.le_of_ble_eq_true rfl) (by decide) (fun x133 M133 hM133 => ?_)
          obtain ⟨rfl, rfl⟩ := hM133
          refine g_iret (pc := 136) E hr dX6_student_136 ?_
          exact ⟨by rw [skS, if_neg (by omega), if_neg (by omega), if_neg (by omega), if_neg (by omega), if_neg (by omega), if_neg (by omega), if_pos (by omega)], hf57.sc⟩
        by_cases qs61_4 : w = 4
        · refine g_tableIn (pc := 61) (tgt := 137) (off := 76) E dX6_student_61 (by omega) (by omega) (by rw [qs61_4]; rfl) (by decide) ?_
          refine g_aload_n (pc := 137) E dX6_student_137 (i := 0) rfl rfl ?_
          refine g_geti (i := 184) (t := 6) (f := 18) (fz := 18) (pc := 138) E dX6_student_138 fl_X6_123 rfl (by decide) (by decide) rfl rfl hM57.2.2.2.1 (fun _ _ => ?_)
          refine g_iret (pc := 141) E hr dX6_student_141 ?_
          exact ⟨by rw [skS, if_neg (by omega), if_neg (by omega), if_neg (by omega), if_neg (by omega), if_neg (by omega), if_neg (by omega), if_neg (by omega), if_pos (by omega)], hf57.sc⟩
        by_cases qs61_5 : w = 5
        · refine g_tableIn (pc := 61) (tgt := 142) (off := 81) E dX6_student_61 (by omega) (by omega) (by rw [qs61_5]; rfl) (by decide) ?_
          refine g_aload_n (pc := 142) E dX6_student_142 (i := 0) rfl rfl ?_
          refine g_geti (i := 184) (t := 6) (f := 19) (fz := 19) (pc := 143) E dX6_student_143 fl_X6_126 rfl (by decide) (by decide) rfl rfl hM57.2.2.2.2.1 (fun _ _ => ?_)
          refine g_iret (pc := 146) E hr dX6_student_146 ?_
          exact ⟨by rw [skS, if_neg (by omega), if_neg (by omega), if_neg (by omega), if_neg (by omega), if_neg (by omega), if_neg (by omega), if_neg (by omega), if_neg (by omega), if_pos (by omega)], hf57.sc⟩
        refine g_tableOut (pc := 61) (tgt := 147) E dX6_student_61 (by omega) (by decide) ?_
        refine g_iconst (pc := 147) E dX6_student_147 rfl ?_
        refine g_istore (pc := 148) E dX6_student_148 (ls' := [_, _, _, _, _]) (Nat.le_of_ble_eq_true rfl) rfl ?_
        have LP150 : ∀ (n : Nat) (x a : Int), S 6 - x < (n : Int) → 0 ≤ x → x ≤ S 6 → a = sz (skF S sn w) x → G cx Pg Lc Ev (rmD 11 0 0) s m args below meth c (MQ below (QI cx (fun rz M' => skS S sn w = rz ∧ SCm M M')) args s 0 0 (cA0 cx)) 150 [some (rf cx 184), some (.int (oi sn)), some (.int (oi w)), some (.int (oi a)), some (.int (oi x))] [] (M57) 0 0 := by
          intro n
          induction n with
          | zero => intro x a hn hx0 hx1 ha; exact absurd hn (by omega)
          | succ n ih150 =>
            intro x a hn hx0 hx1 ha
            have haR := sz_R (f := skF S sn w) (a := 0) (b := 1) hx0 (fun j _ _ => by unfold skF; (repeat' split) <;> omega)
            refine g_iload (pc := 150) E dX6_student_150 rfl ?_
            refine g_aload_n (pc := 152) E dX6_student_152 (i := 0) rfl rfl ?_
            refine g_getr (i := 184) (j := 185) (t := 6) (f := 0) (pc := 153) E dX6_student_153 fl_X6_9 rfl (by decide) (by decide) rfl rfl ?_
            refine g_bipush (pc := 156) E dX6_student_156 rfl ?_
            refine g_iald (pc := 158) E dX6_student_158 rfl (by omega) (by omega) (congrFun e5 _) (fun _ _ => ?_)
            refine g_icmp_ge (pc := 159) (tgt := 206) E dX6_student_159 (by decide) (fun qh159 => ?_) (fun qh159 => ?_) 
            · refine g_iload_n (pc := 206) E dX6_student_206 (i := 3) rfl rfl ?_
              refine g_iret (pc := 207) E hr dX6_student_207 ?_
              exact ⟨by rw [skS, if_neg (by omega), if_neg (by omega), if_neg (by omega), if_neg (by omega), if_neg (by omega), if_neg (by omega), if_neg (by omega), if_neg (by omega), if_neg (by omega), ha, show x = S 6 by omega], hf57.sc⟩
            · have hVa := hV.2.2.2.2.1 sn x (by omega) (by omega) (by omega) (by omega)
              have hmk := lkM_ok hV (q := -1) (o := 0) (show 0 ≤ sn by omega) (show sn < S 7 by omega) (by decide) (by decide) x (by omega) (by omega)
              refine g_iload_n (pc := 162) E dX6_student_162 (i := 2) rfl rfl ?_
              refine g_bipush (pc := 163) E dX6_student_163 rfl ?_
              refine g_icmp_ne (pc := 165) (tgt := 181) E dX6_student_165 (by decide) (fun qh165 => ?_) (fun qh165 => ?_) 
              · refine g_aload_n (pc := 181) E dX6_student_181 (i := 0) rfl rfl ?_
                refine g_getr (i := 184) (j := 185) (t := 6) (f := 0) (pc := 182) E dX6_student_182 fl_X6_9 rfl (by decide) (by decide) rfl rfl ?_
                refine g_iload_n (pc := 185) E dX6_student_185 (i := 1) rfl rfl ?_
                refine g_iload (pc := 186) E dX6_student_186 rfl ?_
                refine g_callS (pc := 188) (As := [_, _]) E dX6_student_188 ml_X6_81 ct_attemptAt rfl rfl (by decide) (by decide) rfl (Nat.le_of_ble_eq_true rfl) (by decide) (fun x188 M188 hM188 => ?_)
                obtain ⟨rfl, rfl⟩ := hM188
                refine g_iconst (pc := 191) E dX6_student_191 rfl ?_
                refine g_iadd (pc := 192) E dX6_student_192 ?_
                refine g_iald (pc := 193) E dX6_student_193 rfl (by omega) (by omega) (congrFun e5 _) (fun _ _ => ?_)
                refine g_if_lt (pc := 194) (tgt := 200) E dX6_student_194 (by decide) (fun qh194 => ?_) (fun qh194 => ?_) 
                · refine g_iinc (pc := 200) E dX6_student_200 (ls' := [_, _, _, _, _]) rfl rfl rfl ?_
                  refine g_goto (pc := 203) (tgt := 150) E dX6_student_203 (by decide) ?_
                  exact g_wk2 (ih150 (x + 1) a (by omega) (by omega) (by omega) (by rw [sz_s hx0, ha, show skF S sn w x = 0 from by rw [skF, if_neg (by omega), if_neg (by omega)]]; omega)) ⟨rfl, rfl, rfl, rfl, rfl, trivial⟩
                · refine g_iinc (pc := 197) E dX6_student_197 (ls' := [_, _, _, _, _]) rfl rfl rfl ?_
                  refine g_iinc (pc := 200) E dX6_student_200 (ls' := [_, _, _, _, _]) rfl rfl rfl ?_
                  refine g_goto (pc := 203) (tgt := 150) E dX6_student_203 (by decide) ?_
                  exact g_wk2 (ih150 (x + 1) (a + 1) (by omega) (by omega) (by omega) (by rw [sz_s hx0, ha, show skF S sn w x = 1 from by rw [skF, if_neg (by omega), if_pos (by omega)]])) ⟨rfl, rfl, rfl, rfl, rfl, trivial⟩
              · refine g_aload_n (pc := 168) E dX6_student_168 (i := 0) rfl rfl ?_
                refine g_getr (i := 184) (j := 191) (t := 6) (f := 14) (pc := 169) E dX6_student_169 fl_X6_28 rfl (by decide) (by decide) rfl rfl ?_
                refine g_iload (pc := 172) E dX6_student_172 rfl ?_
                refine g_iald (pc := 174) E dX6_student_174 rfl (by omega) (by omega) (hM57.2.1 x (by omega) (by omega)).1 (fun _ _ => ?_)
                refine g_if_lt (pc := 175) (tgt := 200) E dX6_student_175 (by decide) (fun qh175 => ?_) (fun qh175 => ?_) 
                · refine g_iinc (pc := 200) E dX6_student_200 (ls' := [_, _, _, _, _]) rfl rfl rfl ?_
                  refine g_goto (pc := 203) (tgt := 150) E dX6_student_203 (by decide) ?_
                  exact g_wk2 (ih150 (x + 1) a (by omega) (by omega) (by omega) (by rw [sz_s hx0, ha, show skF S sn w x = 0 from by rw [skF, if_pos (by omega), if_neg (by omega)]]; omega)) ⟨rfl, rfl, rfl, rfl, rfl, trivial⟩
                · refine g_goto (pc := 178) (tgt := 197) E dX6_student_178 (by decide) ?_
                  refine g_iinc (pc := 197) E dX6_student_197 (ls' := [_, _, _, _, _]) rfl rfl rfl ?_
                  refine g_iinc (pc := 200) E dX6_student_200 (ls' := [_, _, _, _, _]) rfl rfl rfl ?_
                  refine g_goto (pc := 203) (tgt := 150) E dX6_student_203 (by decide) ?_
                  exact g_wk2 (ih150 (x + 1) (a + 1) (by omega) (by omega) (by omega) (by rw [sz_s hx0, ha, show skF S sn w x = 1 from by rw [skF, if_pos (by omega), if_pos (by omega)]])) ⟨rfl, rfl, rfl, rfl, rfl, trivial⟩
        exact g_wk2 (LP150 (S 6 + 1).toNat 0 0 (by omega) (by omega) (by omega) rfl) ⟨rfl, rfl, rfl, rfl, rfl, trivial⟩
      · refine g_aload_n (pc := 31) E dX6_student_31 (i := 0) rfl rfl ?_
        refine g_callVv (pc := 32) (As := []) E dX6_student_32 ml_X6_199 (cv_ranks e5 hV) rfl rfl rfl rfl (by decide) (by decide) rfl (Nat.le_of_ble_eq_true rfl) (by decide) (fun M32 hM32 => ?_)
        have hE := LR_ex hM32.2 (s := sn) (by omega) (by omega)
        have LP35 : ∀ (n : Nat) (y : Int), plS S sn - y < (n : Int) → 0 ≤ y → y ≤ plS S sn → G cx Pg Lc Ev (rmD 11 0 0) s m args below meth c (MQ below (QI cx (fun rz M' => skS S sn w = rz ∧ SCm M M')) args s 0 0 (cA0 cx)) 35 [some (rf cx 184), some (.int (oi sn)), some (.int (oi w)), some (.int (oi y)), none] [] (M32) 0 0 := by
          intro n
          induction n with
          | zero => intro y hn hy0 hy1; exact absurd hn (by omega)
          | succ n ih35 =>
            intro y hn hy0 hy1
            refine g_aload_n (pc := 35) E dX6_student_35 (i := 0) rfl rfl ?_
            refine g_getr (i := 184) (j := 195) (t := 6) (f := 24) (pc := 36) E dX6_student_36 fl_X6_41 rfl (by decide) (by decide) rfl rfl ?_
            refine g_iload_n (pc := 39) E dX6_student_39 (i := 3) rfl rfl ?_
            refine g_iald (pc := 40) E dX6_student_40 rfl (by omega) (by omega) rfl (fun _ _ => ?_)
            refine g_iload_n (pc := 41) E dX6_student_41 (i := 1) rfl rfl ?_
            refine g_icmp_eq (pc := 42) (tgt := 51) E dX6_student_42 (by decide) (fun qh42 => ?_) (fun qh42 => ?_) 
            · have hy3 := LR_pl hM32.2 (k := y) (by omega) (by omega)
              rw [qh42] at hy3
              refine g_iload_n (pc := 51) E dX6_student_51 (i := 3) rfl rfl ?_
              refine g_iret (pc := 52) E hr dX6_student_52 ?_
              exact ⟨by rw [skS, if_neg (by omega), if_neg (by omega), if_pos (by omega)]; exact hy3, hM32.1⟩
            · have hy2 : y < plS S sn := by
                by_cases h : y < plS S sn
                · exact h
                · exfalso; apply qh42; rw [show y = plS S sn by omega]; exact hE.2.2
              refine g_iinc (pc := 45) E dX6_student_45 (ls' := [_, _, _, _, _]) rfl rfl rfl ?_
              refine g_goto (pc := 48) (tgt := 35) E dX6_student_48 (by decide) ?_
              exact g_wk2 (ih35 (y + 1) (by omega) (by omega) (by omega)) ⟨rfl, rfl, rfl, rfl, trivial⟩
        exact g_wk2 (LP35 (plS S sn + 1).toNat 0 (by omega) (by omega) (by omega)) ⟨rfl, rfl, rfl, rfl, trivial⟩
    · replace qh17 := bi_0.mp qh17
      refine g_bipush (pc := 20) E dX6_student_20 rfl ?_
      refine g_iret (pc := 22) E hr dX6_student_22 ?_
      exact ⟨by rw [skS, if_neg (by omega), if_pos (by omega)], SCm.rf M⟩
  · replace qh5 := bi_0.mp qh5
    refine g_iconst (pc := 8) E dX6_student_8 rfl ?_
    refine g_iret (pc := 9) E hr dX6_student_9 ?_
    exact ⟨by rw [skS, if_pos (by omega)], SCm.rf M⟩
