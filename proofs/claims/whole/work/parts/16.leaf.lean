/-! small methods of both classes -/
def nrs (a b : Int) : Int := (2 * a + b) / (2 * b)
theorem nrs_R {a b B : Int} (h0 : 0 ≤ a) (h1 : 0 < b) (h2 : a ≤ B * b) : 0 ≤ nrs a b ∧ nrs a b ≤ B := by
  unfold nrs
  constructor
  · exact Int.ediv_nonneg (by omega) (by omega)
  · have : (2 * a + b) / (2 * b) < B + 1 := by
      apply Int.ediv_lt_of_lt_mul (by omega)
      have : (B + 1) * (2 * b) = 2 * (B * b) + 2 * b := by rw [Int.add_mul, Int.one_mul, Int.mul_left_comm]
      omega
    omega
theorem fd_pos {a b : Int} (hb : 0 < b) (ha : 0 ≤ a) : a / b = a.tdiv b := (Int.tdiv_eq_ediv_of_nonneg ha).symm
theorem fd_eq {a b : Int} (hb : 0 < b) (ha : a < 0) (h : a.tdiv b * b = a) : a / b = a.tdiv b := by rw [tdiv_floor hb ha, if_pos h]
theorem fd_ne {a b : Int} (hb : 0 < b) (ha : a < 0) (h : ¬ a.tdiv b * b = a) : a / b = a.tdiv b - 1 := by rw [tdiv_floor hb ha, if_neg h]
theorem tdiv_R {a b : Int} (ha : -1000000000 ≤ a) (ha2 : a ≤ 1000000000) (hb : 0 < b) : -1000000000 ≤ a.tdiv b * b ∧ a.tdiv b * b ≤ 1000000000 := by
  have h1 := Int.mul_tdiv_add_tmod a b
  have e : a.tdiv b * b = b * a.tdiv b := Int.mul_comm _ _
  rcases Int.le_total 0 a with h | h
  · have h2 := Int.tmod_nonneg b h
    have h3 : a.tdiv b = a / b := Int.tdiv_eq_ediv_of_nonneg h
    have h4 := Int.ediv_nonneg h (Int.le_of_lt hb)
    have h5 : 0 ≤ b * (a / b) := Int.mul_nonneg (Int.le_of_lt hb) h4
    rw [← h3] at h5
    omega
  · have h2 := Int.tmod_nonneg b (show 0 ≤ -a by omega)
    rw [Int.neg_tmod] at h2
    have h3 : (-a).tdiv b = (-a) / b := Int.tdiv_eq_ediv_of_nonneg (by omega)
    have h4 := Int.ediv_nonneg (show 0 ≤ -a by omega) (Int.le_of_lt hb)
    rw [← h3, Int.neg_tdiv] at h4
    have h5 : 0 ≤ b * (-(a.tdiv b)) := Int.mul_nonneg (Int.le_of_lt hb) h4
    rw [Int.mul_neg] at h5
    omega

theorem ct_floorDiv {cx : Cx} {M : Mem} {a b : Int} (ha : -1000000000 ≤ a) (ha2 : a ≤ 1000000000) (hb : 0 < b) (hb2 : b ≤ 1000000000) : Ct cx yJ9_floorDiv_7cf53 cJ9_floorDiv_7cf53 3 (some .int) 1 0 0 [.int (oi a), .int (oi b)] M (fun x M' => a / b = x ∧ M = M') := by
  refine ct_introF cd_J9_floorDiv_7cf53 (by decide +kernel) (Nat.le_of_ble_eq_true rfl) rfl (fun Pg Lc Ev s m args below meth c E hr => ?_)
  refine g_ent (ls' := [some (.int (oi a)), some (.int (oi b)), none]) rfl ?_
  refine g_iload_n (pc := 0) E dJ9_floorDiv_7cf53_0 (i := 0) rfl rfl ?_
  refine g_iload_n (pc := 1) E dJ9_floorDiv_7cf53_1 (i := 1) rfl rfl ?_
  refine g_idivT (pc := 2) E dJ9_floorDiv_7cf53_2 (inR_of (by omega) (by omega)) (inR_of (by omega) (by omega)) (by omega) ?_
  refine g_istore_n (pc := 3) E dJ9_floorDiv_7cf53_3 (i := 2) (ls' := [_, _, _]) rfl (Nat.le_of_ble_eq_true rfl) rfl ?_
  refine g_iload_n (pc := 4) E dJ9_floorDiv_7cf53_4 (i := 0) rfl rfl ?_
  refine g_iload_n (pc := 5) E dJ9_floorDiv_7cf53_5 (i := 1) rfl rfl ?_
  refine g_ixor (pc := 6) E dJ9_floorDiv_7cf53_6 (by first | assumption | exact inR_of (by omega) (by omega)) (by first | assumption | exact inR_of (by omega) (by omega)) (by omega) (fun z6 _ _ hz6 => ?_)
  refine g_if_ge (pc := 7) (tgt := 21) E dJ9_floorDiv_7cf53_7 (by decide) (fun qh7 => ?_) (fun qh7 => ?_) 
  · refine g_iload_n (pc := 21) E dJ9_floorDiv_7cf53_21 (i := 2) rfl rfl ?_
    refine g_iret (pc := 22) E hr dJ9_floorDiv_7cf53_22 ?_
    exact ⟨by rw [fd_pos hb (hz6.mp qh7)], rfl⟩
  · refine g_iload_n (pc := 10) E dJ9_floorDiv_7cf53_10 (i := 2) rfl rfl ?_
    refine g_iload_n (pc := 11) E dJ9_floorDiv_7cf53_11 (i := 1) rfl rfl ?_
    refine g_imul (pc := 12) E dJ9_floorDiv_7cf53_12 ?_
    refine g_iload_n (pc := 13) E dJ9_floorDiv_7cf53_13 (i := 0) rfl rfl ?_
    have hq := tdiv_R ha ha2 hb
    refine g_icmp_eq (pc := 14) (tgt := 21) E dJ9_floorDiv_7cf53_14 (by decide) (fun qh14 => ?_) (fun qh14 => ?_) 
    · refine g_iload_n (pc := 21) E dJ9_floorDiv_7cf53_21 (i := 2) rfl rfl ?_
      refine g_iret (pc := 22) E hr dJ9_floorDiv_7cf53_22 ?_
      exact ⟨by rw [fd_eq hb (by omega) qh14], rfl⟩
    · refine g_iload_n (pc := 17) E dJ9_floorDiv_7cf53_17 (i := 2) rfl rfl ?_
      refine g_iconst (pc := 18) E dJ9_floorDiv_7cf53_18 rfl ?_
      refine g_isub (pc := 19) E dJ9_floorDiv_7cf53_19 ?_
      refine g_iret (pc := 20) E hr dJ9_floorDiv_7cf53_20 ?_
      exact ⟨by rw [fd_ne hb (by omega) qh14], rfl⟩

theorem ct_in {cx : Cx} {M : Mem} {v a b : Int} (h1 : -2147483648 ≤ v ∧ v ≤ 2147483647) (h2 : -2147483648 ≤ a ∧ a ≤ 2147483647) (h3 : -2147483648 ≤ b ∧ b ≤ 2147483647) : Ct cx yX6_in cX6_in 3 (some .boolean) 1 0 0 [.int (oi v), .int (oi a), .int (oi b)] M (fun x M' => bi (a ≤ v ∧ v ≤ b) = x ∧ M = M') := by
  refine ct_intro cd_X6_in (by decide +kernel) (Nat.le_of_ble_eq_true rfl) rfl (fun Pg Lc Ev s m args below meth c E hr => ?_)
  refine g_ent (ls' := [some (.int (oi v)), some (.int (oi a)), some (.int (oi b))]) rfl ?_
  refine g_iload_n (pc := 0) E dX6_in_0 (i := 0) rfl rfl ?_
  refine g_iload_n (pc := 1) E dX6_in_1 (i := 1) rfl rfl ?_
  refine g_icmp_lt (pc := 2) (tgt := 14) E dX6_in_2 (by decide) (fun qh2 => ?_) (fun qh2 => ?_) 
  · refine g_iconst (pc := 14) E dX6_in_14 rfl ?_
    refine g_zret (pc := 15) E hr dX6_in_15 (by first | exact Or.inl rfl | exact Or.inr rfl | exact bi_in _ | omega) ?_
    first | exact ⟨bi_t (by omega), rfl⟩ | exact ⟨bi_f (by omega), rfl⟩
  · refine g_iload_n (pc := 5) E dX6_in_5 (i := 0) rfl rfl ?_
    refine g_iload_n (pc := 6) E dX6_in_6 (i := 2) rfl rfl ?_
    refine g_icmp_gt (pc := 7) (tgt := 14) E dX6_in_7 (by decide) (fun qh7 => ?_) (fun qh7 => ?_) 
    · refine g_iconst (pc := 14) E dX6_in_14 rfl ?_
      refine g_zret (pc := 15) E hr dX6_in_15 (by first | exact Or.inl rfl | exact Or.inr rfl | exact bi_in _ | omega) ?_
      first | exact ⟨bi_t (by omega), rfl⟩ | exact ⟨bi_f (by omega), rfl⟩
    · refine g_iconst (pc := 10) E dX6_in_10 rfl ?_
      refine g_goto (pc := 11) (tgt := 15) E dX6_in_11 (by decide) ?_
      refine g_zret (pc := 15) E hr dX6_in_15 (by first | exact Or.inl rfl | exact Or.inr rfl | exact bi_in _ | omega) ?_
      first | exact ⟨bi_t (by omega), rfl⟩ | exact ⟨bi_f (by omega), rfl⟩

theorem ct_isWithin {cx : Cx} {M : Mem} {v a b : Int} (h1 : -2147483648 ≤ v ∧ v ≤ 2147483647) (h2 : -2147483648 ≤ a ∧ a ≤ 2147483647) (h3 : -2147483648 ≤ b ∧ b ≤ 2147483647) : Ct cx yX5_isWithin cX5_isWithin 3 (some .boolean) 1 0 0 [.int (oi v), .int (oi a), .int (oi b)] M (fun x M' => bi (a ≤ v ∧ v ≤ b) = x ∧ M = M') := by
  refine ct_intro cd_X5_isWithin (by decide +kernel) (Nat.le_of_ble_eq_true rfl) rfl (fun Pg Lc Ev s m args below meth c E hr => ?_)
  refine g_ent (ls' := [some (.int (oi v)), some (.int (oi a)), some (.int (oi b))]) rfl ?_
  refine g_iload_n (pc := 0) E dX5_isWithin_0 (i := 0) rfl rfl ?_
  refine g_iload_n (pc := 1) E dX5_isWithin_1 (i := 1) rfl rfl ?_
  refine g_icmp_lt (pc := 2) (tgt := 14) E dX5_isWithin_2 (by decide) (fun qh2 => ?_) (fun qh2 => ?_) 
  · refine g_iconst (pc := 14) E dX5_isWithin_14 rfl ?_
    refine g_zret (pc := 15) E hr dX5_isWithin_15 (by first | exact Or.inl rfl | exact Or.inr rfl | exact bi_in _ | omega) ?_
    first | exact ⟨bi_t (by omega), rfl⟩ | exact ⟨bi_f (by omega), rfl⟩
  · refine g_iload_n (pc := 5) E dX5_isWithin_5 (i := 0) rfl rfl ?_
    refine g_iload_n (pc := 6) E dX5_isWithin_6 (i := 2) rfl rfl ?_
    refine g_icmp_gt (pc := 7) (tgt := 14) E dX5_isWithin_7 (by decide) (fun qh7 => ?_) (fun qh7 => ?_) 
    · refine g_iconst (pc := 14) E dX5_isWithin_14 rfl ?_
      refine g_zret (pc := 15) E hr dX5_isWithin_15 (by first | exact Or.inl rfl | exact Or.inr rfl | exact bi_in _ | omega) ?_
      first | exact ⟨bi_t (by omega), rfl⟩ | exact ⟨bi_f (by omega), rfl⟩
    · refine g_iconst (pc := 10) E dX5_isWithin_10 rfl ?_
      refine g_goto (pc := 11) (tgt := 15) E dX5_isWithin_11 (by decide) ?_
      refine g_zret (pc := 15) E hr dX5_isWithin_15 (by first | exact Or.inl rfl | exact Or.inr rfl | exact bi_in _ | omega) ?_
      first | exact ⟨bi_t (by omega), rfl⟩ | exact ⟨bi_f (by omega), rfl⟩
