/-! the cells of the two fresh objects are the numbered world, with the memory M0 -/
def mmL (cx : Cx) (mm : Nat → Nat) : va_W := [(mm 0, .inr (7, [.ref (mm 1), .ref (mm 2), .int 0, .ref (mm 3), .int 0, .ref (mm 4), .ref (mm 5), .int 0, .int 0, .ref (mm 6), .int 0, .int 0, .int 0, .int 0, .ref (mm 7), .ref (mm 8), .ref (mm 9), .ref (mm 10), .int 0, .int 0, .int 0, .int 0, .int 0, .int 0, .ref (mm 11), .ref (mm 12), .ref (mm 13)])), (mm 1, .inl (cA cx 0, 745, .inl st5)), (mm 2, .inl (cA cx 0, 5960, .inl (fun _ => 0))), (mm 3, .inl (cA cx 0, 745, .inl (fun _ => 0))), (mm 4, .inl (cA cx 0, 745, .inl (fun _ => 0))), (mm 5, .inl (cA cx 0, 80, .inl (fun _ => 0))), (mm 6, .inl (cA cx 0, 80, .inl (fun _ => 0))), (mm 7, .inl (cA cx 0, 8, .inl (fun _ => 0))), (mm 8, .inl (cA cx 0, 8, .inl (fun _ => 0))), (mm 9, .inl (cA cx 0, 4, .inl (fun _ => 0))), (mm 10, .inl (cA cx 1, 4, .inl (fun _ => 0))), (mm 11, .inl (cA cx 0, 20, .inl (fun _ => 0))), (mm 12, .inl (cA cx 0, 20, .inl (fun _ => 0))), (mm 13, .inl (cA cx 0, 20, .inl (fun _ => 0)))]
def z5 (j : Int) : Int := if j = 0 then 40 else if j = 1 then 30 else if j = 2 then 2 else if j = 3 then 2 else if j = 4 then 40 else 0
def M0 : Mem := fun i j => if i < 165 then (if i % 15 = 1 then z5 j else if i % 15 = 9 then (if j < 160 then -1 else 0) else 0) else if i = 185 then z5 j else 0
theorem z5_R (j : Int) : 0 ≤ z5 j ∧ z5 j ≤ 40 := by unfold z5; (repeat' split) <;> omega
theorem M0_1 {k : Nat} (h : k < 11) : M0 (15 * k + 1) = z5 := by
  funext j
  unfold M0
  rw [if_pos (by omega), if_pos (by omega)]
theorem M0_9 {k : Nat} (h : k < 11) : M0 (15 * k + 9) = fun j => if j < 160 then -1 else 0 := by
  funext j
  unfold M0
  rw [if_pos (by omega), if_neg (by omega), if_pos (by omega)]
theorem M0_b {k t : Nat} (h : k < 11) (h0 : t < 15) (h1 : ¬ t = 1) (h9 : ¬ t = 9) : M0 (15 * k + t) = fun _ => 0 := by
  funext j
  unfold M0
  rw [if_pos (by omega), if_neg (by omega), if_neg (by omega)]
theorem M0_185 : M0 185 = z5 := rfl
theorem M0_z {i : Nat} (h : 165 ≤ i) (h1 : i ≠ 185) : M0 i = fun _ => 0 := by
  funext j
  unfold M0
  rw [if_neg (by omega), if_neg h1]
theorem M0_R (i : Nat) (j : Int) : -1 ≤ M0 i j ∧ M0 i j ≤ 40 := by
  have := z5_R j
  unfold M0
  (repeat' split) <;> omega
theorem st5_z : st5 = fun j : Nat => oi (z5 j) := by
  funext j
  show (if j = 4 then oi 40 else if j = 3 then oi 2 else if j = 2 then oi 2 else if j = 1 then oi 30 else if j = 0 then oi 40 else 0) = oi (z5 j)
  unfold z5
  by_cases h4 : j = 4
  · rw [h4]; rfl
  · by_cases h3 : j = 3
    · rw [h3]; rfl
    · by_cases h2 : j = 2
      · rw [h2]; rfl
      · by_cases h1 : j = 1
        · rw [h1]; rfl
        · by_cases h0 : j = 0
          · rw [h0]; rfl
          · rw [if_neg h4, if_neg h3, if_neg h2, if_neg h1, if_neg h0, if_neg (by omega), if_neg (by omega), if_neg (by omega), if_neg (by omega), if_neg (by omega)]
            rfl
theorem rsf_z : rsf 160 = fun j : Nat => oi (if (j : Int) < 160 then -1 else 0) := by
  funext j
  unfold rsf
  split <;> rfl
abbrev cxW (cx : Cx) (ad : Nat → Nat) : Cx := (cx.1, cx.2.1, ad, cx.2.2.2)
theorem map18 (F : Nat → Value) : (List.range 18).map F = [F 0, F 1, F 2, F 3, F 4, F 5, F 6, F 7, F 8, F 9, F 10, F 11, F 12, F 13, F 14, F 15, F 16, F 17] := rfl
theorem nb_at {cx : Cx} {ad aB : Nat → Nat} {hid : Hid} {k t : Nat} (hk : k < 11) (ht : t < 15) (had : ∀ u, u < 15 → ad (15 * k + u) = aB u) : (bdL cx aB)[t]? = some (ad (15 * k + t), entR (cxW cx ad) hid (15 * k + t) (M0 (15 * k + t))) := by
  rw [had t ht]
  rcases (show t = 0 ∨ t = 1 ∨ t = 2 ∨ t = 3 ∨ t = 4 ∨ t = 5 ∨ t = 6 ∨ t = 7 ∨ t = 8 ∨ t = 9 ∨ t = 10 ∨ t = 11 ∨ t = 12 ∨ t = 13 ∨ t = 14 by omega) with rfl | rfl | rfl | rfl | rfl | rfl | rfl | rfl | rfl | rfl | rfl | rfl | rfl | rfl | rfl
  · have hz : M0 (15 * k + 0) = fun _ => 0 := M0_b hk (by decide) (by decide) (by decide)
    have hI : ∀ x : Nat, x < 4 → fld (cxW cx ad) (15 * k + 0) 11 (M0 (15 * k + 0)) x = .int (oi 0) := fun x hx => by
      rw [hz]
      unfold fld
      rw [if_pos (by rcases (show x = 0 ∨ x = 1 ∨ x = 2 ∨ x = 3 by omega) with rfl | rfl | rfl | rfl <;> rfl)]
    have hR : ∀ x : Nat, x < 14 → fld (cxW cx ad) (15 * k + 0) 11 (M0 (15 * k + 0)) (x + 4) = .ref (aB (x + 1)) := fun x hx => by
      unfold fld
      rw [if_neg (by rcases (show x = 0 ∨ x = 1 ∨ x = 2 ∨ x = 3 ∨ x = 4 ∨ x = 5 ∨ x = 6 ∨ x = 7 ∨ x = 8 ∨ x = 9 ∨ x = 10 ∨ x = 11 ∨ x = 12 ∨ x = 13 by omega) with rfl | rfl | rfl | rfl | rfl | rfl | rfl | rfl | rfl | rfl | rfl | rfl | rfl | rfl <;> decide)]
      show Value.ref (ad (rr (15 * k + 0) (x + 4))) = _
      rw [← had (x + 1) (by omega)]
      congr 2
      unfold rr
      rw [if_pos (by omega)]
      omega
    rw [ent_o (t := 0) (n := 18) (show kk (15 * k + 0) = (11, 18) from kk_b hk), map18, hI 0 (by decide), hI 1 (by decide), hI 2 (by decide), hI 3 (by decide), hR 0 (by decide), hR 1 (by decide), hR 2 (by decide), hR 3 (by decide), hR 4 (by decide), hR 5 (by decide), hR 6 (by decide), hR 7 (by decide), hR 8 (by decide), hR 9 (by decide), hR 10 (by decide), hR 11 (by decide), hR 12 (by decide), hR 13 (by decide)]
    rfl
  · rw [M0_1 hk, ent_i (n := 5) (kk_a hk 1 (by decide) (by decide))]
    show some (_, Sum.inl (_, _, Sum.inl st5)) = _
    rw [st5_z]
  · rw [M0_b hk (by decide) (by decide) (by decide), ent_i (n := 4) (kk_a hk 2 (by decide) (by decide))]
    rfl
  · rw [M0_b hk (by decide) (by decide) (by decide), ent_i (n := 8) (kk_a hk 3 (by decide) (by decide))]
    rfl
  · rw [M0_b hk (by decide) (by decide) (by decide), ent_i (n := 8) (kk_a hk 4 (by decide) (by decide))]
    rfl
  · rw [M0_b hk (by decide) (by decide) (by decide), ent_i (n := 8) (kk_a hk 5 (by decide) (by decide))]
    rfl
  · rw [M0_b hk (by decide) (by decide) (by decide), ent_i (n := 20) (kk_a hk 6 (by decide) (by decide))]
    rfl
  · rw [M0_b hk (by decide) (by decide) (by decide), ent_i (n := 160) (kk_a hk 7 (by decide) (by decide))]
    rfl
  · rw [M0_b hk (by decide) (by decide) (by decide), ent_i (n := 160) (kk_a hk 8 (by decide) (by decide))]
    rfl
  · rw [M0_9 hk, ent_i (n := 160) (kk_a hk 9 (by decide) (by decide))]
    show some (_, Sum.inl (_, _, Sum.inl (rsf 160))) = _
    rw [rsf_z]
  · rw [M0_b hk (by decide) (by decide) (by decide), ent_i (n := 160) (kk_a hk 10 (by decide) (by decide))]
    rfl
  · rw [M0_b hk (by decide) (by decide) (by decide), ent_i (n := 24) (kk_a hk 11 (by decide) (by decide))]
    rfl
  · rw [M0_b hk (by decide) (by decide) (by decide), ent_i (n := 24) (kk_a hk 12 (by decide) (by decide))]
    rfl
  · rw [M0_b hk (by decide) (by decide) (by decide), ent_i (n := 24) (kk_a hk 13 (by decide) (by decide))]
    rfl
  · rw [M0_b hk (by decide) (by decide) (by decide), ent_i (n := 24) (kk_a hk 14 (by decide) (by decide))]
    rfl
theorem bdL_len (cx : Cx) (a : Nat → Nat) : (bdL cx a).length = 15 := rfl
theorem bds_len (cx : Cx) (ads : Nat → Nat → Nat) : ∀ k : Nat, (bds cx ads k).length = 15 * k
  | 0 => rfl
  | k + 1 => by
    show (bds cx ads k ++ bdL cx (ads k)).length = _
    rw [List.length_append, bds_len cx ads k, bdL_len]
    omega
theorem ap_l {A B : va_W} {t : Nat} (h : t < A.length) : (A ++ B)[t]? = A[t]? := List.getElem?_append_left h
theorem ap_r {A B : va_W} {n t : Nat} (h : A.length = n) : (A ++ B)[n + t]? = B[t]? := by
  rw [List.getElem?_append_right (by omega)]
  congr 1
  omega
theorem bds_at (cx : Cx) (ads : Nat → Nat → Nat) {j t : Nat} (ht : t < 15) : ∀ k : Nat, j < k → (bds cx ads k)[15 * j + t]? = (bdL cx (ads j))[t]?
  | 0, h => absurd h (by omega)
  | k + 1, h => by
    show (bds cx ads k ++ bdL cx (ads k))[15 * j + t]? = _
    by_cases q : j = k
    · subst q
      exact ap_r (bds_len cx ads j)
    · rw [ap_l (by rw [bds_len]; omega)]
      exact bds_at cx ads ht k (by omega)
/-- the addresses of the world's cells -/
def adW (b1 b2 : Nat → Nat) (h hq : Nat) (ads : Nat → Nat → Nat) (t1 t2 t3 t4 : Nat → Nat) (a : Nat) (mm tS : Nat → Nat) : Nat → Nat := fun i => if i < 15 then b1 i else if i < 30 then b2 (i - 15) else if i < 165 then ads ((i - 30) / 15) ((i - 30) % 15) else if i = 165 then h else if i = 166 then hq else if i < 172 then t1 (i - 167) else if i < 176 then t2 (i - 172) else if i = 176 then t3 0 else if i = 177 then t3 1 else if i < 182 then t3 (i - 175) else if i = 182 then t4 0 else if i = 183 then a else if i < 198 then mm (i - 184) else tS i
def hid0 (t3 t4 : Nat → Nat) : Hid := (fun i => if i = 177 then t3 2 else t4 1, fun _ => 16, fun _ _ => 0, fun _ => 0)
/-- where a cell of the world stands in the list of the constructors -/
def gW (k : Nat) : Nat := if k < 30 then k + 1 else if k < 165 then k + 3 else if k < 167 then k - 134 else if k < 178 then k + 1 else if k < 182 then k + 2 else if k = 182 then 184 else if k = 183 then 0 else if k < 198 then k + 2 else if k = 198 then 179 else 185
theorem gW_inj {k k' : Nat} (h : k < 200) (h' : k' < 200) (e : gW k = gW k') : k = k' := by
  unfold gW at e
  (repeat' split at e) <;> omega
/-- the list of the constructors -/
def nwL (cx : Cx) (b1 b2 : Nat → Nat) (h hq : Nat) (ads : Nat → Nat → Nat) (t1 t2 t3 t4 : Nat → Nat) (a : Nat) (mm : Nat → Nat) : va_W := (x5o a b1 b2 h t1 t2 t3 t4 :: ((((((bdL cx b1 ++ bdL cx b2) ++ hiL cx h hq ads) ++ stL cx t1) ++ raL cx t2) ++ etL cx t3) ++ sbL cx t4)) ++ mmL cx mm
def hiA (cx : Cx) (h q : Nat) (f : Nat → Option Nat) : va_W := [(h, .inr (3, [.ref q, .int (oi 0), .int (oi 0)])), (q, .inl (cA cx 4, 9, .inr (.inr (.inr (.inr f)))))]
theorem nwL_eq {cx : Cx} {b1 b2 : Nat → Nat} {h hq : Nat} {ads : Nat → Nat → Nat} {t1 t2 t3 t4 : Nat → Nat} {a : Nat} {mm : Nat → Nat} : nwL cx b1 b2 h hq ads t1 t2 t3 t4 a mm = [x5o a b1 b2 h t1 t2 t3 t4] ++ (bdL cx b1 ++ (bdL cx b2 ++ (hiA cx h hq (slf ads 9) ++ (bds cx ads 9 ++ (stL cx t1 ++ (raL cx t2 ++ (etL cx t3 ++ (sbL cx t4 ++ mmL cx mm)))))))) := by
  show ([x5o a b1 b2 h t1 t2 t3 t4] ++ ((((((bdL cx b1 ++ bdL cx b2) ++ (hiA cx h hq (slf ads 9) ++ bds cx ads 9)) ++ stL cx t1) ++ raL cx t2) ++ etL cx t3) ++ sbL cx t4)) ++ mmL cx mm = _
  simp only [List.append_assoc]
section NW
variable {cx : Cx} {b1 b2 : Nat → Nat} {h hq : Nat} {ads : Nat → Nat → Nat} {t1 t2 t3 t4 : Nat → Nat} {a : Nat} {mm tS : Nat → Nat}
theorem nw_b1 {t : Nat} (ht : t < 15) : (nwL cx b1 b2 h hq ads t1 t2 t3 t4 a mm)[1 + (t)]? = (bdL cx b1)[t]? := by
  rw [nwL_eq, ap_r (n := 1) rfl, ap_l (by rw [bdL_len]; exact ht)]
theorem nw_b2 {t : Nat} (ht : t < 15) : (nwL cx b1 b2 h hq ads t1 t2 t3 t4 a mm)[1 + (15 + (t))]? = (bdL cx b2)[t]? := by
  rw [nwL_eq, ap_r (n := 1) rfl, ap_r (n := 15) (bdL_len _ _), ap_l (by rw [bdL_len]; exact ht)]
theorem nw_hi {t : Nat} (ht : t < 2) : (nwL cx b1 b2 h hq ads t1 t2 t3 t4 a mm)[1 + (15 + (15 + (t)))]? = (hiA cx h hq (slf ads 9))[t]? := by
  rw [nwL_eq, ap_r (n := 1) rfl, ap_r (n := 15) (bdL_len _ _), ap_r (n := 15) (bdL_len _ _), ap_l (by exact ht)]
theorem nw_bs {t : Nat} (ht : t < 135) : (nwL cx b1 b2 h hq ads t1 t2 t3 t4 a mm)[1 + (15 + (15 + (2 + (t))))]? = (bds cx ads 9)[t]? := by
  rw [nwL_eq, ap_r (n := 1) rfl, ap_r (n := 15) (bdL_len _ _), ap_r (n := 15) (bdL_len _ _), ap_r (n := 2) rfl, ap_l (by rw [bds_len]; omega)]
theorem nw_st {t : Nat} (ht : t < 5) : (nwL cx b1 b2 h hq ads t1 t2 t3 t4 a mm)[1 + (15 + (15 + (2 + (135 + (t)))))]? = (stL cx t1)[t]? := by
  rw [nwL_eq, ap_r (n := 1) rfl, ap_r (n := 15) (bdL_len _ _), ap_r (n := 15) (bdL_len _ _), ap_r (n := 2) rfl, ap_r (n := 135) (bds_len _ _ 9), ap_l (by exact ht)]
theorem nw_ra {t : Nat} (ht : t < 4) : (nwL cx b1 b2 h hq ads t1 t2 t3 t4 a mm)[1 + (15 + (15 + (2 + (135 + (5 + (t))))))]? = (raL cx t2)[t]? := by
  rw [nwL_eq, ap_r (n := 1) rfl, ap_r (n := 15) (bdL_len _ _), ap_r (n := 15) (bdL_len _ _), ap_r (n := 2) rfl, ap_r (n := 135) (bds_len _ _ 9), ap_r (n := 5) rfl, ap_l (by exact ht)]
theorem nw_et {t : Nat} (ht : t < 7) : (nwL cx b1 b2 h hq ads t1 t2 t3 t4 a mm)[1 + (15 + (15 + (2 + (135 + (5 + (4 + (t)))))))]? = (etL cx t3)[t]? := by
  rw [nwL_eq, ap_r (n := 1) rfl, ap_r (n := 15) (bdL_len _ _), ap_r (n := 15) (bdL_len _ _), ap_r (n := 2) rfl, ap_r (n := 135) (bds_len _ _ 9), ap_r (n := 5) rfl, ap_r (n := 4) rfl, ap_l (by exact ht)]
theorem nw_sb {t : Nat} (ht : t < 2) : (nwL cx b1 b2 h hq ads t1 t2 t3 t4 a mm)[1 + (15 + (15 + (2 + (135 + (5 + (4 + (7 + (t))))))))]? = (sbL cx t4)[t]? := by
  rw [nwL_eq, ap_r (n := 1) rfl, ap_r (n := 15) (bdL_len _ _), ap_r (n := 15) (bdL_len _ _), ap_r (n := 2) rfl, ap_r (n := 135) (bds_len _ _ 9), ap_r (n := 5) rfl, ap_r (n := 4) rfl, ap_r (n := 7) rfl, ap_l (by exact ht)]
theorem nw_mm {t : Nat} : (nwL cx b1 b2 h hq ads t1 t2 t3 t4 a mm)[1 + (15 + (15 + (2 + (135 + (5 + (4 + (7 + (2 + (t)))))))))]? = (mmL cx mm)[t]? := by
  rw [nwL_eq, ap_r (n := 1) rfl, ap_r (n := 15) (bdL_len _ _), ap_r (n := 15) (bdL_len _ _), ap_r (n := 2) rfl, ap_r (n := 135) (bds_len _ _ 9), ap_r (n := 5) rfl, ap_r (n := 4) rfl, ap_r (n := 7) rfl, ap_r (n := 2) rfl]
theorem nw_0 : (nwL cx b1 b2 h hq ads t1 t2 t3 t4 a mm)[0]? = some (x5o a b1 b2 h t1 t2 t3 t4) := rfl
/-- the slots' row, as the world has it -/
abbrev slR0 (cx : Cx) (ad : Nat → Nat) : va_E := .inl (cA cx 4, 9, .inr (.inr (.inr (.inr (fun j => some (ad (rr 166 j)))))))
abbrev adN (b1 b2 : Nat → Nat) (h hq : Nat) (ads : Nat → Nat → Nat) (t1 t2 t3 t4 : Nat → Nat) (a : Nat) (mm tS : Nat → Nat) : Nat → Nat := adW b1 b2 h hq ads t1 t2 t3 t4 a mm tS
theorem nw_at {k : Nat} (hk : k < 200) (h6 : k ≠ 166) : (nwL cx b1 b2 h hq ads t1 t2 t3 t4 a mm)[gW k]? = (wl (cxW cx (adN b1 b2 h hq ads t1 t2 t3 t4 a mm tS)) M0 (hid0 t3 t4))[k]? := by
  by_cases k1 : k < 198
  · rw [wl_get k1]
    by_cases c1 : k < 15
    · rw [show gW k = 1 + k by unfold gW; rw [if_pos (by omega)]; omega, nw_b1 c1]
      have e := nb_at (cx := cx) (ad := adN b1 b2 h hq ads t1 t2 t3 t4 a mm tS) (aB := b1) (hid := hid0 t3 t4) (k := 0) (t := k) (by decide) c1 (fun u hu => by rw [Nat.mul_zero, Nat.zero_add]; exact if_pos hu)
      rw [Nat.mul_zero, Nat.zero_add] at e
      exact e
    · by_cases c2 : k < 30
      · obtain ⟨t, rfl⟩ : ∃ t, k = 15 + t := ⟨k - 15, by omega⟩
        rw [show gW (15 + t) = 1 + (15 + t) by unfold gW; rw [if_pos (by omega)]; omega, nw_b2 (by omega)]
        exact nb_at (cx := cx) (ad := adN b1 b2 h hq ads t1 t2 t3 t4 a mm tS) (aB := b2) (hid := hid0 t3 t4) (k := 1) (t := t) (by decide) (by omega) (fun u hu => by
          show adW b1 b2 h hq ads t1 t2 t3 t4 a mm tS (15 * 1 + u) = _
          unfold adW
          rw [if_neg (by omega), if_pos (by omega)]
          congr 1
          omega)
      · by_cases c3 : k < 165
        · obtain ⟨j, t, hj, ht, rfl⟩ : ∃ j t : Nat, j < 9 ∧ t < 15 ∧ k = 15 * (j + 2) + t := ⟨(k - 30) / 15, (k - 30) % 15, by omega, by omega, by omega⟩
          rw [show gW (15 * (j + 2) + t) = 1 + (15 + (15 + (2 + (15 * j + t)))) by unfold gW; rw [if_neg (by omega), if_pos (by omega)]; omega, nw_bs (by omega), bds_at cx ads ht 9 hj]
          exact nb_at (cx := cx) (ad := adN b1 b2 h hq ads t1 t2 t3 t4 a mm tS) (aB := ads j) (hid := hid0 t3 t4) (k := j + 2) (t := t) (by omega) ht (fun u hu => by
            show adW b1 b2 h hq ads t1 t2 t3 t4 a mm tS (15 * (j + 2) + u) = _
            unfold adW
            rw [if_neg (by omega), if_neg (by omega), if_pos (by omega), show (15 * (j + 2) + u - 30) / 15 = j by omega, show (15 * (j + 2) + u - 30) % 15 = u by omega])
        · rcases (show k = 165 ∨ k = 167 ∨ k = 168 ∨ k = 169 ∨ k = 170 ∨ k = 171 ∨ k = 172 ∨ k = 173 ∨ k = 174 ∨ k = 175 ∨ k = 176 ∨ k = 177 ∨ k = 178 ∨ k = 179 ∨ k = 180 ∨ k = 181 ∨ k = 182 ∨ k = 183 ∨ k = 184 ∨ k = 185 ∨ k = 186 ∨ k = 187 ∨ k = 188 ∨ k = 189 ∨ k = 190 ∨ k = 191 ∨ k = 192 ∨ k = 193 ∨ k = 194 ∨ k = 195 ∨ k = 196 ∨ k = 197 by omega) with rfl | rfl | rfl | rfl | rfl | rfl | rfl | rfl | rfl | rfl | rfl | rfl | rfl | rfl | rfl | rfl | rfl | rfl | rfl | rfl | rfl | rfl | rfl | rfl | rfl | rfl | rfl | rfl | rfl | rfl | rfl | rfl
          · rw [M0_z (by decide) (by decide)]
            exact nw_hi (t := 0) (by decide)
          · rw [M0_z (by decide) (by decide)]
            exact nw_st (t := 0) (by decide)
          · rw [M0_z (by decide) (by decide)]
            exact nw_st (t := 1) (by decide)
          · rw [M0_z (by decide) (by decide)]
            exact nw_st (t := 2) (by decide)
          · rw [M0_z (by decide) (by decide)]
            exact nw_st (t := 3) (by decide)
          · rw [M0_z (by decide) (by decide)]
            exact nw_st (t := 4) (by decide)
          · rw [M0_z (by decide) (by decide)]
            exact nw_ra (t := 0) (by decide)
          · rw [M0_z (by decide) (by decide)]
            exact nw_ra (t := 1) (by decide)
          · rw [M0_z (by decide) (by decide)]
            exact nw_ra (t := 2) (by decide)
          · rw [M0_z (by decide) (by decide)]
            exact nw_ra (t := 3) (by decide)
          · rw [M0_z (by decide) (by decide)]
            exact nw_et (t := 0) (by decide)
          · rw [M0_z (by decide) (by decide)]
            exact nw_et (t := 1) (by decide)
          · rw [M0_z (by decide) (by decide)]
            exact nw_et (t := 3) (by decide)
          · rw [M0_z (by decide) (by decide)]
            exact nw_et (t := 4) (by decide)
          · rw [M0_z (by decide) (by decide)]
            exact nw_et (t := 5) (by decide)
          · rw [M0_z (by decide) (by decide)]
            exact nw_et (t := 6) (by decide)
          · rw [M0_z (by decide) (by decide)]
            exact nw_sb (t := 0) (by decide)
          · rw [M0_z (by decide) (by decide)]
            exact nw_0
          · rw [M0_z (by decide) (by decide)]
            exact nw_mm (t := 0)
          · rw [M0_185]
            refine (nw_mm (t := 1)).trans ?_
            show some (_, Sum.inl (_, _, Sum.inl st5)) = _
            rw [st5_z]
            rfl
          · rw [M0_z (by decide) (by decide)]
            exact nw_mm (t := 2)
          · rw [M0_z (by decide) (by decide)]
            exact nw_mm (t := 3)
          · rw [M0_z (by decide) (by decide)]
            exact nw_mm (t := 4)
          · rw [M0_z (by decide) (by decide)]
            exact nw_mm (t := 5)
          · rw [M0_z (by decide) (by decide)]
            exact nw_mm (t := 6)
          · rw [M0_z (by decide) (by decide)]
            exact nw_mm (t := 7)
          · rw [M0_z (by decide) (by decide)]
            exact nw_mm (t := 8)
          · rw [M0_z (by decide) (by decide)]
            exact nw_mm (t := 9)
          · rw [M0_z (by decide) (by decide)]
            exact nw_mm (t := 10)
          · rw [M0_z (by decide) (by decide)]
            exact nw_mm (t := 11)
          · rw [M0_z (by decide) (by decide)]
            exact nw_mm (t := 12)
          · rw [M0_z (by decide) (by decide)]
            exact nw_mm (t := 13)
  · rcases (show k = 198 ∨ k = 199 by omega) with rfl | rfl
    · rw [wl_198]
      exact nw_et (t := 2) (by decide)
    · rw [wl_199]
      exact nw_sb (t := 1) (by decide)
theorem nw_InH {H : Heap} (hP : va_P cx.1 vwCl (nwL cx b1 b2 h hq ads t1 t2 t3 t4 a mm) H) (hD : va_D (cA0 cx) (nwL cx b1 b2 h hq ads t1 t2 t3 t4 a mm)) : InH (cxW cx (adN b1 b2 h hq ads t1 t2 t3 t4 a mm tS)) M0 H := by
  have h32 : (nwL cx b1 b2 h hq ads t1 t2 t3 t4 a mm)[32]? = some (hq, .inl (cA cx 4, 9, .inr (.inr (.inr (.inr (slf ads 9)))))) := nw_hi (t := 1) (by decide)
  have hc : vp_cell (cA cx 4) (9, .inr (.inr (.inr (.inr (fun j => some (adW b1 b2 h hq ads t1 t2 t3 t4 a mm tS (rr 166 j))))))) = vp_cell (cA cx 4) (9, .inr (.inr (.inr (.inr (slf ads 9))))) := by
    rw [vp_cell_q, vp_cell_q]
    unfold arrV
    congr 2
    funext j
    have hj := j.2
    have e2 : adW b1 b2 h hq ads t1 t2 t3 t4 a mm tS (15 * (j.val + 2)) = ads j.val 0 := by
      unfold adW
      rw [if_neg (by omega), if_neg (by omega), if_pos (by omega), show (15 * (j.val + 2) - 30) / 15 = j.val by omega, show (15 * (j.val + 2) - 30) % 15 = 0 by omega]
    show va_rf (some (adW b1 b2 h hq ads t1 t2 t3 t4 a mm tS (15 * (j.val + 2)))) = va_rf (if j.val < 9 then some (ads j.val 0) else none)
    rw [if_pos hj, e2]
  have hP2 := hP.set hD h32 (e := slR0 cx (adW b1 b2 h hq ads t1 t2 t3 t4 a mm tS)) (H1 := H) (by
    have h0 := hP 32 _ h32
    show H[hq]? = some (vp_cell _ _)
    rw [hc]
    exact h0) (fun _ _ => rfl)
  have hD2 := hD.set h32 (e := slR0 cx (adW b1 b2 h hq ads t1 t2 t3 t4 a mm tS))
  have hsub : Sub (wl (cxW cx (adN b1 b2 h hq ads t1 t2 t3 t4 a mm tS)) M0 (hid0 t3 t4)) ((nwL cx b1 b2 h hq ads t1 t2 t3 t4 a mm).set 32 (hq, slR0 cx (adW b1 b2 h hq ads t1 t2 t3 t4 a mm tS))) := by
    refine ⟨gW, fun k q hk => ?_, fun k k' h1 h2 e => ?_⟩
    · have hk2 : k < 200 := by have := (List.getElem?_eq_some_iff.mp hk).1; rwa [wl_len] at this
      by_cases e : k = 166
      · subst e
        rw [wl_get (by decide), M0_z (by decide) (by decide)] at hk
        rw [show gW 166 = 32 from rfl, List.getElem?_set_self (List.getElem?_eq_some_iff.mp h32).1]
        exact hk
      · rw [List.getElem?_set_ne (fun z => e (gW_inj hk2 (by decide) (z.symm.trans (show 32 = gW 166 from rfl)))), nw_at hk2 e]
        exact hk
    · rw [wl_len] at h1 h2
      exact gW_inj h1 h2 e
  refine ⟨hid0 t3 t4, hsub.P hP2, hsub.D hD2, fun i j => ?_, ?_, ?_⟩
  · have := M0_R i j
    exact inR_of (by omega) (by omega)
  · refine ⟨by decide, by show (0 : Int) ≤ ((16 : Nat) : Int); decide, by show 16 ≤ 400; decide, fun j => rfl, fun j hj => ?_⟩
    rw [show M0 177 0 = 0 from rfl] at hj
    exact absurd hj (by omega)
  · refine ⟨by decide, by show (0 : Int) ≤ ((16 : Nat) : Int); decide, by show 16 ≤ 400; decide, fun j => rfl, fun j hj => ?_⟩
    rw [show M0 182 0 = 0 from rfl] at hj
    exact absurd hj (by omega)
end NW
