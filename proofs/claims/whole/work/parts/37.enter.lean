/-! the class enters -/
theorem smN_upd {f g : Int → Int} {x : Int} : ∀ k : Nat, (∀ j : Int, 0 ≤ j → j < (k : Int) → ¬ j = x → f j = g j) → smN f k = smN g k + (if 0 ≤ x ∧ x < k then f x - g x else 0)
  | 0, _ => by rw [if_neg (by omega)]; rfl
  | k + 1, h => by
    have ih := smN_upd (f := f) (g := g) (x := x) k (fun j a b c => h j a (by omega) c)
    show smN f k + f k = smN g k + g k + _
    rw [ih]
    by_cases q : x = k
    · rw [if_neg (by omega), if_pos (by omega), q]; omega
    · rw [h k (by omega) (by omega) (fun z => q z.symm)]
      by_cases q2 : 0 ≤ x ∧ x < k
      · rw [if_pos q2, if_pos (by omega)]; omega
      · rw [if_neg q2, if_neg (by omega)]; omega
theorem sz_upd {f g : Int → Int} {x n : Int} (h0 : 0 ≤ x) (h1 : x < n) (h : ∀ j, 0 ≤ j → j < n → ¬ j = x → f j = g j) : sz f n = sz g n + (f x - g x) := by
  have := smN_upd (f := f) (g := g) (x := x) n.toNat (fun j a b c => h j a (by omega) c)
  rw [if_pos (by omega)] at this
  exact this
theorem sumF_en {S : Int → Int} (h : SO S) {k s p raw : Int} (hr : reS S k s p raw = 0) {q c j : Int} (q0 : 0 ≤ q) (q1 : q < 8) (j0 : 0 ≤ j) (j1 : j < S 7) (hn : ¬ 8 * j + q = 8 * s + p) : sumF (enS S k s p raw) q c j = sumF S q c j ∧ cntF (enS S k s p raw) q c j = cntF S q c j := by
  have h0 := h.1.1
  have e := en_at h hr (a := 8 * j + q) (by omega) (by omega) hn
  unfold sumF cntF fstS pcS
  rw [e.1, e.2.1, en_lo h hr (x := 37 + j) (by omega) (by omega), en_lo h hr (x := 13 + 3 * q + 2) (by omega) (by omega)]
  exact ⟨rfl, rfl⟩
theorem sumS_en {S : Int → Int} (h : SO S) {k s p raw : Int} (hr : reS S k s p raw = 0) {q c : Int} (q0 : 0 ≤ q) (q1 : q < 8) :
    sumS (enS S k s p raw) q c = sumS S q c + (if q = p then sumF (enS S k s p raw) p c s - sumF S p c s else 0) ∧ cntS (enS S k s p raw) q c = cntS S q c + (if q = p then cntF (enS S k s p raw) p c s - cntF S p c s else 0) := by
  have h0 := h.1.1
  obtain ⟨⟨s0, s1⟩, ⟨p0, p1⟩, _⟩ := reS_in hr
  unfold sumS cntS
  rw [en_lo h hr (x := 7) (by omega) (by omega)]
  by_cases hq : q = p
  · rw [if_pos hq, if_pos hq, hq]
    exact ⟨sz_upd s0 s1 (fun j a b n => (sumF_en h hr p0 (by omega) a b (by omega)).1), sz_upd s0 s1 (fun j a b n => (sumF_en h hr p0 (by omega) a b (by omega)).2)⟩
  · rw [if_neg hq, if_neg hq, sz_c (fun j a b => (sumF_en h hr (c := c) q0 q1 a b (by omega)).1), sz_c (fun j a b => (sumF_en h hr (c := c) q0 q1 a b (by omega)).2)]
    omega
theorem sumF_c {S : Int → Int} {p c s : Int} (h : ¬ S (37 + s) = c) : sumF S p c s = 0 ∧ cntF S p c s = 0 := ⟨if_neg (fun q => h q.1), if_neg (fun q => h q.1)⟩
theorem BD_en {M N : Mem} {S : Int → Int} (hB : BD M S) (hI : SO S) {k s p raw : Int} (hr : reS S k s p raw = 0)
    (n0 : N 0 0 = M 0 0 ∧ N 0 1 = M 0 1 ∧ N 0 2 = M 0 2) (n3 : N 0 3 = enS S k s p raw 8)
    (nr : ∀ i, (1 ≤ i ∧ i < 7) ∨ i = 11 ∨ i = 12 → N i = M i)
    (n7 : ∀ a, ¬ a = 8 * s + p → N 7 a = M 7 a ∧ N 8 a = M 8 a ∧ N 9 a = M 9 a)
    (m7 : N 7 (8 * s + p) = enS S k s p raw (57 + 3 * (8 * s + p)) ∧ N 8 (8 * s + p) = enS S k s p raw (57 + 3 * (8 * s + p) + 1) ∧ N 9 (8 * s + p) = enS S k s p raw (57 + 3 * (8 * s + p) + 2))
    (n10 : ∀ j, 0 ≤ j → j < enS S k s p raw 8 → N 10 j = enS S k s p raw (585 + j))
    (n13 : ∀ q, ¬ q = 3 * p + S (37 + s) → N 13 q = M 13 q ∧ N 14 q = M 14 q)
    (m13 : N 13 (3 * p + S (37 + s)) = sumS S p (S (37 + s)) + (sumF (enS S k s p raw) p (S (37 + s)) s - sumF S p (S (37 + s)) s) ∧ N 14 (3 * p + S (37 + s)) = cntS S p (S (37 + s)) + (cntF (enS S k s p raw) p (S (37 + s)) s - cntF S p (S (37 + s)) s)) : BD N (enS S k s p raw) := by
  have h0 := hI.1.1
  obtain ⟨⟨s0, s1⟩, ⟨p0, p1⟩, _⟩ := reS_in hr
  have hco := hI.1.2.2.2.1 s s0 s1
  have lo : ∀ x, x < 57 ∨ (537 ≤ x ∧ x < 585) → ¬ x = 8 → enS S k s p raw x = S x := fun x a b => en_lo hI hr a b
  have e5 := lo 5 (by omega) (by omega)
  have e6 := lo 6 (by omega) (by omega)
  have e7 := lo 7 (by omega) (by omega)
  refine ⟨⟨?_, ?_, ?_, n3⟩, fun x u v => ?_, fun x u v => ?_, fun x u v => ?_, fun x u v => ?_, fun x u v => ?_, fun x u v => ?_, fun x u v => ?_, fun x u v => ?_, fun x y u v w z => ?_⟩
  · rw [e5, n0.1]; exact hB.c0
  · rw [e6, n0.2.1]; exact hB.c1
  · rw [e7, n0.2.2]; exact hB.c2
  · rw [nr (0 + 1) (by omega), lo x (by omega) (by omega)]; exact hB.f1 x u v
  · rw [e5] at v; rw [nr (0 + 2) (by omega), lo (9 + x) (by omega) (by omega)]; exact hB.f2 x u v
  · rw [e6] at v; rw [nr (0 + 3) (by omega), nr (0 + 4) (by omega), nr (0 + 5) (by omega), lo _ (by omega) (by omega), lo _ (by omega) (by omega), lo _ (by omega) (by omega)]; exact ⟨hB.f3 x u v, hB.f4 x u v, hB.f5 x u v⟩
  · rw [e7] at v; rw [nr (0 + 6) (by omega), lo (37 + x) (by omega) (by omega)]; exact hB.f6 x u v
  · by_cases q : x = 8 * s + p
    · rw [q]; exact ⟨m7.1, m7.2.1⟩
    · rw [(en_at hI hr u v q).1, (en_at hI hr u v q).2.1]
      exact ⟨(n7 x q).1.trans (hB.f7a x u v), (n7 x q).2.1.trans (hB.f8a x u v)⟩
  · rw [e7]
    by_cases q : x = 8 * s + p
    · rw [q, if_pos (by omega)]; exact m7.2.2
    · rw [(en_at hI hr u v q).2.2]
      exact (n7 x q).2.2.trans (hB.f9a x u v)
  · exact n10 x u v
  · rw [nr (0 + 11) (by omega), nr (0 + 12) (by omega), lo _ (by omega) (by omega), lo _ (by omega) (by omega)]
    exact hB.2.2.2.2.2.2.2.2.1 x u v
  · have e := sumS_en hI hr (q := x) (c := y) u v
    rw [e.1, e.2]
    by_cases q : x = p
    · by_cases q2 : y = S (37 + s)
      · rw [if_pos q, if_pos q, q2, q]; exact m13
      · have c1 := sumF_c (S := S) (p := p) (c := y) (s := s) (fun t => q2 t.symm)
        have c2 := sumF_c (S := enS S k s p raw) (p := p) (c := y) (s := s) (by rw [lo (37 + s) (by omega) (by omega)]; exact fun t => q2 t.symm)
        rw [if_pos q, if_pos q, c1.1, c1.2, c2.1, c2.2, (n13 _ (by omega)).1, (n13 _ (by omega)).2]
        have := hB.2.2.2.2.2.2.2.2.2 x y u v w z
        exact ⟨by rw [this.1]; omega, by rw [this.2]; omega⟩
    · rw [if_neg q, if_neg q, (n13 _ (by omega)).1, (n13 _ (by omega)).2]
      have := hB.2.2.2.2.2.2.2.2.2 x y u v w z
      exact ⟨by rw [this.1]; omega, by rw [this.2]; omega⟩

theorem ct_percentM {cx : Cx} {M : Mem} {p raw f : Int} (hp0 : 0 ≤ p) (hp1 : p < 8) (hf : M 5 p = f) (hf0 : 10 ≤ f) (hf1 : f ≤ 200) (hr0 : 0 ≤ raw) (hr1 : raw ≤ 200) : Ct cx yX0_percent cX0_percent 3 (some .int) 2 0 0 [rf cx 0, .int (oi p), .int (oi raw)] M (fun rz M' => nrs (100 * raw) f = rz ∧ M = M') := by
  refine ct_intro cd_X0_percent (by decide +kernel) (Nat.le_of_ble_eq_true rfl) rfl (fun Pg Lc Ev s m args below meth c E hr => ?_)
  refine g_ent (ls' := [some (rf cx 0), some (.int (oi p)), some (.int (oi raw))]) rfl ?_
  refine g_bipush (pc := 0) E dX0_percent_0 rfl ?_
  refine g_iload_n (pc := 2) E dX0_percent_2 (i := 2) rfl rfl ?_
  refine g_imul (pc := 3) E dX0_percent_3 ?_
  refine g_aload_n (pc := 4) E dX0_percent_4 (i := 0) rfl rfl ?_
  refine g_getr (i := 0) (j := 5) (t := 0) (f := 8) (pc := 5) E dX0_percent_5 fl_X0_37 rfl (by decide) (by decide) rfl rfl ?_
  refine g_iload_n (pc := 8) E dX0_percent_8 (i := 1) rfl rfl ?_
  refine g_iald (q := 8) (pc := 9) E dX0_percent_9 rfl (by omega) (by omega) hf (fun _ _ => ?_)
  refine g_iconst (pc := 10) E dX0_percent_10 rfl ?_
  refine g_callN (pc := 11) (As := [_, _, _]) E dX0_percent_11 ml_X0_83 (ct_nearest5 (by omega) (by omega) (by omega) (by omega)) rfl rfl (by decide) (by decide) rfl (Nat.le_of_ble_eq_true rfl) (by decide) (fun x11 M11 hM11 => ?_)
  obtain ⟨rfl, rfl⟩ := hM11
  refine g_iret (pc := 14) E hr dX0_percent_14 ?_
  exact ⟨by rw [if_neg (by omega)], rfl⟩

theorem cv_countUp {cx : Cx} {M : Mem} {sn p co f raw su ct : Int} (hs0 : 0 ≤ sn) (hs1 : sn < 20) (hp0 : 0 ≤ p) (hp1 : p < 8) (hco : M 6 sn = co) (hc0 : 0 ≤ co) (hc1 : co < 3) (hf : M 5 p = f) (hf0 : 10 ≤ f) (hf1 : f ≤ 200) (hrw : M 8 (sn * 8 + p) = raw) (hr0 : 0 ≤ raw) (hr1 : raw ≤ f) (hsu : M 13 (p * 3 + co) = su) (hu0 : 0 ≤ su) (hu1 : su ≤ 2000) (hct : M 14 (p * 3 + co) = ct) (ht0 : 0 ≤ ct) (ht1 : ct ≤ 20) : Cv cx yX0_countRaw cX0_countRaw 5 3 0 0 [rf cx 0, .int (oi sn), .int (oi p), .int (oi 1)] M (fun M' => st (st M 13 (p * 3 + co) (su + 1 * nrs (100 * raw) f)) 14 (p * 3 + co) (ct + 1) = M') := by
  refine cv_intro cd_X0_countRaw (by decide +kernel) (Nat.le_of_ble_eq_true rfl) rfl (fun Pg Lc Ev s m args below meth c E hr => ?_)
  refine g_ent (ls' := [some (rf cx 0), some (.int (oi sn)), some (.int (oi p)), some (.int (oi 1)), none]) rfl ?_
  have hn := nrs_R (a := 100 * raw) (b := f) (B := 100) (by omega) (by omega) (by omega)
  refine g_iload_n (pc := 0) E dX0_countRaw_0 (i := 2) rfl rfl ?_
  refine g_iconst (pc := 1) E dX0_countRaw_1 rfl ?_
  refine g_imul (pc := 2) E dX0_countRaw_2 ?_
  refine g_aload_n (pc := 3) E dX0_countRaw_3 (i := 0) rfl rfl ?_
  refine g_getr (i := 0) (j := 6) (t := 0) (f := 9) (pc := 4) E dX0_countRaw_4 fl_X0_40 rfl (by decide) (by decide) rfl rfl ?_
  refine g_iload_n (pc := 7) E dX0_countRaw_7 (i := 1) rfl rfl ?_
  refine g_iald (q := 20) (pc := 8) E dX0_countRaw_8 rfl (by omega) (by omega) hco (fun _ _ => ?_)
  refine g_iadd (pc := 9) E dX0_countRaw_9 ?_
  refine g_istore (pc := 10) E dX0_countRaw_10 (ls' := [_, _, _, _, _]) (Nat.le_of_ble_eq_true rfl) rfl ?_
  refine g_aload_n (pc := 12) E dX0_countRaw_12 (i := 0) rfl rfl ?_
  refine g_getr (i := 0) (j := 13) (t := 0) (f := 16) (pc := 13) E dX0_countRaw_13 fl_X0_61 rfl (by decide) (by decide) rfl rfl ?_
  refine g_iload (pc := 16) E dX0_countRaw_16 rfl ?_
  refine g_dup2 (pc := 18) E dX0_countRaw_18 rfl rfl ?_
  refine g_iald (q := 24) (pc := 19) E dX0_countRaw_19 rfl (by omega) (by omega) hsu (fun _ _ => ?_)
  refine g_iload_n (pc := 20) E dX0_countRaw_20 (i := 3) rfl rfl ?_
  refine g_aload_n (pc := 21) E dX0_countRaw_21 (i := 0) rfl rfl ?_
  refine g_iload_n (pc := 22) E dX0_countRaw_22 (i := 2) rfl rfl ?_
  refine g_aload_n (pc := 23) E dX0_countRaw_23 (i := 0) rfl rfl ?_
  refine g_getr (i := 0) (j := 8) (t := 0) (f := 11) (pc := 24) E dX0_countRaw_24 fl_X0_46 rfl (by decide) (by decide) rfl rfl ?_
  refine g_iload_n (pc := 27) E dX0_countRaw_27 (i := 1) rfl rfl ?_
  refine g_bipush (pc := 28) E dX0_countRaw_28 rfl ?_
  refine g_imul (pc := 30) E dX0_countRaw_30 ?_
  refine g_iload_n (pc := 31) E dX0_countRaw_31 (i := 2) rfl rfl ?_
  refine g_iadd (pc := 32) E dX0_countRaw_32 ?_
  refine g_iald (q := 160) (pc := 33) E dX0_countRaw_33 rfl (by omega) (by omega) hrw (fun _ _ => ?_)
  refine g_callV (pc := 34) (As := [_, _]) E dX0_countRaw_34 ml_X0_93 (ct_percentM (by omega) (by omega) hf (by omega) (by omega) (by omega) (by omega)) rfl rfl rfl rfl (by decide) (by decide) rfl (Nat.le_of_ble_eq_true rfl) (by decide) (fun x34 M34 hM34 => ?_)
  obtain ⟨rfl, rfl⟩ := hM34
  refine g_imul (pc := 37) E dX0_countRaw_37 ?_
  refine g_iadd (pc := 38) E dX0_countRaw_38 ?_
  refine g_iast (q := 24) (pc := 39) E dX0_countRaw_39 rfl (by omega) (by omega) ?_ 
  refine g_aload_n (pc := 40) E dX0_countRaw_40 (i := 0) rfl rfl ?_
  refine g_getr (i := 0) (j := 14) (t := 0) (f := 17) (pc := 41) E dX0_countRaw_41 fl_X0_64 rfl (by decide) (by decide) rfl rfl ?_
  refine g_iload (pc := 44) E dX0_countRaw_44 rfl ?_
  refine g_dup2 (pc := 46) E dX0_countRaw_46 rfl rfl ?_
  refine g_iald (q := 24) (pc := 47) E dX0_countRaw_47 rfl (by omega) (by omega) (v := ct) (by rw [st_ne (by decide)]; exact hct) (fun _ _ => ?_)
  refine g_iload_n (pc := 48) E dX0_countRaw_48 (i := 3) rfl rfl ?_
  refine g_iadd (pc := 49) E dX0_countRaw_49 ?_
  refine g_iast (q := 24) (pc := 50) E dX0_countRaw_50 rfl (by omega) (by omega) ?_ 
  refine g_vret (pc := 51) E hr dX0_countRaw_51 ?_
  rfl

theorem cv_countDn {cx : Cx} {M : Mem} {sn p co f raw su ct : Int} (hs0 : 0 ≤ sn) (hs1 : sn < 20) (hp0 : 0 ≤ p) (hp1 : p < 8) (hco : M 6 sn = co) (hc0 : 0 ≤ co) (hc1 : co < 3) (hf : M 5 p = f) (hf0 : 10 ≤ f) (hf1 : f ≤ 200) (hrw : M 8 (sn * 8 + p) = raw) (hr0 : 0 ≤ raw) (hr1 : raw ≤ f) (hsu : M 13 (p * 3 + co) = su) (hu0 : 0 ≤ su) (hu1 : su ≤ 2000) (hct : M 14 (p * 3 + co) = ct) (ht0 : 0 ≤ ct) (ht1 : ct ≤ 20) : Cv cx yX0_countRaw cX0_countRaw 5 3 0 0 [rf cx 0, .int (oi sn), .int (oi p), .int (oi (-1))] M (fun M' => st (st M 13 (p * 3 + co) (su + (-1) * nrs (100 * raw) f)) 14 (p * 3 + co) (ct + (-1)) = M') := by
  refine cv_intro cd_X0_countRaw (by decide +kernel) (Nat.le_of_ble_eq_true rfl) rfl (fun Pg Lc Ev s m args below meth c E hr => ?_)
  refine g_ent (ls' := [some (rf cx 0), some (.int (oi sn)), some (.int (oi p)), some (.int (oi (-1))), none]) rfl ?_
  have hn := nrs_R (a := 100 * raw) (b := f) (B := 100) (by omega) (by omega) (by omega)
  refine g_iload_n (pc := 0) E dX0_countRaw_0 (i := 2) rfl rfl ?_
  refine g_iconst (pc := 1) E dX0_countRaw_1 rfl ?_
  refine g_imul (pc := 2) E dX0_countRaw_2 ?_
  refine g_aload_n (pc := 3) E dX0_countRaw_3 (i := 0) rfl rfl ?_
  refine g_getr (i := 0) (j := 6) (t := 0) (f := 9) (pc := 4) E dX0_countRaw_4 fl_X0_40 rfl (by decide) (by decide) rfl rfl ?_
  refine g_iload_n (pc := 7) E dX0_countRaw_7 (i := 1) rfl rfl ?_
  refine g_iald (q := 20) (pc := 8) E dX0_countRaw_8 rfl (by omega) (by omega) hco (fun _ _ => ?_)
  refine g_iadd (pc := 9) E dX0_countRaw_9 ?_
  refine g_istore (pc := 10) E dX0_countRaw_10 (ls' := [_, _, _, _, _]) (Nat.le_of_ble_eq_true rfl) rfl ?_
  refine g_aload_n (pc := 12) E dX0_countRaw_12 (i := 0) rfl rfl ?_
  refine g_getr (i := 0) (j := 13) (t := 0) (f := 16) (pc := 13) E dX0_countRaw_13 fl_X0_61 rfl (by decide) (by decide) rfl rfl ?_
  refine g_iload (pc := 16) E dX0_countRaw_16 rfl ?_
  refine g_dup2 (pc := 18) E dX0_countRaw_18 rfl rfl ?_
  refine g_iald (q := 24) (pc := 19) E dX0_countRaw_19 rfl (by omega) (by omega) hsu (fun _ _ => ?_)
  refine g_iload_n (pc := 20) E dX0_countRaw_20 (i := 3) rfl rfl ?_
  refine g_aload_n (pc := 21) E dX0_countRaw_21 (i := 0) rfl rfl ?_
  refine g_iload_n (pc := 22) E dX0_countRaw_22 (i := 2) rfl rfl ?_
  refine g_aload_n (pc := 23) E dX0_countRaw_23 (i := 0) rfl rfl ?_
  refine g_getr (i := 0) (j := 8) (t := 0) (f := 11) (pc := 24) E dX0_countRaw_24 fl_X0_46 rfl (by decide) (by decide) rfl rfl ?_
  refine g_iload_n (pc := 27) E dX0_countRaw_27 (i := 1) rfl rfl ?_
  refine g_bipush (pc := 28) E dX0_countRaw_28 rfl ?_
  refine g_imul (pc := 30) E dX0_countRaw_30 ?_
  refine g_iload_n (pc := 31) E dX0_countRaw_31 (i := 2) rfl rfl ?_
  refine g_iadd (pc := 32) E dX0_countRaw_32 ?_
  refine g_iald (q := 160) (pc := 33) E dX0_countRaw_33 rfl (by omega) (by omega) hrw (fun _ _ => ?_)
  refine g_callV (pc := 34) (As := [_, _]) E dX0_countRaw_34 ml_X0_93 (ct_percentM (by omega) (by omega) hf (by omega) (by omega) (by omega) (by omega)) rfl rfl rfl rfl (by decide) (by decide) rfl (Nat.le_of_ble_eq_true rfl) (by decide) (fun x34 M34 hM34 => ?_)
  obtain ⟨rfl, rfl⟩ := hM34
  refine g_imul (pc := 37) E dX0_countRaw_37 ?_
  refine g_iadd (pc := 38) E dX0_countRaw_38 ?_
  refine g_iast (q := 24) (pc := 39) E dX0_countRaw_39 rfl (by omega) (by omega) ?_ 
  refine g_aload_n (pc := 40) E dX0_countRaw_40 (i := 0) rfl rfl ?_
  refine g_getr (i := 0) (j := 14) (t := 0) (f := 17) (pc := 41) E dX0_countRaw_41 fl_X0_64 rfl (by decide) (by decide) rfl rfl ?_
  refine g_iload (pc := 44) E dX0_countRaw_44 rfl ?_
  refine g_dup2 (pc := 46) E dX0_countRaw_46 rfl rfl ?_
  refine g_iald (q := 24) (pc := 47) E dX0_countRaw_47 rfl (by omega) (by omega) (v := ct) (by rw [st_ne (by decide)]; exact hct) (fun _ _ => ?_)
  refine g_iload_n (pc := 48) E dX0_countRaw_48 (i := 3) rfl rfl ?_
  refine g_iadd (pc := 49) E dX0_countRaw_49 ?_
  refine g_iast (q := 24) (pc := 50) E dX0_countRaw_50 rfl (by omega) (by omega) ?_ 
  refine g_vret (pc := 51) E hr dX0_countRaw_51 ?_
  rfl

theorem cv_putFirst {cx : Cx} {M : Mem} {sn p kd raw nn : Int} (hs0 : 0 ≤ sn) (hs1 : sn < 20) (hp0 : 0 ≤ p) (hp1 : p < 8) (hk0 : 0 ≤ kd) (hk1 : kd ≤ 3) (hr0 : 0 ≤ raw) (hr1 : raw ≤ 200) (h3 : M 0 3 = nn) (hn0 : 0 ≤ nn) (hn1 : nn < 160) : Cv cx yX0_putFirst cX0_putFirst 6 1 0 0 [rf cx 0, .int (oi sn), .int (oi p), .int (oi kd), .int (oi raw)] M (fun M' => st (st (st (st M 7 (sn * 8 + p) kd) 8 (sn * 8 + p) raw) 10 nn (sn * 8 + p)) 0 3 (nn + 1) = M') := by
  refine cv_intro cd_X0_putFirst (by decide +kernel) (Nat.le_of_ble_eq_true rfl) rfl (fun Pg Lc Ev s m args below meth c E hr => ?_)
  refine g_ent (ls' := [some (rf cx 0), some (.int (oi sn)), some (.int (oi p)), some (.int (oi kd)), some (.int (oi raw)), none]) rfl ?_
  refine g_iload_n (pc := 0) E dX0_putFirst_0 (i := 1) rfl rfl ?_
  refine g_bipush (pc := 1) E dX0_putFirst_1 rfl ?_
  refine g_imul (pc := 3) E dX0_putFirst_3 ?_
  refine g_iload_n (pc := 4) E dX0_putFirst_4 (i := 2) rfl rfl ?_
  refine g_iadd (pc := 5) E dX0_putFirst_5 ?_
  refine g_istore (pc := 6) E dX0_putFirst_6 (ls' := [_, _, _, _, _, _]) (Nat.le_of_ble_eq_true rfl) rfl ?_
  refine g_aload_n (pc := 8) E dX0_putFirst_8 (i := 0) rfl rfl ?_
  refine g_getr (i := 0) (j := 7) (t := 0) (f := 10) (pc := 9) E dX0_putFirst_9 fl_X0_43 rfl (by decide) (by decide) rfl rfl ?_
  refine g_iload (pc := 12) E dX0_putFirst_12 rfl ?_
  refine g_iload_n (pc := 14) E dX0_putFirst_14 (i := 3) rfl rfl ?_
  refine g_iast (q := 160) (pc := 15) E dX0_putFirst_15 rfl (by omega) (by omega) ?_ 
  refine g_aload_n (pc := 16) E dX0_putFirst_16 (i := 0) rfl rfl ?_
  refine g_getr (i := 0) (j := 8) (t := 0) (f := 11) (pc := 17) E dX0_putFirst_17 fl_X0_46 rfl (by decide) (by decide) rfl rfl ?_
  refine g_iload (pc := 20) E dX0_putFirst_20 rfl ?_
  refine g_iload (pc := 22) E dX0_putFirst_22 rfl ?_
  refine g_iast (q := 160) (pc := 24) E dX0_putFirst_24 rfl (by omega) (by omega) ?_ 
  refine g_aload_n (pc := 25) E dX0_putFirst_25 (i := 0) rfl rfl ?_
  refine g_geti (i := 0) (t := 0) (f := 3) (fz := 3) (pc := 26) E dX0_putFirst_26 fl_X0_21 rfl (by decide) (by decide) rfl rfl (v := nn) (by rw [st_ne (by decide), st_ne (by decide)]; exact h3) (fun _ _ => ?_)
  refine g_aload_n (pc := 29) E dX0_putFirst_29 (i := 0) rfl rfl ?_
  refine g_getr (i := 0) (j := 10) (t := 0) (f := 13) (pc := 30) E dX0_putFirst_30 fl_X0_52 rfl (by decide) (by decide) rfl rfl ?_
  refine g_alen (q := 160) (pc := 33) E dX0_putFirst_33 rfl rfl ?_
  refine g_icmp_ge (pc := 34) (tgt := 58) E dX0_putFirst_34 (by decide) (fun qh34 => absurd qh34 (by omega)) (fun qh34 => ?_) 
  refine g_aload_n (pc := 37) E dX0_putFirst_37 (i := 0) rfl rfl ?_
  refine g_getr (i := 0) (j := 10) (t := 0) (f := 13) (pc := 38) E dX0_putFirst_38 fl_X0_52 rfl (by decide) (by decide) rfl rfl ?_
  refine g_aload_n (pc := 41) E dX0_putFirst_41 (i := 0) rfl rfl ?_
  refine g_geti (i := 0) (t := 0) (f := 3) (fz := 3) (pc := 42) E dX0_putFirst_42 fl_X0_21 rfl (by decide) (by decide) rfl rfl (v := nn) (by rw [st_ne (by decide), st_ne (by decide)]; exact h3) (fun _ _ => ?_)
  refine g_iload (pc := 45) E dX0_putFirst_45 rfl ?_
  refine g_iast (q := 160) (pc := 47) E dX0_putFirst_47 rfl (by omega) (by omega) ?_ 
  refine g_aload_n (pc := 48) E dX0_putFirst_48 (i := 0) rfl rfl ?_
  refine g_dup (pc := 49) E dX0_putFirst_49 rfl ?_
  refine g_geti (i := 0) (t := 0) (f := 3) (fz := 3) (pc := 50) E dX0_putFirst_50 fl_X0_21 rfl (by decide) (by decide) rfl rfl (v := nn) (by rw [st_ne (by decide), st_ne (by decide), st_ne (by decide)]; exact h3) (fun _ _ => ?_)
  refine g_iconst (pc := 53) E dX0_putFirst_53 rfl ?_
  refine g_iadd (pc := 54) E dX0_putFirst_54 ?_
  refine g_puti (i := 0) (t := 0) (f := 3) (fz := 3) (pc := 55) E dX0_putFirst_55 fl_X0_21 rfl (by decide) (by decide) rfl rfl ?_ 
  refine g_vret (pc := 58) E hr dX0_putFirst_58 ?_
  rfl

/-- what takeAttempts leaves but for the order -/
def tkN (M : Mem) (S : Int → Int) (s p : Int) : Mem := st (st (st (if S (57 + 3 * (8 * s + p)) = 1 then st (st M 13 (p * 3 + S (37 + s)) (sumS S p (S (37 + s)) + (-1) * pcS S p (S (57 + 3 * (8 * s + p) + 1)))) 14 (p * 3 + S (37 + s)) (cntS S p (S (37 + s)) + (-1)) else M) 7 (s * 8 + p) 0) 8 (s * 8 + p) 0) 9 (s * 8 + p) (-1)
theorem tkN_ne {M : Mem} {S : Int → Int} {s p : Int} {i : Nat} (h : i ≠ 7 ∧ i ≠ 8 ∧ i ≠ 9 ∧ i ≠ 13 ∧ i ≠ 14) : tkN M S s p i = M i := by
  unfold tkN
  rw [st_ne h.2.2.1, st_ne h.2.1, st_ne h.1]
  split
  · rw [st_ne h.2.2.2.2, st_ne h.2.2.2.1]
  · rfl
theorem en_120 (S : Int → Int) (s p raw : Int) : enS S 120 s p raw = remS S (8 * s + p) := by
  unfold enS
  rw [if_neg (by decide), if_pos rfl]
theorem tk_bd {M N : Mem} {S : Int → Int} (hB : BD M S) (hI : SI S) {s p : Int} (hr : reS S 120 s p 0 = 0) (hN : ∀ i, i ≠ 10 → N i = tkN M S s p i) (ho : ∀ j, 0 ≤ j → j < S 8 - 1 → N 10 j = S (585 + (if j < remI S (8 * s + p) then j else j + 1))) : BD (st N 0 3 (S 8 - 1)) (enS S 120 s p 0) := by
  have h0 := hI.1.1.1
  obtain ⟨⟨s0, s1⟩, ⟨p0, p1⟩, _, h4, _⟩ := reS_in hr
  have hz := h4 (Or.inr rfl)
  obtain ⟨x0, x1, x2⟩ := remI_is hI.1 (a := 8 * s + p) (by omega) (by omega) hz
  have hco := hI.1.1.2.2.2.1 s s0 s1
  have e8 : enS S 120 s p 0 8 = S 8 - 1 := by rw [en_120]; exact remS_8 (by omega)
  have t0 : enS S 120 s p 0 (57 + 3 * (8 * s + p)) = 0 := by rw [en_120, remS_a x0 (by omega) (by omega), if_pos rfl]
  have t1 : enS S 120 s p 0 (57 + 3 * (8 * s + p) + 1) = 0 := by rw [en_120]; unfold remS; rw [if_neg (by omega), if_pos rfl]
  have t2 : enS S 120 s p 0 (57 + 3 * (8 * s + p) + 2) = -1 := by rw [en_120]; unfold remS; rw [if_neg (by omega), if_neg (by omega), if_pos rfl]
  have z1 : sumF (enS S 120 s p 0) p (S (37 + s)) s = 0 := if_neg (fun q => by omega)
  have z2 : cntF (enS S 120 s p 0) p (S (37 + s)) s = 0 := if_neg (fun q => by omega)
  refine BD_en hB hI.1 hr ⟨?_, ?_, ?_⟩ ?_ (fun i hi => ?_) (fun a ha => ?_) ?_ (fun j a b => ?_) (fun q hq => ?_) ?_
  · rw [st_off (by decide), hN 0 (by decide), tkN_ne (by decide)]
  · rw [st_off (by decide), hN 0 (by decide), tkN_ne (by decide)]
  · rw [st_off (by decide), hN 0 (by decide), tkN_ne (by decide)]
  · rw [st_self, e8]
  · rw [st_ne (by omega), hN i (by omega), tkN_ne (by omega)]
  · rw [st_ne (by decide), st_ne (by decide), st_ne (by decide), hN 7 (by decide), hN 8 (by decide), hN 9 (by decide)]
    unfold tkN
    rw [st_ne (i := 9) (a := 7) (by decide), st_ne (i := 8) (a := 7) (by decide), st_off (by omega), st_ne (i := 9) (a := 8) (by decide), st_off (i := 8) (by omega), st_ne (i := 7) (a := 8) (by decide), st_off (i := 9) (by omega), st_ne (i := 8) (a := 9) (by decide), st_ne (i := 7) (a := 9) (by decide)]
    split
    · rw [st_ne (by decide), st_ne (by decide), st_ne (by decide), st_ne (by decide), st_ne (by decide), st_ne (by decide)]; exact ⟨rfl, rfl, rfl⟩
    · exact ⟨rfl, rfl, rfl⟩
  · rw [st_ne (by decide), st_ne (by decide), st_ne (by decide), hN 7 (by decide), hN 8 (by decide), hN 9 (by decide), t0, t1, t2, show 8 * s + p = s * 8 + p by omega]
    unfold tkN
    refine ⟨?_, ?_, ?_⟩
    · rw [st_ne (by decide), st_ne (by decide), st_self]
    · rw [st_ne (by decide), st_self]
    · rw [st_self]
  · rw [e8] at b
    rw [st_ne (by decide), ho j a b, en_120, remS_o (by omega) (by omega) a x0 b]
    split <;> rfl
  · rw [st_ne (by decide), st_ne (by decide), hN 13 (by decide), hN 14 (by decide)]
    unfold tkN
    rw [st_ne (i := 9) (a := 13) (by decide), st_ne (i := 8) (a := 13) (by decide), st_ne (i := 7) (a := 13) (by decide), st_ne (i := 9) (a := 14) (by decide), st_ne (i := 8) (a := 14) (by decide), st_ne (i := 7) (a := 14) (by decide)]
    split
    · rw [st_ne (by decide), st_off (by omega), st_off (by omega), st_ne (by decide)]; exact ⟨rfl, rfl⟩
    · exact ⟨rfl, rfl⟩
  · rw [z1, z2, st_ne (by decide), st_ne (by decide), hN 13 (by decide), hN 14 (by decide), show 3 * p + S (37 + s) = p * 3 + S (37 + s) by omega]
    unfold tkN
    rw [st_ne (i := 9) (a := 13) (by decide), st_ne (i := 8) (a := 13) (by decide), st_ne (i := 7) (a := 13) (by decide), st_ne (i := 9) (a := 14) (by decide), st_ne (i := 8) (a := 14) (by decide), st_ne (i := 7) (a := 14) (by decide)]
    by_cases q : S (57 + 3 * (8 * s + p)) = 1
    · have f1 : sumF S p (S (37 + s)) s = pcS S p (S (57 + 3 * (8 * s + p) + 1)) := by
        have : sumF S p (S (37 + s)) s = fstS S s p := if_pos ⟨rfl, q⟩
        rw [this]; exact if_pos q
      have f2 : cntF S p (S (37 + s)) s = 1 := if_pos ⟨rfl, q⟩
      rw [if_pos q, f1, f2, st_ne (by decide), st_self, st_self]
      omega
    · have f1 : sumF S p (S (37 + s)) s = 0 := if_neg (fun z => q z.2)
      have f2 : cntF S p (S (37 + s)) s = 0 := if_neg (fun z => q z.2)
      rw [if_neg q, f1, f2, hB.f13 p0 (by omega) hco.1 (by omega), hB.f14 p0 (by omega) hco.1 (by omega)]
      omega

theorem cv_takeAttempts {cx : Cx} {M : Mem} {S : Int → Int} (hB : BD M S) (hI : SI S) {sn p : Int} (he : reS S 120 sn p 0 = 0) : Cv cx yX0_takeAttempts cX0_takeAttempts 6 4 0 0 [rf cx 0, .int (oi sn), .int (oi p)] M (fun M' => BD M' (enS S 120 sn p 0) ∧ ∀ i, 15 ≤ i → M' i = M i) := by
  refine cv_intro cd_X0_takeAttempts (by decide +kernel) (Nat.le_of_ble_eq_true rfl) rfl (fun Pg Lc Ev s m args below meth c E hr => ?_)
  refine g_ent (ls' := [some (rf cx 0), some (.int (oi sn)), some (.int (oi p)), none, none, none]) rfl ?_
  have hV := hI.1.1
  have hV0 := hV.1
  have hB0 := hB.c0
  have hB1 := hB.c1
  have hB2 := hB.c2
  have hB3 := hB.c3
  obtain ⟨⟨hs0, hs1⟩, ⟨hp0, hp1⟩, _, h4, _⟩ := reS_in he
  have hz := h4 (Or.inr rfl)
  obtain ⟨x0, x1, x2⟩ := remI_is hI.1 (a := 8 * sn + p) (by omega) (by omega) hz
  have hVp := hV.2.2.1 p (by omega) (by omega)
  have hVa := hV.2.2.2.2.1 sn p (by omega) (by omega) (by omega) (by omega)
  have hVs := hV.2.2.2.1 sn (by omega) (by omega)
  have hcn := cntS_R hV p (S (37 + sn))
  have hsm := sumS_R hV (S (37 + sn)) hp0 hp1
  have e1 : sn * 8 + p = 8 * sn + p := by omega
  have JP24 : ∀ (N : Mem), N = (if S (57 + 3 * (8 * sn + p)) = 1 then st (st M 13 (p * 3 + S (37 + sn)) (sumS S p (S (37 + sn)) + (-1) * pcS S p (S (57 + 3 * (8 * sn + p) + 1)))) 14 (p * 3 + S (37 + sn)) (cntS S p (S (37 + sn)) + (-1)) else M) → G cx Pg Lc Ev (rmD 4 0 0) s m args below meth c (MQ below (QV cx (fun M' => BD M' (enS S 120 sn p 0) ∧ ∀ i, 15 ≤ i → M' i = M i)) args s 0 0 (cA0 cx)) 24 [some (rf cx 0), some (.int (oi sn)), some (.int (oi p)), some (.int (oi (sn * 8 + p))), none, none] [] (N) 0 0 := by
    intro N hN
    subst hN
    refine g_aload_n (pc := 24) E dX0_takeAttempts_24 (i := 0) rfl rfl ?_
    refine g_getr (i := 0) (j := 7) (t := 0) (f := 10) (pc := 25) E dX0_takeAttempts_25 fl_X0_43 rfl (by decide) (by decide) rfl rfl ?_
    refine g_iload_n (pc := 28) E dX0_takeAttempts_28 (i := 3) rfl rfl ?_
    refine g_iconst (pc := 29) E dX0_takeAttempts_29 rfl ?_
    refine g_iast (q := 160) (pc := 30) E dX0_takeAttempts_30 rfl (by omega) (by omega) ?_ 
    refine g_aload_n (pc := 31) E dX0_takeAttempts_31 (i := 0) rfl rfl ?_
    refine g_getr (i := 0) (j := 8) (t := 0) (f := 11) (pc := 32) E dX0_takeAttempts_32 fl_X0_46 rfl (by decide) (by decide) rfl rfl ?_
    refine g_iload_n (pc := 35) E dX0_takeAttempts_35 (i := 3) rfl rfl ?_
    refine g_iconst (pc := 36) E dX0_takeAttempts_36 rfl ?_
    refine g_iast (q := 160) (pc := 37) E dX0_takeAttempts_37 rfl (by omega) (by omega) ?_ 
    refine g_aload_n (pc := 38) E dX0_takeAttempts_38 (i := 0) rfl rfl ?_
    refine g_getr (i := 0) (j := 9) (t := 0) (f := 12) (pc := 39) E dX0_takeAttempts_39 fl_X0_49 rfl (by decide) (by decide) rfl rfl ?_
    refine g_iload_n (pc := 42) E dX0_takeAttempts_42 (i := 3) rfl rfl ?_
    refine g_iconst (pc := 43) E dX0_takeAttempts_43 rfl ?_
    refine g_iast (q := 160) (pc := 44) E dX0_takeAttempts_44 rfl (by omega) (by omega) ?_ 
    refine g_iconst (pc := 45) E dX0_takeAttempts_45 rfl ?_
    refine g_istore (pc := 46) E dX0_takeAttempts_46 (ls' := [_, _, _, _, _, _]) (Nat.le_of_ble_eq_true rfl) rfl ?_
    refine g_iconst (pc := 48) E dX0_takeAttempts_48 rfl ?_
    refine g_istore (pc := 49) E dX0_takeAttempts_49 (ls' := [_, _, _, _, _, _]) (Nat.le_of_ble_eq_true rfl) rfl ?_
    have LP51 : ∀ (n : Nat) (N : Mem) (x w : Int), S 8 - x < (n : Int) → 0 ≤ x → x ≤ S 8 → w = (if x ≤ remI S (8 * sn + p) then x else x - 1) → (∀ i, i ≠ 10 → N i = tkN M S sn p i) → (∀ j, 0 ≤ j → j < w → N 10 j = S (585 + (if j < remI S (8 * sn + p) then j else j + 1))) → (∀ j, x ≤ j → j < S 8 → N 10 j = S (585 + j)) → G cx Pg Lc Ev (rmD 4 0 0) s m args below meth c (MQ below (QV cx (fun M' => BD M' (enS S 120 sn p 0) ∧ ∀ i, 15 ≤ i → M' i = M i)) args s 0 0 (cA0 cx)) 51 [some (rf cx 0), some (.int (oi sn)), some (.int (oi p)), some (.int (oi (sn * 8 + p))), some (.int (oi w)), some (.int (oi x))] [] (N) 0 0 := by
      intro n
      induction n with
      | zero => intro N x w hn hx0 hx1 hw hN ho1 ho2; exact absurd hn (by omega)
      | succ n ih51 =>
        intro N x w hn hx0 hx1 hw hN ho1 ho2
        have hN3 : N 0 3 = S 8 := by rw [hN 0 (by decide), tkN_ne (by decide)]; exact hB3
        have hwR : 0 ≤ w ∧ w ≤ x ∧ (x ≤ remI S (8 * sn + p) → w = x) ∧ (¬ x ≤ remI S (8 * sn + p) → w = x - 1) := by rw [hw]; split <;> omega
        refine g_iload (pc := 51) E dX0_takeAttempts_51 rfl ?_
        refine g_aload_n (pc := 53) E dX0_takeAttempts_53 (i := 0) rfl rfl ?_
        refine g_geti (i := 0) (t := 0) (f := 3) (fz := 3) (pc := 54) E dX0_takeAttempts_54 fl_X0_21 rfl (by decide) (by decide) rfl rfl hN3 (fun _ _ => ?_)
        refine g_icmp_ge (pc := 57) (tgt := 94) E dX0_takeAttempts_57 (by decide) (fun qh57 => ?_) (fun qh57 => ?_) 
        · refine g_aload_n (pc := 94) E dX0_takeAttempts_94 (i := 0) rfl rfl ?_
          refine g_iload (pc := 95) E dX0_takeAttempts_95 rfl ?_
          refine g_puti (i := 0) (t := 0) (f := 3) (fz := 3) (pc := 97) E dX0_takeAttempts_97 fl_X0_21 rfl (by decide) (by decide) rfl rfl ?_ 
          refine g_vret (pc := 100) E hr dX0_takeAttempts_100 ?_
          have hw1 : w = S 8 - 1 := by omega
          rw [hw1] at ho1 ⊢
          refine ⟨tk_bd hB hI he hN ho1, fun i hi => ?_⟩
          rw [st_ne (by omega), hN i (by omega), tkN_ne (by omega)]
        · have hoj := hI.1.2.1 x (by omega) (by omega)
          refine g_aload_n (pc := 60) E dX0_takeAttempts_60 (i := 0) rfl rfl ?_
          refine g_getr (i := 0) (j := 10) (t := 0) (f := 13) (pc := 61) E dX0_takeAttempts_61 fl_X0_52 rfl (by decide) (by decide) rfl rfl ?_
          refine g_iload (pc := 64) E dX0_takeAttempts_64 rfl ?_
          refine g_iald (q := 160) (pc := 66) E dX0_takeAttempts_66 rfl (by omega) (by omega) (ho2 x (by omega) (by omega)) (fun _ _ => ?_)
          refine g_iload_n (pc := 67) E dX0_takeAttempts_67 (i := 3) rfl rfl ?_
          refine g_icmp_eq (pc := 68) (tgt := 88) E dX0_takeAttempts_68 (by decide) (fun qh68 => ?_) (fun qh68 => ?_) 
          · have hxe : x = remI S (8 * sn + p) := by
              rcases Int.lt_trichotomy x (remI S (8 * sn + p)) with q | q | q
              · have := hI.1.2.2.1 x (remI S (8 * sn + p)) hx0 q x1; omega
              · exact q
              · have := hI.1.2.2.1 (remI S (8 * sn + p)) x x0 q (by omega); omega
            refine g_iinc (pc := 88) E dX0_takeAttempts_88 (ls' := [_, _, _, _, _, _]) rfl rfl rfl ?_
            refine g_goto (pc := 91) (tgt := 51) E dX0_takeAttempts_91 (by decide) ?_
            exact g_wk2 (ih51 N (x + 1) w (by omega) (by omega) (by omega) (by rw [if_neg (by omega)]; omega) hN ho1 (fun j a b => ho2 j (by omega) b)) ⟨rfl, rfl, rfl, rfl, rfl, rfl, trivial⟩
          · have hne : ¬ x = remI S (8 * sn + p) := fun z => qh68 (by rw [z, x2]; omega)
            refine g_aload_n (pc := 71) E dX0_takeAttempts_71 (i := 0) rfl rfl ?_
            refine g_getr (i := 0) (j := 10) (t := 0) (f := 13) (pc := 72) E dX0_takeAttempts_72 fl_X0_52 rfl (by decide) (by decide) rfl rfl ?_
            refine g_iload (pc := 75) E dX0_takeAttempts_75 rfl ?_
            refine g_aload_n (pc := 77) E dX0_takeAttempts_77 (i := 0) rfl rfl ?_
            refine g_getr (i := 0) (j := 10) (t := 0) (f := 13) (pc := 78) E dX0_takeAttempts_78 fl_X0_52 rfl (by decide) (by decide) rfl rfl ?_
            refine g_iload (pc := 81) E dX0_takeAttempts_81 rfl ?_
            refine g_iald (q := 160) (pc := 83) E dX0_takeAttempts_83 rfl (by omega) (by omega) (ho2 x (by omega) (by omega)) (fun _ _ => ?_)
            refine g_iast (q := 160) (pc := 84) E dX0_takeAttempts_84 rfl (by omega) (by omega) ?_ 
            refine g_iinc (pc := 85) E dX0_takeAttempts_85 (ls' := [_, _, _, _, _, _]) rfl rfl rfl ?_
            refine g_iinc (pc := 88) E dX0_takeAttempts_88 (ls' := [_, _, _, _, _, _]) rfl rfl rfl ?_
            refine g_goto (pc := 91) (tgt := 51) E dX0_takeAttempts_91 (by decide) ?_
            exact g_wk2 (ih51 _ (x + 1) (w + 1) (by omega) (by omega) (by omega) (by split <;> omega) (fun i hi => by rw [st_ne hi]; exact hN i hi) (fun j a b => by
              by_cases q : j = w
              · rw [q, st_self]
                split
                · exact congrArg _ (by omega)
                · exact congrArg _ (by omega)
              · rw [st_off q]; exact ho1 j a (by omega)) (fun j a b => by rw [st_off (by omega)]; exact ho2 j (by omega) b)) ⟨rfl, rfl, rfl, rfl, rfl, rfl, trivial⟩
    refine g_mem (show _ = tkN M S sn p from rfl) ?_
    exact g_wk2 (LP51 (S 8 + 1).toNat _ 0 0 (by omega) (by omega) (by omega) (by rw [if_pos x0]) (fun i _ => rfl) (fun j a b => absurd b (by omega)) (fun j a b => by rw [tkN_ne (M := M) (S := S) (s := sn) (p := p) (i := 10) (by decide)]; exact hB.f10 j (by omega) b)) ⟨rfl, rfl, rfl, rfl, rfl, rfl, trivial⟩
  refine g_iload_n (pc := 0) E dX0_takeAttempts_0 (i := 1) rfl rfl ?_
  refine g_bipush (pc := 1) E dX0_takeAttempts_1 rfl ?_
  refine g_imul (pc := 3) E dX0_takeAttempts_3 ?_
  refine g_iload_n (pc := 4) E dX0_takeAttempts_4 (i := 2) rfl rfl ?_
  refine g_iadd (pc := 5) E dX0_takeAttempts_5 ?_
  refine g_istore_n (pc := 6) E dX0_takeAttempts_6 (i := 3) (ls' := [_, _, _, _, _, _]) rfl (Nat.le_of_ble_eq_true rfl) rfl ?_
  refine g_aload_n (pc := 7) E dX0_takeAttempts_7 (i := 0) rfl rfl ?_
  refine g_getr (i := 0) (j := 7) (t := 0) (f := 10) (pc := 8) E dX0_takeAttempts_8 fl_X0_43 rfl (by decide) (by decide) rfl rfl ?_
  refine g_iload_n (pc := 11) E dX0_takeAttempts_11 (i := 3) rfl rfl ?_
  refine g_iald (q := 160) (pc := 12) E dX0_takeAttempts_12 rfl (by omega) (by omega) (hB.f7 (by omega) (by omega) (by omega) (by omega)) (fun _ _ => ?_)
  refine g_iconst (pc := 13) E dX0_takeAttempts_13 rfl ?_
  refine g_icmp_ne (pc := 14) (tgt := 24) E dX0_takeAttempts_14 (by decide) (fun qh14 => ?_) (fun qh14 => ?_) 
  · exact g_wk2 (JP24 _ (by rw [if_neg qh14])) ⟨rfl, rfl, rfl, rfl, trivial⟩
  · refine g_aload_n (pc := 17) E dX0_takeAttempts_17 (i := 0) rfl rfl ?_
    refine g_iload_n (pc := 18) E dX0_takeAttempts_18 (i := 1) rfl rfl ?_
    refine g_iload_n (pc := 19) E dX0_takeAttempts_19 (i := 2) rfl rfl ?_
    refine g_iconst (pc := 20) E dX0_takeAttempts_20 rfl ?_
    refine g_callVv (pc := 21) (As := [_, _, _]) E dX0_takeAttempts_21 ml_X0_123 (cv_countDn (co := S (37 + sn)) (f := S (13 + 3 * p + 2)) (raw := S (57 + 3 * (8 * sn + p) + 1)) (su := sumS S p (S (37 + sn))) (ct := cntS S p (S (37 + sn))) (by omega) (by omega) (by omega) (by omega) (hB.f6 _ (by omega) (by omega)) (by omega) (by omega) (hB.f5 _ (by omega) (by omega)) (by omega) (by omega) (hB.f8 (by omega) (by omega) (by omega) (by omega)) (by omega) (by omega) (hB.f13 (by omega) (by omega) (by omega) (by omega)) (by omega) (by omega) (hB.f14 (by omega) (by omega) (by omega) (by omega)) (by omega) (by omega)) rfl rfl rfl rfl (by decide) (by decide) rfl (Nat.le_of_ble_eq_true rfl) (by decide) (fun M21 hM21 => ?_)
    obtain rfl := hM21
    exact g_wk2 (JP24 _ (by rw [if_pos (by omega)]; rfl)) ⟨rfl, rfl, rfl, rfl, trivial⟩

theorem en_put (S : Int → Int) {k : Int} (s p raw : Int) (h1 : ¬ k = 114) (h2 : ¬ k = 120) : enS S k s p raw = ru (ru (ru (ru (ru S (57 + 3 * (8 * s + p)) (if k = 109 then 1 else if k = 97 then 2 else 3)) (57 + 3 * (8 * s + p) + 1) raw) (57 + 3 * (8 * s + p) + 2) (-1)) 8 (S 8 + 1)) (585 + S 8) (8 * s + p) := by unfold enS; rw [if_neg h1, if_neg h2]
def ptM (M : Mem) (S : Int → Int) (k s p raw : Int) : Mem := st (st (st (st M 7 (s * 8 + p) (if k = 109 then 1 else if k = 97 then 2 else 3)) 8 (s * 8 + p) raw) 10 (S 8) (s * 8 + p)) 0 3 (S 8 + 1)
theorem pt_bd {M N : Mem} {S : Int → Int} (hB : BD M S) (hI : SI S) {k s p raw : Int} (h1 : ¬ k = 114) (h2 : ¬ k = 120) (hr : reS S k s p raw = 0) (hN : ∀ i, i ≠ 13 → i ≠ 14 → N i = ptM M S k s p raw i)
    (n13 : ∀ q, ¬ q = 3 * p + S (37 + s) → N 13 q = M 13 q ∧ N 14 q = M 14 q)
    (m13 : N 13 (3 * p + S (37 + s)) = sumS S p (S (37 + s)) + (if k = 109 then pcS S p raw else 0) ∧ N 14 (3 * p + S (37 + s)) = cntS S p (S (37 + s)) + (if k = 109 then 1 else 0)) : BD N (enS S k s p raw) := by
  have h0 := hI.1.1.1
  obtain ⟨⟨s0, s1⟩, ⟨p0, p1⟩, _, _, _, h6⟩ := reS_in hr
  have hz := h6 (by omega)
  have h8 := SO_h8 hI.1 s0 s1 p0 p1 hz
  have hA := hI.1.1.2.2.2.2.1 s p s0 s1 p0 p1
  have hco := hI.1.1.2.2.2.1 s s0 s1
  have e8 : enS S k s p raw 8 = S 8 + 1 := by rw [en_put S s p raw h1 h2, ru_off (by omega), ru_self]
  have t0 : enS S k s p raw (57 + 3 * (8 * s + p)) = if k = 109 then 1 else if k = 97 then 2 else 3 := by rw [en_put S s p raw h1 h2, ru_off (by omega), ru_off (by omega), ru_off (by omega), ru_off (by omega), ru_self]
  have t1 : enS S k s p raw (57 + 3 * (8 * s + p) + 1) = raw := by rw [en_put S s p raw h1 h2, ru_off (by omega), ru_off (by omega), ru_off (by omega), ru_self]
  have t2 : enS S k s p raw (57 + 3 * (8 * s + p) + 2) = -1 := by rw [en_put S s p raw h1 h2, ru_off (by omega), ru_off (by omega), ru_self]
  have tc : enS S k s p raw (37 + s) = S (37 + s) := en_lo hI.1 hr (by omega) (by omega)
  have tf : enS S k s p raw (13 + 3 * p + 2) = S (13 + 3 * p + 2) := en_lo hI.1 hr (by omega) (by omega)
  have z1 : sumF S p (S (37 + s)) s = 0 := if_neg (fun q => by omega)
  have z2 : cntF S p (S (37 + s)) s = 0 := if_neg (fun q => by omega)
  have y1 : sumF (enS S k s p raw) p (S (37 + s)) s = if k = 109 then pcS S p raw else 0 := by
    unfold sumF fstS pcS
    rw [tc, t0, t1, tf]
    by_cases q : k = 109
    · rw [if_pos q, if_pos q, if_pos ⟨rfl, rfl⟩, if_pos rfl]
    · rw [if_neg q, if_neg q, if_neg (fun z => by have := z.2; split at this <;> omega)]
  have y2 : cntF (enS S k s p raw) p (S (37 + s)) s = if k = 109 then 1 else 0 := by
    unfold cntF
    rw [tc, t0]
    by_cases q : k = 109
    · rw [if_pos q, if_pos q, if_pos ⟨rfl, rfl⟩]
    · rw [if_neg q, if_neg q, if_neg (fun z => by have := z.2; split at this <;> omega)]
  refine BD_en hB hI.1 hr ⟨?_, ?_, ?_⟩ ?_ (fun i hi => ?_) (fun a ha => ?_) ?_ (fun j a b => ?_) n13 ?_
  · rw [hN 0 (by decide) (by decide), ptM, st_off (by decide), st_ne (by decide), st_ne (by decide), st_ne (by decide)]
  · rw [hN 0 (by decide) (by decide), ptM, st_off (by decide), st_ne (by decide), st_ne (by decide), st_ne (by decide)]
  · rw [hN 0 (by decide) (by decide), ptM, st_off (by decide), st_ne (by decide), st_ne (by decide), st_ne (by decide)]
  · rw [hN 0 (by decide) (by decide), ptM, st_self, e8]
  · rw [hN i (by omega) (by omega), ptM, st_ne (by omega), st_ne (by omega), st_ne (by omega), st_ne (by omega)]
  · rw [hN 7 (by decide) (by decide), hN 8 (by decide) (by decide), hN 9 (by decide) (by decide)]
    unfold ptM
    refine ⟨?_, ?_, ?_⟩
    · rw [st_ne (by decide), st_ne (by decide), st_ne (by decide), st_off (by omega)]
    · rw [st_ne (by decide), st_ne (by decide), st_off (by omega), st_ne (by decide)]
    · rw [st_ne (by decide), st_ne (by decide), st_ne (by decide), st_ne (by decide)]
  · rw [hN 7 (by decide) (by decide), hN 8 (by decide) (by decide), hN 9 (by decide) (by decide), t0, t1, t2, show 8 * s + p = s * 8 + p by omega]
    unfold ptM
    refine ⟨?_, ?_, ?_⟩
    · rw [st_ne (by decide), st_ne (by decide), st_ne (by decide), st_self]
    · rw [st_ne (by decide), st_ne (by decide), st_self]
    · rw [st_ne (by decide), st_ne (by decide), st_ne (by decide), st_ne (by decide), show s * 8 + p = 8 * s + p by omega, hB.f9a _ (by omega) (by omega), if_pos (by omega)]
      omega
  · rw [e8] at b
    rw [hN 10 (by decide) (by decide), ptM, st_ne (by decide)]
    by_cases q : j = S 8
    · rw [q, st_self, en_put S s p raw h1 h2, ru_self]; omega
    · rw [st_off q, st_ne (by decide), st_ne (by decide), en_put S s p raw h1 h2, ru_off (by omega), ru_off (by omega), ru_off (by omega), ru_off (by omega), ru_off (by omega)]
      exact hB.f10 j a (by omega)
  · rw [y1, y2, z1, z2, m13.1, m13.2]
    omega

theorem cv_enter {cx : Cx} {M : Mem} {S : Int → Int} (hB : BD M S) (hI : SI S) {k sn p raw : Int} (hk : k = 109 ∨ k = 114 ∨ k = 101 ∧ raw = 0 ∨ k = 97 ∧ raw = 0 ∨ k = 120 ∧ raw = 0) (hr0 : 0 ≤ raw) (he : reS S k sn p raw = 0) : Cv cx yX0_enter cX0_enter 5 5 0 0 [rf cx 0, .int (oi k), .int (oi sn), .int (oi p), .int (oi raw)] M (fun M' => BD M' (enS S k sn p raw) ∧ ∀ i, 15 ≤ i → M' i = M i) := by
  refine cv_intro cd_X0_enter (by decide +kernel) (Nat.le_of_ble_eq_true rfl) rfl (fun Pg Lc Ev s m args below meth c E hr => ?_)
  refine g_ent (ls' := [some (rf cx 0), some (.int (oi k)), some (.int (oi sn)), some (.int (oi p)), some (.int (oi raw))]) rfl ?_
  have hV := hI.1.1
  have hV0 := hV.1
  have hB0 := hB.c0
  have hB1 := hB.c1
  have hB2 := hB.c2
  have hB3 := hB.c3
  obtain ⟨⟨hs0, hs1⟩, ⟨hp0, hp1⟩, h3, h4, h5, h6⟩ := reS_in he
  have h8 := SO_h8 hI.1 hs0 hs1 hp0 hp1
  have hVp := hV.2.2.1 p (by omega) (by omega)
  have hVa := hV.2.2.2.2.1 sn p (by omega) (by omega) (by omega) (by omega)
  have hVs := hV.2.2.2.1 sn (by omega) (by omega)
  have hcn := cntS_R hV p (S (37 + sn))
  have hsm := sumS_R hV (S (37 + sn)) hp0 hp1
  refine g_iload_n (pc := 0) E dX0_enter_0 (i := 1) rfl rfl ?_
  by_cases qs1_0 : k = 97
  · refine g_lookup (pc := 1) (tgt := 74) (off := 73) E dX0_enter_1 (by decide +kernel) (by rw [qs1_0]; decide +kernel) (by decide) ?_
    have hz := h6 (by omega)
    have h8 := h8 hz
    refine g_aload_n (pc := 74) E dX0_enter_74 (i := 0) rfl rfl ?_
    refine g_iload_n (pc := 75) E dX0_enter_75 (i := 2) rfl rfl ?_
    refine g_iload_n (pc := 76) E dX0_enter_76 (i := 3) rfl rfl ?_
    refine g_iconst (pc := 77) E dX0_enter_77 rfl ?_
    refine g_iconst (pc := 78) E dX0_enter_78 rfl ?_
    refine g_callVv (pc := 79) (As := [_, _, _, _]) E dX0_enter_79 ml_X0_119 (cv_putFirst (nn := S 8) (by omega) (by omega) (by omega) (by omega) (by omega) (by omega) (by omega) (by omega) hB3 (by omega) (by omega)) rfl rfl rfl rfl (by decide) (by decide) rfl (Nat.le_of_ble_eq_true rfl) (by decide) (fun M79 hM79 => ?_)
    obtain rfl := hM79
    refine g_goto (pc := 82) (tgt := 107) E dX0_enter_82 (by decide) ?_
    refine g_vret (pc := 107) E hr dX0_enter_107 ?_
    have hr00 : raw = 0 := by omega
    subst hr00
    refine ⟨pt_bd hB hI (by omega) (by omega) he (fun i _ _ => by unfold ptM; rw [if_neg (by omega), if_pos qs1_0]) (fun q _ => by rw [st_ne (by decide), st_ne (by decide), st_ne (by decide), st_ne (by decide), st_ne (by decide), st_ne (by decide), st_ne (by decide), st_ne (by decide)]; exact ⟨rfl, rfl⟩) ⟨by rw [if_neg (by omega), show 3 * p + S (37 + sn) = p * 3 + S (37 + sn) by omega, st_ne (by decide), st_ne (by decide), st_ne (by decide), st_ne (by decide), hB.f13 (by omega) (by omega) (by omega) (by omega)]; omega, by rw [if_neg (by omega), show 3 * p + S (37 + sn) = p * 3 + S (37 + sn) by omega, st_ne (by decide), st_ne (by decide), st_ne (by decide), st_ne (by decide), hB.f14 (by omega) (by omega) (by omega) (by omega)]; omega⟩, fun i hi => by rw [st_ne (by omega), st_ne (by omega), st_ne (by omega), st_ne (by omega)]⟩
  by_cases qs1_1 : k = 101
  · refine g_lookup (pc := 1) (tgt := 63) (off := 62) E dX0_enter_1 (by decide +kernel) (by rw [qs1_1]; decide +kernel) (by decide) ?_
    have hz := h6 (by omega)
    have h8 := h8 hz
    refine g_aload_n (pc := 63) E dX0_enter_63 (i := 0) rfl rfl ?_
    refine g_iload_n (pc := 64) E dX0_enter_64 (i := 2) rfl rfl ?_
    refine g_iload_n (pc := 65) E dX0_enter_65 (i := 3) rfl rfl ?_
    refine g_iconst (pc := 66) E dX0_enter_66 rfl ?_
    refine g_iconst (pc := 67) E dX0_enter_67 rfl ?_
    refine g_callVv (pc := 68) (As := [_, _, _, _]) E dX0_enter_68 ml_X0_119 (cv_putFirst (nn := S 8) (by omega) (by omega) (by omega) (by omega) (by omega) (by omega) (by omega) (by omega) hB3 (by omega) (by omega)) rfl rfl rfl rfl (by decide) (by decide) rfl (Nat.le_of_ble_eq_true rfl) (by decide) (fun M68 hM68 => ?_)
    obtain rfl := hM68
    refine g_goto (pc := 71) (tgt := 107) E dX0_enter_71 (by decide) ?_
    refine g_vret (pc := 107) E hr dX0_enter_107 ?_
    have hr00 : raw = 0 := by omega
    subst hr00
    refine ⟨pt_bd hB hI (by omega) (by omega) he (fun i _ _ => by unfold ptM; rw [if_neg (by omega), if_neg (by omega)]) (fun q _ => by rw [st_ne (by decide), st_ne (by decide), st_ne (by decide), st_ne (by decide), st_ne (by decide), st_ne (by decide), st_ne (by decide), st_ne (by decide)]; exact ⟨rfl, rfl⟩) ⟨by rw [if_neg (by omega), show 3 * p + S (37 + sn) = p * 3 + S (37 + sn) by omega, st_ne (by decide), st_ne (by decide), st_ne (by decide), st_ne (by decide), hB.f13 (by omega) (by omega) (by omega) (by omega)]; omega, by rw [if_neg (by omega), show 3 * p + S (37 + sn) = p * 3 + S (37 + sn) by omega, st_ne (by decide), st_ne (by decide), st_ne (by decide), st_ne (by decide), hB.f14 (by omega) (by omega) (by omega) (by omega)]; omega⟩, fun i hi => by rw [st_ne (by omega), st_ne (by omega), st_ne (by omega), st_ne (by omega)]⟩
  by_cases qs1_2 : k = 109
  · refine g_lookup (pc := 1) (tgt := 44) (off := 43) E dX0_enter_1 (by decide +kernel) (by rw [qs1_2]; decide +kernel) (by decide) ?_
    have hz := h6 (by omega)
    have h8 := h8 hz
    refine g_aload_n (pc := 44) E dX0_enter_44 (i := 0) rfl rfl ?_
    refine g_iload_n (pc := 45) E dX0_enter_45 (i := 2) rfl rfl ?_
    refine g_iload_n (pc := 46) E dX0_enter_46 (i := 3) rfl rfl ?_
    refine g_iconst (pc := 47) E dX0_enter_47 rfl ?_
    refine g_iload (pc := 48) E dX0_enter_48 rfl ?_
    refine g_callVv (pc := 50) (As := [_, _, _, _]) E dX0_enter_50 ml_X0_119 (cv_putFirst (nn := S 8) (by omega) (by omega) (by omega) (by omega) (by omega) (by omega) (by omega) (by omega) hB3 (by omega) (by omega)) rfl rfl rfl rfl (by decide) (by decide) rfl (Nat.le_of_ble_eq_true rfl) (by decide) (fun M50 hM50 => ?_)
    obtain rfl := hM50
    refine g_aload_n (pc := 53) E dX0_enter_53 (i := 0) rfl rfl ?_
    refine g_iload_n (pc := 54) E dX0_enter_54 (i := 2) rfl rfl ?_
    refine g_iload_n (pc := 55) E dX0_enter_55 (i := 3) rfl rfl ?_
    refine g_iconst (pc := 56) E dX0_enter_56 rfl ?_
    refine g_callVv (pc := 57) (As := [_, _, _]) E dX0_enter_57 ml_X0_123 (cv_countUp (co := S (37 + sn)) (f := S (13 + 3 * p + 2)) (raw := raw) (su := sumS S p (S (37 + sn))) (ct := cntS S p (S (37 + sn))) (by omega) (by omega) (by omega) (by omega) (by rw [st_ne (by decide), st_ne (by decide), st_ne (by decide), st_ne (by decide)]; exact hB.f6 _ (by omega) (by omega)) (by omega) (by omega) (by rw [st_ne (by decide), st_ne (by decide), st_ne (by decide), st_ne (by decide)]; exact hB.f5 _ (by omega) (by omega)) (by omega) (by omega) (by rw [st_ne (by decide), st_ne (by decide), st_self]) (by omega) (by omega) (by rw [st_ne (by decide), st_ne (by decide), st_ne (by decide), st_ne (by decide)]; exact hB.f13 (by omega) (by omega) (by omega) (by omega)) (by omega) (by omega) (by rw [st_ne (by decide), st_ne (by decide), st_ne (by decide), st_ne (by decide)]; exact hB.f14 (by omega) (by omega) (by omega) (by omega)) (by omega) (by omega)) rfl rfl rfl rfl (by decide) (by decide) rfl (Nat.le_of_ble_eq_true rfl) (by decide) (fun M57 hM57 => ?_)
    obtain rfl := hM57
    refine g_goto (pc := 60) (tgt := 107) E dX0_enter_60 (by decide) ?_
    refine g_vret (pc := 107) E hr dX0_enter_107 ?_
    refine ⟨pt_bd hB hI (by omega) (by omega) he (fun i a b => by unfold ptM; rw [if_pos qs1_2, st_ne b, st_ne a]) (fun q hq => by rw [st_ne (by decide), st_off (by omega), st_ne (by decide), st_ne (by decide), st_ne (by decide), st_ne (by decide), st_off (by omega), st_ne (by decide), st_ne (by decide), st_ne (by decide), st_ne (by decide), st_ne (by decide)]; exact ⟨rfl, rfl⟩) ⟨?_, ?_⟩, fun i hi => by rw [st_ne (by omega), st_ne (by omega), st_ne (by omega), st_ne (by omega), st_ne (by omega), st_ne (by omega)]⟩
    · rw [if_pos qs1_2, show 3 * p + S (37 + sn) = p * 3 + S (37 + sn) by omega, st_ne (by decide), st_self, pcS]; omega
    · rw [if_pos qs1_2, show 3 * p + S (37 + sn) = p * 3 + S (37 + sn) by omega, st_self]
  by_cases qs1_3 : k = 114
  · refine g_lookup (pc := 1) (tgt := 85) (off := 84) E dX0_enter_1 (by decide +kernel) (by rw [qs1_3]; decide +kernel) (by decide) ?_
    refine g_aload_n (pc := 85) E dX0_enter_85 (i := 0) rfl rfl ?_
    refine g_getr (i := 0) (j := 9) (t := 0) (f := 12) (pc := 86) E dX0_enter_86 fl_X0_49 rfl (by decide) (by decide) rfl rfl ?_
    refine g_iload_n (pc := 89) E dX0_enter_89 (i := 2) rfl rfl ?_
    refine g_bipush (pc := 90) E dX0_enter_90 rfl ?_
    refine g_imul (pc := 92) E dX0_enter_92 ?_
    refine g_iload_n (pc := 93) E dX0_enter_93 (i := 3) rfl rfl ?_
    refine g_iadd (pc := 94) E dX0_enter_94 ?_
    refine g_iload (pc := 95) E dX0_enter_95 rfl ?_
    refine g_iast (q := 160) (pc := 97) E dX0_enter_97 rfl (by omega) (by omega) ?_ 
    refine g_goto (pc := 98) (tgt := 107) E dX0_enter_98 (by decide) ?_
    refine g_vret (pc := 107) E hr dX0_enter_107 ?_
    have ek : enS S k sn p raw = ru S (57 + 3 * (8 * sn + p) + 2) raw := by unfold enS; rw [if_pos qs1_3]
    refine ⟨BD_en hB hI.1 he ⟨by rw [st_ne (by decide)], by rw [st_ne (by decide)], by rw [st_ne (by decide)]⟩ (by rw [st_ne (by decide), ek, ru_off (by omega)]; exact hB3) (fun i hi => by rw [st_ne (by omega)]) (fun a ha => ⟨by rw [st_ne (by decide)], by rw [st_ne (by decide)], by rw [st_off (by omega)]⟩) ⟨by rw [st_ne (by decide), ek, ru_off (by omega)]; exact hB.f7a _ (by omega) (by omega), by rw [st_ne (by decide), ek, ru_off (by omega)]; exact hB.f8a _ (by omega) (by omega), by rw [show 8 * sn + p = sn * 8 + p by omega, st_self, ek, show 57 + 3 * (sn * 8 + p) + 2 = 57 + 3 * (8 * sn + p) + 2 by omega, ru_self]⟩ (fun j a b => by rw [ek, ru_off (by omega)] at b; rw [st_ne (by decide), ek, ru_off (by omega)]; exact hB.f10 j a b) (fun q hq => by rw [st_ne (by decide), st_ne (by decide)]; exact ⟨rfl, rfl⟩) ?_, fun i hi => by rw [st_ne (by omega)]⟩
    have y1 : sumF (enS S k sn p raw) p (S (37 + sn)) sn = sumF S p (S (37 + sn)) sn := by unfold sumF fstS pcS; rw [ek, ru_off (by omega), ru_off (by omega), ru_off (by omega), ru_off (by omega)]
    have y2 : cntF (enS S k sn p raw) p (S (37 + sn)) sn = cntF S p (S (37 + sn)) sn := by unfold cntF; rw [ek, ru_off (by omega), ru_off (by omega)]
    rw [y1, y2, st_ne (by decide), st_ne (by decide), show 3 * p + S (37 + sn) = p * 3 + S (37 + sn) by omega, hB.f13 (by omega) (by omega) (by omega) (by omega), hB.f14 (by omega) (by omega) (by omega) (by omega)]
    omega
  refine g_lookup (pc := 1) (tgt := 101) (off := 100) E dX0_enter_1 (by decide +kernel) (by simp [Op.lookupswitch.offset_cons, Op.lookupswitch.offset_nil, qs1_0, qs1_1, qs1_2, qs1_3, (mt Eq.symm qs1_0), (mt Eq.symm qs1_1), (mt Eq.symm qs1_2), (mt Eq.symm qs1_3)]) (by decide) ?_
  refine g_aload_n (pc := 101) E dX0_enter_101 (i := 0) rfl rfl ?_
  refine g_iload_n (pc := 102) E dX0_enter_102 (i := 2) rfl rfl ?_
  refine g_iload_n (pc := 103) E dX0_enter_103 (i := 3) rfl rfl ?_
  refine g_callVv (pc := 104) (As := [_, _]) E dX0_enter_104 ml_X0_127 (cv_takeAttempts hB hI (by rw [show k = 120 by omega, show raw = 0 by omega] at he; exact he)) rfl rfl rfl rfl (by decide) (by decide) rfl (Nat.le_of_ble_eq_true rfl) (by decide) (fun M104 hM104 => ?_)
  refine g_vret (pc := 107) E hr dX0_enter_107 ?_
  rw [show k = 120 by omega, show raw = 0 by omega]
  exact hM104
