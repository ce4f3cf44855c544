/-! what the class changes -/
theorem BD_set {N : Mem} {S : Int → Int} (hB : BD N S) {w v : Int} (h : 0 ≤ w ∧ w ≤ 4) : BD (st N 1 w v) (ru S w v) := by
  have e : ∀ x, 4 < x → ru S w v x = S x := fun x hx => ru_off (by omega)
  have es : ∀ p c, 0 ≤ p → 0 ≤ c → sumS (ru S w v) p c = sumS S p c ∧ cntS (ru S w v) p c = cntS S p c := fun p c a b => by
    unfold sumS cntS
    rw [e 7 (by decide)]
    refine ⟨sz_c (fun s s0 s1 => ?_), sz_c (fun s s0 s1 => ?_)⟩
    · unfold sumF fstS pcS
      rw [e _ (by omega), e _ (by omega), e _ (by omega), e _ (by omega)]
    · unfold cntF
      rw [e _ (by omega), e _ (by omega)]
  refine ⟨⟨?_, ?_, ?_, ?_⟩, fun x u v' => ?_, fun x u v' => ?_, fun x u v' => ?_, fun x u v' => ?_, fun x u v' => ?_, fun x u v' => ?_, fun x u v' => ?_, fun x u v' => ?_, fun x y u v' w' z => ?_⟩
  · rw [e _ (by omega), st_ne (by decide)]; exact hB.c0
  · rw [e _ (by omega), st_ne (by decide)]; exact hB.c1
  · rw [e _ (by omega), st_ne (by decide)]; exact hB.c2
  · rw [e _ (by omega), st_ne (by decide)]; exact hB.c3
  · show st N 1 w v 1 x = _
    by_cases q : x = w
    · rw [q, st_self, ru_self]
    · rw [st_off q, ru_off q]; exact hB.f1 x u v'
  · rw [e 5 (by decide)] at v'; rw [e _ (by omega), st_ne (by decide)]; exact hB.f2 x u v'
  · rw [e 6 (by decide)] at v'; rw [e _ (by omega), e _ (by omega), e _ (by omega), st_ne (by decide), st_ne (by decide), st_ne (by decide)]; exact ⟨hB.f3 x u v', hB.f4 x u v', hB.f5 x u v'⟩
  · rw [e 7 (by decide)] at v'; rw [e _ (by omega), st_ne (by decide)]; exact hB.f6 x u v'
  · rw [e _ (by omega), e _ (by omega), st_ne (by decide), st_ne (by decide)]; exact ⟨hB.f7a x u v', hB.f8a x u v'⟩
  · rw [e 7 (by decide), e _ (by omega), st_ne (by decide)]; exact hB.f9a x u v'
  · rw [e 8 (by decide)] at v'; rw [e _ (by omega), st_ne (by decide)]; exact hB.f10 x u v'
  · rw [e _ (by omega), e _ (by omega), st_ne (by decide), st_ne (by decide)]; exact hB.2.2.2.2.2.2.2.2.1 x u v'
  · rw [(es x y u w').1, (es x y u w').2, st_ne (by decide), st_ne (by decide)]; exact hB.2.2.2.2.2.2.2.2.2 x y u v' w' z
/-- rows beyond the last paper or student sum to nothing -/
theorem sum_out {S : Int → Int} (h : SO S) {p c s : Int} (h0 : 0 ≤ p) (h1 : p < 8) (s0 : 0 ≤ s) (s1 : s < 20) (ho : S 7 ≤ s ∨ S 6 ≤ p) : sumF S p c s = 0 ∧ cntF S p c s = 0 := by
  have := SO_out h (a := 8 * s + p) (by omega) (by omega) (by omega)
  exact ⟨if_neg (fun q => by omega), if_neg (fun q => by omega)⟩
theorem BD_am {N : Mem} {S : Int → Int} (hB : BD N S) (hI : SI S) {c : Int} (h : 0 ≤ amR S c) : BD (st (st N 2 (S 5) c) 0 0 (S 5 + 1)) (amT S c) := by
  have hV0 := hI.1.1.1
  have e5 : amT S c 5 = S 5 + 1 := ru_self _ _ _
  have hc : S 5 < 4 := by
    unfold amR at h
    (repeat' split at h) <;> omega
  have e : ∀ x, ¬ x = 5 → ¬ x = 9 + S 5 → amT S c x = S x := fun x a b => by rw [amT, ru_off a, ru_off b]
  have es : ∀ p q, 0 ≤ p → 0 ≤ q → sumS (amT S c) p q = sumS S p q ∧ cntS (amT S c) p q = cntS S p q := fun p q a b => by
    unfold sumS cntS
    rw [e 7 (by omega) (by omega)]
    refine ⟨sz_c (fun s s0 s1 => ?_), sz_c (fun s s0 s1 => ?_)⟩
    · unfold sumF fstS pcS
      rw [e _ (by omega) (by omega), e _ (by omega) (by omega), e _ (by omega) (by omega), e _ (by omega) (by omega)]
    · unfold cntF
      rw [e _ (by omega) (by omega), e _ (by omega) (by omega)]
  refine ⟨⟨?_, ?_, ?_, ?_⟩, fun x u v => ?_, fun x u v => ?_, fun x u v => ?_, fun x u v => ?_, fun x u v => ?_, fun x u v => ?_, fun x u v => ?_, fun x u v => ?_, fun x y u v w z => ?_⟩
  · rw [e5, st_self]
  · rw [e _ (by omega) (by omega), st_off (by decide), st_ne (by decide)]; exact hB.c1
  · rw [e _ (by omega) (by omega), st_off (by decide), st_ne (by decide)]; exact hB.c2
  · rw [e _ (by omega) (by omega), st_off (by decide), st_ne (by decide)]; exact hB.c3
  · rw [e _ (by omega) (by omega), st_ne (by decide), st_ne (by decide)]; exact hB.f1 x u v
  · rw [e5] at v
    show st (st N 2 (S 5) c) 0 0 (S 5 + 1) 2 x = _
    rw [st_ne (by decide)]
    by_cases q : x = S 5
    · rw [q, st_self, amT, ru_off (by omega), ru_self]
    · rw [st_off q, e _ (by omega) (by omega)]; exact hB.f2 x u (by omega)
  · rw [e 6 (by omega) (by omega)] at v; rw [e _ (by omega) (by omega), e _ (by omega) (by omega), e _ (by omega) (by omega), st_ne (by decide), st_ne (by decide), st_ne (by decide), st_ne (by decide), st_ne (by decide), st_ne (by decide)]; exact ⟨hB.f3 x u v, hB.f4 x u v, hB.f5 x u v⟩
  · rw [e 7 (by omega) (by omega)] at v; rw [e _ (by omega) (by omega), st_ne (by decide), st_ne (by decide)]; exact hB.f6 x u v
  · rw [e _ (by omega) (by omega), e _ (by omega) (by omega), st_ne (by decide), st_ne (by decide), st_ne (by decide), st_ne (by decide)]; exact ⟨hB.f7a x u v, hB.f8a x u v⟩
  · rw [e 7 (by omega) (by omega), e _ (by omega) (by omega), st_ne (by decide), st_ne (by decide)]; exact hB.f9a x u v
  · rw [e 8 (by omega) (by omega)] at v; rw [e _ (by omega) (by omega), st_ne (by decide), st_ne (by decide)]; exact hB.f10 x u v
  · rw [e _ (by omega) (by omega), e _ (by omega) (by omega), st_ne (by decide), st_ne (by decide), st_ne (by decide), st_ne (by decide)]; exact hB.2.2.2.2.2.2.2.2.1 x u v
  · rw [(es x y u w).1, (es x y u w).2, st_ne (by decide), st_ne (by decide), st_ne (by decide), st_ne (by decide)]; exact hB.2.2.2.2.2.2.2.2.2 x y u v w z
theorem BD_ap {N : Mem} {S : Int → Int} (hB : BD N S) (hI : SI S) {m w f : Int} (h : 0 ≤ apR S m w f) : BD (st (st (st (st N 3 (S 6) m) 4 (S 6) w) 5 (S 6) f) 0 1 (S 6 + 1)) (apT S m w f) := by
  have hV0 := hI.1.1.1
  have e6 : apT S m w f 6 = S 6 + 1 := ru_self _ _ _
  have hc : S 6 < 8 := by
    unfold apR at h
    (repeat' split at h) <;> omega
  have e : ∀ x, ¬ x = 6 → x < 13 + 3 * S 6 ∨ 13 + 3 * S 6 + 2 < x → apT S m w f x = S x := fun x a b => by rw [apT, ru_off a, ru_off (by omega), ru_off (by omega), ru_off (by omega)]
  have f0 : apT S m w f (13 + 3 * S 6) = m := by rw [apT, ru_off (by omega), ru_off (by omega), ru_off (by omega), ru_self]
  have f1 : apT S m w f (13 + 3 * S 6 + 1) = w := by rw [apT, ru_off (by omega), ru_off (by omega), ru_self]
  have f2 : apT S m w f (13 + 3 * S 6 + 2) = f := by rw [apT, ru_off (by omega), ru_self]
  have es : ∀ p q, 0 ≤ p → p < 8 → 0 ≤ q → sumS (apT S m w f) p q = sumS S p q ∧ cntS (apT S m w f) p q = cntS S p q := fun p q a a2 b => by
    unfold sumS cntS
    rw [e 7 (by omega) (by omega)]
    refine ⟨sz_c (fun s s0 s1 => ?_), sz_c (fun s s0 s1 => ?_)⟩
    · by_cases hp : p < S 6
      · unfold sumF fstS pcS
        rw [e _ (by omega) (by omega), e _ (by omega) (by omega), e _ (by omega) (by omega), e _ (by omega) (by omega)]
      · rw [(sum_out hI.1 a a2 s0 (by omega) (Or.inr (by omega))).1]
        have := SO_out hI.1 (a := 8 * s + p) (by omega) (by omega) (by omega)
        exact if_neg (fun z => by have := z.2; rw [e _ (by omega) (by omega)] at this; omega)
    · unfold cntF
      rw [e _ (by omega) (by omega), e _ (by omega) (by omega)]
  refine ⟨⟨?_, ?_, ?_, ?_⟩, fun x u v => ?_, fun x u v => ?_, fun x u v => ?_, fun x u v => ?_, fun x u v => ?_, fun x u v => ?_, fun x u v => ?_, fun x u v => ?_, fun x y u v w z => ?_⟩
  · rw [e _ (by omega) (by omega), st_off (by decide), st_ne (by decide), st_ne (by decide), st_ne (by decide)]; exact hB.c0
  · rw [e6, st_self]
  · rw [e _ (by omega) (by omega), st_off (by decide), st_ne (by decide), st_ne (by decide), st_ne (by decide)]; exact hB.c2
  · rw [e _ (by omega) (by omega), st_off (by decide), st_ne (by decide), st_ne (by decide), st_ne (by decide)]; exact hB.c3
  · rw [e _ (by omega) (by omega), st_ne (by decide), st_ne (by decide), st_ne (by decide), st_ne (by decide)]; exact hB.f1 x u v
  · rw [e _ (by omega) (by omega)] at v; rw [e _ (by omega) (by omega), st_ne (by decide), st_ne (by decide), st_ne (by decide), st_ne (by decide)]; exact hB.f2 x u v
  · rw [e6] at v
    show st (st (st (st N 3 (S 6) m) 4 (S 6) w) 5 (S 6) f) 0 1 (S 6 + 1) 3 x = _ ∧ st (st (st (st N 3 (S 6) m) 4 (S 6) w) 5 (S 6) f) 0 1 (S 6 + 1) 4 x = _ ∧ st (st (st (st N 3 (S 6) m) 4 (S 6) w) 5 (S 6) f) 0 1 (S 6 + 1) 5 x = _
    rw [st_ne (i := 0) (a := 3) (by decide), st_ne (i := 5) (a := 3) (by decide), st_ne (i := 4) (a := 3) (by decide), st_ne (i := 0) (a := 4) (by decide), st_ne (i := 5) (a := 4) (by decide), st_ne (i := 0) (a := 5) (by decide)]
    by_cases q : x = S 6
    · rw [q, st_self, st_self, st_self, f0, f1, f2]; exact ⟨rfl, rfl, rfl⟩
    · rw [st_off q, st_off q, st_off q, st_ne (by decide), st_ne (by decide), st_ne (by decide), e _ (by omega) (by omega), e _ (by omega) (by omega), e _ (by omega) (by omega)]
      exact ⟨hB.f3 x u (by omega), hB.f4 x u (by omega), hB.f5 x u (by omega)⟩
  · rw [e 7 (by omega) (by omega)] at v; rw [e _ (by omega) (by omega), st_ne (by decide), st_ne (by decide), st_ne (by decide), st_ne (by decide)]; exact hB.f6 x u v
  · rw [e _ (by omega) (by omega), e _ (by omega) (by omega), st_ne (by decide), st_ne (by decide), st_ne (by decide), st_ne (by decide), st_ne (by decide), st_ne (by decide), st_ne (by decide), st_ne (by decide)]; exact ⟨hB.f7a x u v, hB.f8a x u v⟩
  · rw [e 7 (by omega) (by omega), e _ (by omega) (by omega), st_ne (by decide), st_ne (by decide), st_ne (by decide), st_ne (by decide)]; exact hB.f9a x u v
  · rw [e 8 (by omega) (by omega)] at v; rw [e _ (by omega) (by omega), st_ne (by decide), st_ne (by decide), st_ne (by decide), st_ne (by decide)]; exact hB.f10 x u v
  · rw [e _ (by omega) (by omega), e _ (by omega) (by omega), st_ne (by decide), st_ne (by decide), st_ne (by decide), st_ne (by decide), st_ne (by decide), st_ne (by decide), st_ne (by decide), st_ne (by decide)]; exact hB.2.2.2.2.2.2.2.2.1 x u v
  · rw [(es x y u v w).1, (es x y u v w).2, st_ne (by decide), st_ne (by decide), st_ne (by decide), st_ne (by decide), st_ne (by decide), st_ne (by decide), st_ne (by decide), st_ne (by decide)]; exact hB.2.2.2.2.2.2.2.2.2 x y u v w z
theorem BD_as {N : Mem} {S : Int → Int} (hB : BD N S) (hI : SI S) {c : Int} (h : 0 ≤ asR S c) : BD (st (st N 6 (S 7) c) 0 2 (S 7 + 1)) (asT S c) := by
  have hV0 := hI.1.1.1
  have hc : S 7 < 20 := by
    unfold asR at h
    (repeat' split at h) <;> omega
  have e7 : asT S c 7 = S 7 + 1 := ru_self _ _ _
  have ec : asT S c (37 + S 7) = c := by rw [asT, ru_off (by omega), asN_ne 8 (fun j hj => by omega), ru_self]
  have e : ∀ x, ¬ x = 7 → ¬ x = 37 + S 7 → x < 57 + 24 * S 7 ∨ 57 + 24 * S 7 + 24 ≤ x → asT S c x = S x := fun x a b d => asT_ne a b (fun j j0 j1 => by omega)
  have ea : ∀ a, 0 ≤ a → asT S c (57 + 3 * a) = S (57 + 3 * a) ∧ asT S c (57 + 3 * a + 1) = S (57 + 3 * a + 1) := fun a a0 => ⟨asT_ne (by omega) (by omega) (fun j j0 j1 => by omega), asT_ne (by omega) (by omega) (fun j j0 j1 => by omega)⟩
  have et : ∀ p q s, 0 ≤ p → p < 8 → 0 ≤ s → s < S 7 → sumF (asT S c) p q s = sumF S p q s ∧ cntF (asT S c) p q s = cntF S p q s := fun p q s p0 p1 s0 s1 => by
    unfold sumF cntF fstS pcS
    rw [(ea (8 * s + p) (by omega)).1, (ea (8 * s + p) (by omega)).2, e (37 + s) (by omega) (by omega) (by omega), e (13 + 3 * p + 2) (by omega) (by omega) (by omega)]
    exact ⟨rfl, rfl⟩
  have ez : ∀ p q, 0 ≤ p → p < 8 → sumF (asT S c) p q (S 7) = 0 ∧ cntF (asT S c) p q (S 7) = 0 := fun p q p0 p1 => by
    have := SO_out hI.1 (a := 8 * S 7 + p) (by omega) (by omega) (by omega)
    exact ⟨if_neg (fun z => by have := z.2; rw [(ea (8 * S 7 + p) (by omega)).1] at this; omega), if_neg (fun z => by have := z.2; rw [(ea (8 * S 7 + p) (by omega)).1] at this; omega)⟩
  have es : ∀ p q, 0 ≤ p → p < 8 → sumS (asT S c) p q = sumS S p q ∧ cntS (asT S c) p q = cntS S p q := fun p q p0 p1 => by
    unfold sumS cntS
    rw [e7, sz_s (by omega), sz_s (by omega), (ez p q p0 p1).1, (ez p q p0 p1).2, sz_c (fun s a b => (et p q s p0 p1 a b).1), sz_c (fun s a b => (et p q s p0 p1 a b).2)]
    omega
  refine ⟨⟨?_, ?_, ?_, ?_⟩, fun x u v => ?_, fun x u v => ?_, fun x u v => ?_, fun x u v => ?_, fun x u v => ?_, fun x u v => ?_, fun x u v => ?_, fun x u v => ?_, fun x y u v w z => ?_⟩
  · rw [e _ (by omega) (by omega) (by omega), st_off (by decide), st_ne (by decide)]; exact hB.c0
  · rw [e _ (by omega) (by omega) (by omega), st_off (by decide), st_ne (by decide)]; exact hB.c1
  · rw [e7, st_self]
  · rw [e _ (by omega) (by omega) (by omega), st_off (by decide), st_ne (by decide)]; exact hB.c3
  · rw [e _ (by omega) (by omega) (by omega), st_ne (by decide), st_ne (by decide)]; exact hB.f1 x u v
  · rw [e 5 (by omega) (by omega) (by omega)] at v; rw [e _ (by omega) (by omega) (by omega), st_ne (by decide), st_ne (by decide)]; exact hB.f2 x u v
  · rw [e 6 (by omega) (by omega) (by omega)] at v; rw [e _ (by omega) (by omega) (by omega), e _ (by omega) (by omega) (by omega), e _ (by omega) (by omega) (by omega), st_ne (by decide), st_ne (by decide), st_ne (by decide), st_ne (by decide), st_ne (by decide), st_ne (by decide)]; exact ⟨hB.f3 x u v, hB.f4 x u v, hB.f5 x u v⟩
  · rw [e7] at v
    show st (st N 6 (S 7) c) 0 2 (S 7 + 1) 6 x = _
    rw [st_ne (by decide)]
    by_cases q : x = S 7
    · rw [q, st_self, ec]
    · rw [st_off q, e _ (by omega) (by omega) (by omega)]; exact hB.f6 x u (by omega)
  · rw [(ea x u).1, (ea x u).2, st_ne (by decide), st_ne (by decide), st_ne (by decide), st_ne (by decide)]; exact ⟨hB.f7a x u v, hB.f8a x u v⟩
  · rw [e7, st_ne (by decide), st_ne (by decide)]
    have h9 := hB.f9a x u v
    by_cases q : x < 8 * S 7
    · rw [if_pos (by omega), e _ (by omega) (by omega) (by omega)]
      rw [if_pos q] at h9
      exact h9
    · rw [if_neg q] at h9
      by_cases q2 : x < 8 * (S 7 + 1)
      · rw [if_pos q2]
        have := asT_at (S := S) (c := c) (j := x - 8 * S 7) (by omega) (by omega) (by omega)
        rw [show 8 * S 7 + (x - 8 * S 7) = x by omega] at this
        rw [this]; exact h9
      · rw [if_neg q2]; exact h9
  · rw [e 8 (by omega) (by omega) (by omega)] at v; rw [e _ (by omega) (by omega) (by omega), st_ne (by decide), st_ne (by decide)]; exact hB.f10 x u v
  · rw [e _ (by omega) (by omega) (by omega), e _ (by omega) (by omega) (by omega), st_ne (by decide), st_ne (by decide), st_ne (by decide), st_ne (by decide)]; exact hB.2.2.2.2.2.2.2.2.1 x u v
  · rw [(es x y u v).1, (es x y u v).2, st_ne (by decide), st_ne (by decide), st_ne (by decide), st_ne (by decide)]; exact hB.2.2.2.2.2.2.2.2.2 x y u v w z
theorem BD_sl {N : Mem} {S : Int → Int} (hB : BD N S) (hV : SOK S) {p c r v : Int} (hp : 0 ≤ p) (hc : 0 ≤ c) (hp2 : p < 8) (hc2 : c < 3) : BD (st (st N 11 (p * 3 + c) r) 12 (p * 3 + c) v) (slT S p c r v) := by
  have hV0 := hV.1
  have e : ∀ x, x < 537 ∨ 585 ≤ x → slT S p c r v x = S x := fun x a => by rw [slT, ru_off (by omega), ru_off (by omega)]
  have es : ∀ p' q, 0 ≤ p' → p' < 8 → sumS (slT S p c r v) p' q = sumS S p' q ∧ cntS (slT S p c r v) p' q = cntS S p' q := fun p' q p0 p1 => by
    unfold sumS cntS
    rw [e 7 (by omega)]
    refine ⟨sz_c (fun s s0 s1 => ?_), sz_c (fun s s0 s1 => ?_)⟩
    · unfold sumF fstS pcS
      rw [e _ (by omega), e _ (by omega), e _ (by omega), e _ (by omega)]
    · unfold cntF
      rw [e _ (by omega), e _ (by omega)]
  refine ⟨⟨?_, ?_, ?_, ?_⟩, fun x u v' => ?_, fun x u v' => ?_, fun x u v' => ?_, fun x u v' => ?_, fun x u v' => ?_, fun x u v' => ?_, fun x u v' => ?_, fun x u v' => ?_, fun x y u v' w z => ?_⟩
  · rw [e _ (by omega), st_ne (by decide), st_ne (by decide)]; exact hB.c0
  · rw [e _ (by omega), st_ne (by decide), st_ne (by decide)]; exact hB.c1
  · rw [e _ (by omega), st_ne (by decide), st_ne (by decide)]; exact hB.c2
  · rw [e _ (by omega), st_ne (by decide), st_ne (by decide)]; exact hB.c3
  · rw [e _ (by omega), st_ne (by decide), st_ne (by decide)]; exact hB.f1 x u v'
  · rw [e _ (by omega)] at v'; rw [e _ (by omega), st_ne (by decide), st_ne (by decide)]; exact hB.f2 x u v'
  · rw [e 6 (by omega)] at v'; rw [e _ (by omega), e _ (by omega), e _ (by omega), st_ne (by decide), st_ne (by decide), st_ne (by decide), st_ne (by decide), st_ne (by decide), st_ne (by decide)]; exact ⟨hB.f3 x u v', hB.f4 x u v', hB.f5 x u v'⟩
  · rw [e 7 (by omega)] at v'; rw [e _ (by omega), st_ne (by decide), st_ne (by decide)]; exact hB.f6 x u v'
  · rw [e _ (by omega), e _ (by omega), st_ne (by decide), st_ne (by decide), st_ne (by decide), st_ne (by decide)]; exact ⟨hB.f7a x u v', hB.f8a x u v'⟩
  · rw [e 7 (by omega), e _ (by omega), st_ne (by decide), st_ne (by decide)]; exact hB.f9a x u v'
  · rw [e 8 (by omega)] at v'; rw [e _ (by omega), st_ne (by decide), st_ne (by decide)]; exact hB.f10 x u v'
  · show st (st N 11 (p * 3 + c) r) 12 (p * 3 + c) v 11 x = _ ∧ st (st N 11 (p * 3 + c) r) 12 (p * 3 + c) v 12 x = _
    rw [st_ne (i := 12) (a := 11) (by decide)]
    by_cases q : x = p * 3 + c
    · rw [q, st_self, st_self, slT, ru_off (by omega), show 537 + 2 * (p * 3 + c) = 537 + 2 * (3 * p + c) by omega, ru_self, ru_self]
      exact ⟨rfl, rfl⟩
    · rw [st_off q, st_off q, st_ne (by decide), slT, ru_off (by omega), ru_off (by omega), ru_off (by omega), ru_off (by omega)]
      exact hB.2.2.2.2.2.2.2.2.1 x u v'
  · rw [(es x y u v').1, (es x y u v').2, st_ne (by decide), st_ne (by decide), st_ne (by decide), st_ne (by decide)]; exact hB.2.2.2.2.2.2.2.2.2 x y u v' w z
def MO5 (M M' : Mem) (S T : Int → Int) : Prop := BD M' T ∧ BDr (15 * ((M 165 1).toNat + 2)) M' S ∧ M' 165 1 = (M 165 1 + 1) % 9 ∧ M' 165 2 = min (M 165 2 + 1) 8 ∧ ∀ i, 15 ≤ i → i ≠ 165 → (i < 15 * ((M 165 1).toNat + 2) ∨ 15 * ((M 165 1).toNat + 2) + 15 ≤ i) → M' i = M i
theorem MO5_keep {M N : Mem} {S : Int → Int} (hB : BD M S) (hV : SOK S) (h1 : 0 ≤ M 165 1 ∧ M 165 1 < 9) (h : CPY M 0 ((M 165 1).toNat + 2) N) : MO5 M (cfm N) S S := by
  have e0 : ∀ i, i < 15 ∨ (15 ≤ i ∧ (i < 15 * ((M 165 1).toNat + 2) ∨ 15 * ((M 165 1).toNat + 2) + 15 ≤ i)) → N i = M i := fun i hi => h.2.2 i (by omega)
  have e5 : N 165 = M 165 := e0 165 (by omega)
  refine ⟨hB.congr (fun i hi => by rw [cfm, st_ne (by omega), st_ne (by omega)]; exact e0 i (Or.inl hi)), (h.bd hV hB).congr (fun i a b => by rw [cfm, st_ne (by omega), st_ne (by omega)]), ?_, ?_, fun i a b c => by rw [cfm, st_ne b, st_ne b]; exact e0 i (Or.inr ⟨a, c⟩)⟩
  · rw [cfm, st_off (by decide), st_self, e5]
  · rw [cfm, st_self, e5]
theorem MO5.bd {M N O : Mem} {S T T2 : Int → Int} (h : MO5 M N S T) (h1 : 0 ≤ M 165 1) (e : ∀ i, 15 ≤ i → O i = N i) (hB : BD O T2) : MO5 M O S T2 := by
  obtain ⟨a1, a2, a3, a4, a5⟩ := h
  exact ⟨hB, a2.congr (fun i x y => e i (by omega)), by rw [e 165 (by decide)]; exact a3, by rw [e 165 (by decide)]; exact a4, fun i x y z => by rw [e i x]; exact a5 i x y z⟩
theorem reS_37 {S : Int → Int} {k s p raw r : Int} (h : reS S k s p raw = r) : (r = 3 → 0 ≤ p ∧ p < S 6) ∧ (r = 7 → (0 ≤ s ∧ s < S 7) ∧ 0 ≤ p ∧ p < S 6) := by
  unfold reS at h
  (repeat' split at h) <;> refine ⟨fun z => ?_, fun z => ?_⟩ <;> omega
def rfM (M : Mem) (r e a : Int) : Mem := st (st (st M 183 8 r) 183 9 e) 183 10 a

theorem ct5_set {cx : Cx} {M : Mem} {S : Int → Int} (hB : BD M S) (hI : SI S) (h1 : 0 ≤ M 165 1 ∧ M 165 1 < 9) (h2 : 0 ≤ M 165 2 ∧ M 165 2 ≤ 8) {w v : Int} (hw : -2147483648 ≤ w ∧ w ≤ 2147483647) (hv : -2147483648 ≤ v ∧ v ≤ 2147483647) : Ct cx yX5_set cX5_set 4 (some .int) 6 0 0 [rf cx 183, .int (oi w), .int (oi v)] M (fun rz M' => (if setOK w v then S w else -2) = rz ∧ (if setOK w v then MO5 M M' S (ru S w v) else M = M')) := by
  refine ct_intro cd_X5_set (by decide +kernel) (Nat.le_of_ble_eq_true rfl) rfl (fun Pg Lc Ev s m args below meth c E hr => ?_)
  refine g_ent (ls' := [some (rf cx 183), some (.int (oi w)), some (.int (oi v)), none]) rfl ?_
  have hV := hI.1.1
  have hV0 := hV.1
  have hB0 := hB.c0
  have hB1 := hB.c1
  have hB2 := hB.c2
  have hB3 := hB.c3
  refine g_iload_n (pc := 0) E dX5_set_0 (i := 1) rfl rfl ?_
  refine g_iload_n (pc := 1) E dX5_set_1 (i := 2) rfl rfl ?_
  refine g_callS (pc := 2) (As := [_, _]) E dX5_set_2 ml_X5_68 (ct_isSetting5 (by omega) (by omega)) rfl rfl (by decide) (by decide) rfl (Nat.le_of_ble_eq_true rfl) (by decide) (fun x2 M2 hM2 => ?_)
  obtain ⟨rfl, rfl⟩ := hM2
  refine g_if_ne (pc := 5) (tgt := 11) E dX5_set_5 (by decide) (fun qh5 => ?_) (fun qh5 => ?_) (Int.le_trans (by decide) (bi_R _).1) (Int.le_trans (bi_R _).2 (by decide))
  · replace qh5 := bi_n.mp qh5
    have hwR : 0 ≤ w ∧ w ≤ 4 := by unfold setOK at qh5; omega
    refine g_aload_n (pc := 11) E dX5_set_11 (i := 0) rfl rfl ?_
    refine g_getr (i := 183) (j := 0) (t := 5) (f := 0) (pc := 12) E dX5_set_12 fl_X5_12 rfl (by decide) (by decide) rfl rfl ?_
    refine g_getr (i := 0) (j := 1) (t := 0) (f := 4) (pc := 15) E dX5_set_15 fl_X5_72 rfl (by decide) (by decide) rfl rfl ?_
    refine g_iload_n (pc := 18) E dX5_set_18 (i := 1) rfl rfl ?_
    refine g_iald (q := 5) (pc := 19) E dX5_set_19 rfl (by omega) (by omega) (hB.f1 _ (by omega) (by omega)) (fun _ _ => ?_)
    refine g_istore_n (pc := 20) E dX5_set_20 (i := 3) (ls' := [_, _, _, _]) rfl (Nat.le_of_ble_eq_true rfl) rfl ?_
    refine g_aload_n (pc := 21) E dX5_set_21 (i := 0) rfl rfl ?_
    refine g_getr (i := 183) (j := 165) (t := 5) (f := 3) (pc := 22) E dX5_set_22 fl_X5_26 rfl (by decide) (by decide) rfl rfl ?_
    refine g_aload_n (pc := 25) E dX5_set_25 (i := 0) rfl rfl ?_
    refine g_getr (i := 183) (j := 0) (t := 5) (f := 0) (pc := 26) E dX5_set_26 fl_X5_12 rfl (by decide) (by decide) rfl rfl ?_
    refine g_callVv (pc := 29) (As := [_]) E dX5_set_29 ml_X5_76 (cv_keep h1 h2) rfl rfl rfl rfl (by decide) (by decide) rfl (Nat.le_of_ble_eq_true rfl) (by decide) (fun M29 hM29 => ?_)
    obtain ⟨NK, hNK, rfl⟩ := hM29
    have hmo := MO5_keep hB hV h1 hNK
    have hBM := hB
    have hB := hmo.1
    have hB0 := hB.c0
    have hB1 := hB.c1
    have hB2 := hB.c2
    have hB3 := hB.c3
    refine g_aload_n (pc := 32) E dX5_set_32 (i := 0) rfl rfl ?_
    refine g_getr (i := 183) (j := 0) (t := 5) (f := 0) (pc := 33) E dX5_set_33 fl_X5_12 rfl (by decide) (by decide) rfl rfl ?_
    refine g_getr (i := 0) (j := 1) (t := 0) (f := 4) (pc := 36) E dX5_set_36 fl_X5_72 rfl (by decide) (by decide) rfl rfl ?_
    refine g_iload_n (pc := 39) E dX5_set_39 (i := 1) rfl rfl ?_
    refine g_iload_n (pc := 40) E dX5_set_40 (i := 2) rfl rfl ?_
    refine g_iast (q := 5) (pc := 41) E dX5_set_41 rfl (by omega) (by omega) ?_ 
    refine g_iload_n (pc := 42) E dX5_set_42 (i := 3) rfl rfl ?_
    refine g_iret (pc := 43) E hr dX5_set_43 ?_
    exact ⟨if_pos qh5, by rw [if_pos qh5]; exact hmo.bd h1.1 (fun i hi => by rw [st_ne (by omega)]) (BD_set hB hwR)⟩
  · replace qh5 := bi_0.mp qh5
    refine g_bipush (pc := 8) E dX5_set_8 rfl ?_
    refine g_iret (pc := 10) E hr dX5_set_10 ?_
    exact ⟨if_neg qh5, by rw [if_neg qh5]⟩

theorem ct5_addModule {cx : Cx} {M : Mem} {S : Int → Int} (hB : BD M S) (hI : SI S) (h1 : 0 ≤ M 165 1 ∧ M 165 1 < 9) (h2 : 0 ≤ M 165 2 ∧ M 165 2 ≤ 8) {w : Int} (hw : -2147483648 ≤ w ∧ w ≤ 2147483647) : Ct cx yX5_addModule cX5_addModule 2 (some .int) 6 0 0 [rf cx 183, .int (oi w)] M (fun rz M' => amR S w = rz ∧ (if 0 ≤ amR S w then MO5 M M' S (amT S w) else M = M')) := by
  refine ct_intro cd_X5_addModule (by decide +kernel) (Nat.le_of_ble_eq_true rfl) rfl (fun Pg Lc Ev s m args below meth c E hr => ?_)
  refine g_ent (ls' := [some (rf cx 183), some (.int (oi w))]) rfl ?_
  have hV := hI.1.1
  have hV0 := hV.1
  have hB0 := hB.c0
  have hB1 := hB.c1
  have hB2 := hB.c2
  have hB3 := hB.c3
  refine g_iload_n (pc := 0) E dX5_addModule_0 (i := 1) rfl rfl ?_
  refine g_iconst (pc := 1) E dX5_addModule_1 rfl ?_
  refine g_bipush (pc := 2) E dX5_addModule_2 rfl ?_
  refine g_callS (pc := 4) (As := [_, _, _]) E dX5_addModule_4 ml_X5_80 (ct_isWithin (by omega) (by omega) (by omega)) rfl rfl (by decide) (by decide) rfl (Nat.le_of_ble_eq_true rfl) (by decide) (fun x4 M4 hM4 => ?_)
  obtain ⟨rfl, rfl⟩ := hM4
  refine g_if_ne (pc := 7) (tgt := 13) E dX5_addModule_7 (by decide) (fun qh7 => ?_) (fun qh7 => ?_) (Int.le_trans (by decide) (bi_R _).1) (Int.le_trans (bi_R _).2 (by decide))
  · replace qh7 := bi_n.mp qh7
    refine g_aload_n (pc := 13) E dX5_addModule_13 (i := 0) rfl rfl ?_
    refine g_getr (i := 183) (j := 0) (t := 5) (f := 0) (pc := 14) E dX5_addModule_14 fl_X5_12 rfl (by decide) (by decide) rfl rfl ?_
    refine g_geti (i := 0) (t := 0) (f := 0) (fz := 0) (pc := 17) E dX5_addModule_17 fl_X5_84 rfl (by decide) (by decide) rfl rfl hB.c0 (fun _ _ => ?_)
    refine g_iconst (pc := 20) E dX5_addModule_20 rfl ?_
    refine g_icmp_lt (pc := 21) (tgt := 27) E dX5_addModule_21 (by decide) (fun qh21 => ?_) (fun qh21 => ?_) 
    · have e : amR S w = S 5 := by rw [amR, if_neg (by omega), if_neg (by omega)]
      have hge : 0 ≤ amR S w := by omega
      refine g_aload_n (pc := 27) E dX5_addModule_27 (i := 0) rfl rfl ?_
      refine g_getr (i := 183) (j := 165) (t := 5) (f := 3) (pc := 28) E dX5_addModule_28 fl_X5_26 rfl (by decide) (by decide) rfl rfl ?_
      refine g_aload_n (pc := 31) E dX5_addModule_31 (i := 0) rfl rfl ?_
      refine g_getr (i := 183) (j := 0) (t := 5) (f := 0) (pc := 32) E dX5_addModule_32 fl_X5_12 rfl (by decide) (by decide) rfl rfl ?_
      refine g_callVv (pc := 35) (As := [_]) E dX5_addModule_35 ml_X5_76 (cv_keep h1 h2) rfl rfl rfl rfl (by decide) (by decide) rfl (Nat.le_of_ble_eq_true rfl) (by decide) (fun M35 hM35 => ?_)
      obtain ⟨NK, hNK, rfl⟩ := hM35
      have hmo := MO5_keep hB hV h1 hNK
      have hBM := hB
      have hB := hmo.1
      have hB0 := hB.c0
      have hB1 := hB.c1
      have hB2 := hB.c2
      have hB3 := hB.c3
      refine g_aload_n (pc := 38) E dX5_addModule_38 (i := 0) rfl rfl ?_
      refine g_getr (i := 183) (j := 0) (t := 5) (f := 0) (pc := 39) E dX5_addModule_39 fl_X5_12 rfl (by decide) (by decide) rfl rfl ?_
      refine g_getr (i := 0) (j := 2) (t := 0) (f := 5) (pc := 42) E dX5_addModule_42 fl_X5_87 rfl (by decide) (by decide) rfl rfl ?_
      refine g_aload_n (pc := 45) E dX5_addModule_45 (i := 0) rfl rfl ?_
      refine g_getr (i := 183) (j := 0) (t := 5) (f := 0) (pc := 46) E dX5_addModule_46 fl_X5_12 rfl (by decide) (by decide) rfl rfl ?_
      refine g_geti (i := 0) (t := 0) (f := 0) (fz := 0) (pc := 49) E dX5_addModule_49 fl_X5_84 rfl (by decide) (by decide) rfl rfl hB.c0 (fun _ _ => ?_)
      refine g_iload_n (pc := 52) E dX5_addModule_52 (i := 1) rfl rfl ?_
      refine g_iast (q := 4) (pc := 53) E dX5_addModule_53 rfl (by omega) (by omega) ?_ 
      refine g_aload_n (pc := 54) E dX5_addModule_54 (i := 0) rfl rfl ?_
      refine g_getr (i := 183) (j := 0) (t := 5) (f := 0) (pc := 55) E dX5_addModule_55 fl_X5_12 rfl (by decide) (by decide) rfl rfl ?_
      refine g_dup (pc := 58) E dX5_addModule_58 rfl ?_
      refine g_geti (i := 0) (t := 0) (f := 0) (fz := 0) (pc := 59) E dX5_addModule_59 fl_X5_84 rfl (by decide) (by decide) rfl rfl (v := S 5) (by rw [st_ne (by decide)]; exact hB0) (fun _ _ => ?_)
      refine g_iconst (pc := 62) E dX5_addModule_62 rfl ?_
      refine g_iadd (pc := 63) E dX5_addModule_63 ?_
      refine g_puti (i := 0) (t := 0) (f := 0) (fz := 0) (pc := 64) E dX5_addModule_64 fl_X5_84 rfl (by decide) (by decide) rfl rfl ?_ 
      refine g_aload_n (pc := 67) E dX5_addModule_67 (i := 0) rfl rfl ?_
      refine g_getr (i := 183) (j := 0) (t := 5) (f := 0) (pc := 68) E dX5_addModule_68 fl_X5_12 rfl (by decide) (by decide) rfl rfl ?_
      refine g_geti (i := 0) (t := 0) (f := 0) (fz := 0) (pc := 71) E dX5_addModule_71 fl_X5_84 rfl (by decide) (by decide) rfl rfl (v := S 5 + 1) (by rw [st_self]) (fun _ _ => ?_)
      refine g_iconst (pc := 74) E dX5_addModule_74 rfl ?_
      refine g_isub (pc := 75) E dX5_addModule_75 ?_
      refine g_iret (pc := 76) E hr dX5_addModule_76 ?_
      exact ⟨by rw [e]; omega, by rw [if_pos hge]; exact hmo.bd h1.1 (fun i hi => by rw [st_ne (by omega), st_ne (by omega)]) (BD_am hB hI hge)⟩
    · refine g_bipush (pc := 24) E dX5_addModule_24 rfl ?_
      refine g_iret (pc := 26) E hr dX5_addModule_26 ?_
      have e : amR S w = -3 := by rw [amR, if_neg (by omega), if_pos (by omega)]
      exact ⟨e, by rw [e, if_neg (by decide)]⟩
  · replace qh7 := bi_0.mp qh7
    refine g_bipush (pc := 10) E dX5_addModule_10 rfl ?_
    refine g_iret (pc := 12) E hr dX5_addModule_12 ?_
    have e : amR S w = -2 := by rw [amR, if_pos (by omega)]
    exact ⟨e, by rw [e, if_neg (by decide)]⟩

theorem ct5_addPaper {cx : Cx} {M : Mem} {S : Int → Int} (hB : BD M S) (hI : SI S) (h1 : 0 ≤ M 165 1 ∧ M 165 1 < 9) (h2 : 0 ≤ M 165 2 ∧ M 165 2 ≤ 8) {mn w f : Int} (hmn : -2147483648 ≤ mn ∧ mn ≤ 2147483647) (hw : -2147483648 ≤ w ∧ w ≤ 2147483647) (hf : -2147483648 ≤ f ∧ f ≤ 2147483647) : Ct cx yX5_addPaper cX5_addPaper 5 (some .int) 6 0 0 [rf cx 183, .int (oi mn), .int (oi w), .int (oi f)] M (fun rz M' => apR S mn w f = rz ∧ (if 0 ≤ apR S mn w f then MO5 M M' S (apT S mn w f) else M = M')) := by
  refine ct_intro cd_X5_addPaper (by decide +kernel) (Nat.le_of_ble_eq_true rfl) rfl (fun Pg Lc Ev s m args below meth c E hr => ?_)
  refine g_ent (ls' := [some (rf cx 183), some (.int (oi mn)), some (.int (oi w)), some (.int (oi f)), none]) rfl ?_
  have hV := hI.1.1
  have hV0 := hV.1
  have hB0 := hB.c0
  have hB1 := hB.c1
  have hB2 := hB.c2
  have hB3 := hB.c3
  refine g_aload_n (pc := 0) E dX5_addPaper_0 (i := 0) rfl rfl ?_
  refine g_getr (i := 183) (j := 0) (t := 5) (f := 0) (pc := 1) E dX5_addPaper_1 fl_X5_12 rfl (by decide) (by decide) rfl rfl ?_
  refine g_iload_n (pc := 4) E dX5_addPaper_4 (i := 1) rfl rfl ?_
  refine g_callV (pc := 5) (As := [_]) E dX5_addPaper_5 ml_X5_90 (ct_hasModule hB hV (by omega)) rfl rfl rfl rfl (by decide) (by decide) rfl (Nat.le_of_ble_eq_true rfl) (by decide) (fun x5 M5 hM5 => ?_)
  obtain ⟨rfl, rfl⟩ := hM5
  refine g_if_ne (pc := 8) (tgt := 13) E dX5_addPaper_8 (by decide) (fun qh8 => ?_) (fun qh8 => ?_) (Int.le_trans (by decide) (bi_R _).1) (Int.le_trans (bi_R _).2 (by decide))
  · replace qh8 := bi_n.mp qh8
    refine g_iload_n (pc := 13) E dX5_addPaper_13 (i := 2) rfl rfl ?_
    refine g_iconst (pc := 14) E dX5_addPaper_14 rfl ?_
    refine g_bipush (pc := 15) E dX5_addPaper_15 rfl ?_
    refine g_callS (pc := 17) (As := [_, _, _]) E dX5_addPaper_17 ml_X5_80 (ct_isWithin (by omega) (by omega) (by omega)) rfl rfl (by decide) (by decide) rfl (Nat.le_of_ble_eq_true rfl) (by decide) (fun x17 M17 hM17 => ?_)
    obtain ⟨rfl, rfl⟩ := hM17
    refine g_if_eq (pc := 20) (tgt := 35) E dX5_addPaper_20 (by decide) (fun qh20 => ?_) (fun qh20 => ?_) (Int.le_trans (by decide) (bi_R _).1) (Int.le_trans (bi_R _).2 (by decide))
    · replace qh20 := bi_0.mp qh20
      refine g_bipush (pc := 35) E dX5_addPaper_35 rfl ?_
      refine g_iret (pc := 37) E hr dX5_addPaper_37 ?_
      have e : apR S mn w f = -2 := by rw [apR, if_neg (by omega), if_pos (by omega)]
      exact ⟨e, by rw [e, if_neg (by decide)]⟩
    · replace qh20 := bi_n.mp qh20
      refine g_iload_n (pc := 23) E dX5_addPaper_23 (i := 3) rfl rfl ?_
      refine g_bipush (pc := 24) E dX5_addPaper_24 rfl ?_
      refine g_sipush (pc := 26) E dX5_addPaper_26 rfl ?_
      refine g_callS (pc := 29) (As := [_, _, _]) E dX5_addPaper_29 ml_X5_80 (ct_isWithin (by omega) (by omega) (by omega)) rfl rfl (by decide) (by decide) rfl (Nat.le_of_ble_eq_true rfl) (by decide) (fun x29 M29 hM29 => ?_)
      obtain ⟨rfl, rfl⟩ := hM29
      refine g_if_ne (pc := 32) (tgt := 38) E dX5_addPaper_32 (by decide) (fun qh32 => ?_) (fun qh32 => ?_) (Int.le_trans (by decide) (bi_R _).1) (Int.le_trans (bi_R _).2 (by decide))
      · replace qh32 := bi_n.mp qh32
        refine g_aload_n (pc := 38) E dX5_addPaper_38 (i := 0) rfl rfl ?_
        refine g_getr (i := 183) (j := 0) (t := 5) (f := 0) (pc := 39) E dX5_addPaper_39 fl_X5_12 rfl (by decide) (by decide) rfl rfl ?_
        refine g_geti (i := 0) (t := 0) (f := 1) (fz := 1) (pc := 42) E dX5_addPaper_42 fl_X5_94 rfl (by decide) (by decide) rfl rfl hB.c1 (fun _ _ => ?_)
        refine g_bipush (pc := 45) E dX5_addPaper_45 rfl ?_
        refine g_icmp_lt (pc := 47) (tgt := 53) E dX5_addPaper_47 (by decide) (fun qh47 => ?_) (fun qh47 => ?_) 
        · have e : apR S mn w f = S 6 := by rw [apR, if_neg (by omega), if_neg (by omega), if_neg (by omega)]
          have hge : 0 ≤ apR S mn w f := by omega
          refine g_aload_n (pc := 53) E dX5_addPaper_53 (i := 0) rfl rfl ?_
          refine g_getr (i := 183) (j := 165) (t := 5) (f := 3) (pc := 54) E dX5_addPaper_54 fl_X5_26 rfl (by decide) (by decide) rfl rfl ?_
          refine g_aload_n (pc := 57) E dX5_addPaper_57 (i := 0) rfl rfl ?_
          refine g_getr (i := 183) (j := 0) (t := 5) (f := 0) (pc := 58) E dX5_addPaper_58 fl_X5_12 rfl (by decide) (by decide) rfl rfl ?_
          refine g_callVv (pc := 61) (As := [_]) E dX5_addPaper_61 ml_X5_76 (cv_keep h1 h2) rfl rfl rfl rfl (by decide) (by decide) rfl (Nat.le_of_ble_eq_true rfl) (by decide) (fun M61 hM61 => ?_)
          obtain ⟨NK, hNK, rfl⟩ := hM61
          have hmo := MO5_keep hB hV h1 hNK
          have hBM := hB
          have hB := hmo.1
          have hB0 := hB.c0
          have hB1 := hB.c1
          have hB2 := hB.c2
          have hB3 := hB.c3
          refine g_aload_n (pc := 64) E dX5_addPaper_64 (i := 0) rfl rfl ?_
          refine g_getr (i := 183) (j := 0) (t := 5) (f := 0) (pc := 65) E dX5_addPaper_65 fl_X5_12 rfl (by decide) (by decide) rfl rfl ?_
          refine g_geti (i := 0) (t := 0) (f := 1) (fz := 1) (pc := 68) E dX5_addPaper_68 fl_X5_94 rfl (by decide) (by decide) rfl rfl hB.c1 (fun _ _ => ?_)
          refine g_istore (pc := 71) E dX5_addPaper_71 (ls' := [_, _, _, _, _]) (Nat.le_of_ble_eq_true rfl) rfl ?_
          refine g_aload_n (pc := 73) E dX5_addPaper_73 (i := 0) rfl rfl ?_
          refine g_getr (i := 183) (j := 0) (t := 5) (f := 0) (pc := 74) E dX5_addPaper_74 fl_X5_12 rfl (by decide) (by decide) rfl rfl ?_
          refine g_getr (i := 0) (j := 3) (t := 0) (f := 6) (pc := 77) E dX5_addPaper_77 fl_X5_97 rfl (by decide) (by decide) rfl rfl ?_
          refine g_iload (pc := 80) E dX5_addPaper_80 rfl ?_
          refine g_iload_n (pc := 82) E dX5_addPaper_82 (i := 1) rfl rfl ?_
          refine g_iast (q := 8) (pc := 83) E dX5_addPaper_83 rfl (by omega) (by omega) ?_ 
          refine g_aload_n (pc := 84) E dX5_addPaper_84 (i := 0) rfl rfl ?_
          refine g_getr (i := 183) (j := 0) (t := 5) (f := 0) (pc := 85) E dX5_addPaper_85 fl_X5_12 rfl (by decide) (by decide) rfl rfl ?_
          refine g_getr (i := 0) (j := 4) (t := 0) (f := 7) (pc := 88) E dX5_addPaper_88 fl_X5_100 rfl (by decide) (by decide) rfl rfl ?_
          refine g_iload (pc := 91) E dX5_addPaper_91 rfl ?_
          refine g_iload_n (pc := 93) E dX5_addPaper_93 (i := 2) rfl rfl ?_
          refine g_iast (q := 8) (pc := 94) E dX5_addPaper_94 rfl (by omega) (by omega) ?_ 
          refine g_aload_n (pc := 95) E dX5_addPaper_95 (i := 0) rfl rfl ?_
          refine g_getr (i := 183) (j := 0) (t := 5) (f := 0) (pc := 96) E dX5_addPaper_96 fl_X5_12 rfl (by decide) (by decide) rfl rfl ?_
          refine g_getr (i := 0) (j := 5) (t := 0) (f := 8) (pc := 99) E dX5_addPaper_99 fl_X5_103 rfl (by decide) (by decide) rfl rfl ?_
          refine g_iload (pc := 102) E dX5_addPaper_102 rfl ?_
          refine g_iload_n (pc := 104) E dX5_addPaper_104 (i := 3) rfl rfl ?_
          refine g_iast (q := 8) (pc := 105) E dX5_addPaper_105 rfl (by omega) (by omega) ?_ 
          refine g_aload_n (pc := 106) E dX5_addPaper_106 (i := 0) rfl rfl ?_
          refine g_getr (i := 183) (j := 0) (t := 5) (f := 0) (pc := 107) E dX5_addPaper_107 fl_X5_12 rfl (by decide) (by decide) rfl rfl ?_
          refine g_dup (pc := 110) E dX5_addPaper_110 rfl ?_
          refine g_geti (i := 0) (t := 0) (f := 1) (fz := 1) (pc := 111) E dX5_addPaper_111 fl_X5_94 rfl (by decide) (by decide) rfl rfl (v := S 6) (by rw [st_ne (by decide), st_ne (by decide), st_ne (by decide)]; exact hB1) (fun _ _ => ?_)
          refine g_iconst (pc := 114) E dX5_addPaper_114 rfl ?_
          refine g_iadd (pc := 115) E dX5_addPaper_115 ?_
          refine g_puti (i := 0) (t := 0) (f := 1) (fz := 1) (pc := 116) E dX5_addPaper_116 fl_X5_94 rfl (by decide) (by decide) rfl rfl ?_ 
          refine g_iload (pc := 119) E dX5_addPaper_119 rfl ?_
          refine g_iret (pc := 121) E hr dX5_addPaper_121 ?_
          exact ⟨e, by rw [if_pos hge]; exact hmo.bd h1.1 (fun i hi => by rw [st_ne (by omega), st_ne (by omega), st_ne (by omega), st_ne (by omega)]) (BD_ap hB hI hge)⟩
        · refine g_bipush (pc := 50) E dX5_addPaper_50 rfl ?_
          refine g_iret (pc := 52) E hr dX5_addPaper_52 ?_
          have e : apR S mn w f = -3 := by rw [apR, if_neg (by omega), if_neg (by omega), if_pos (by omega)]
          exact ⟨e, by rw [e, if_neg (by decide)]⟩
      · replace qh32 := bi_0.mp qh32
        refine g_bipush (pc := 35) E dX5_addPaper_35 rfl ?_
        refine g_iret (pc := 37) E hr dX5_addPaper_37 ?_
        have e : apR S mn w f = -2 := by rw [apR, if_neg (by omega), if_pos (by omega)]
        exact ⟨e, by rw [e, if_neg (by decide)]⟩
  · replace qh8 := bi_0.mp qh8
    refine g_iconst (pc := 11) E dX5_addPaper_11 rfl ?_
    refine g_iret (pc := 12) E hr dX5_addPaper_12 ?_
    have e : apR S mn w f = -1 := by rw [apR, if_pos (by omega)]
    exact ⟨e, by rw [e, if_neg (by decide)]⟩

theorem ct5_addStudent {cx : Cx} {M : Mem} {S : Int → Int} (hB : BD M S) (hI : SI S) (h1 : 0 ≤ M 165 1 ∧ M 165 1 < 9) (h2 : 0 ≤ M 165 2 ∧ M 165 2 ≤ 8) {w : Int} (hw : -2147483648 ≤ w ∧ w ≤ 2147483647) : Ct cx yX5_addStudent cX5_addStudent 2 (some .int) 6 0 0 [rf cx 183, .int (oi w)] M (fun rz M' => asR S w = rz ∧ (if 0 ≤ asR S w then MO5 M M' S (asT S w) else M = M')) := by
  refine ct_intro cd_X5_addStudent (by decide +kernel) (Nat.le_of_ble_eq_true rfl) rfl (fun Pg Lc Ev s m args below meth c E hr => ?_)
  refine g_ent (ls' := [some (rf cx 183), some (.int (oi w))]) rfl ?_
  have hV := hI.1.1
  have hV0 := hV.1
  have hB0 := hB.c0
  have hB1 := hB.c1
  have hB2 := hB.c2
  have hB3 := hB.c3
  refine g_iload_n (pc := 0) E dX5_addStudent_0 (i := 1) rfl rfl ?_
  refine g_callS (pc := 1) (As := [_]) E dX5_addStudent_1 ml_X5_106 (ct_isCohort (by omega)) rfl rfl (by decide) (by decide) rfl (Nat.le_of_ble_eq_true rfl) (by decide) (fun x1 M1 hM1 => ?_)
  obtain ⟨rfl, rfl⟩ := hM1
  refine g_if_ne (pc := 4) (tgt := 10) E dX5_addStudent_4 (by decide) (fun qh4 => ?_) (fun qh4 => ?_) (Int.le_trans (by decide) (bi_R _).1) (Int.le_trans (bi_R _).2 (by decide))
  · replace qh4 := bi_n.mp qh4
    refine g_aload_n (pc := 10) E dX5_addStudent_10 (i := 0) rfl rfl ?_
    refine g_getr (i := 183) (j := 0) (t := 5) (f := 0) (pc := 11) E dX5_addStudent_11 fl_X5_12 rfl (by decide) (by decide) rfl rfl ?_
    refine g_geti (i := 0) (t := 0) (f := 2) (fz := 2) (pc := 14) E dX5_addStudent_14 fl_X5_109 rfl (by decide) (by decide) rfl rfl hB.c2 (fun _ _ => ?_)
    refine g_bipush (pc := 17) E dX5_addStudent_17 rfl ?_
    refine g_icmp_lt (pc := 19) (tgt := 25) E dX5_addStudent_19 (by decide) (fun qh19 => ?_) (fun qh19 => ?_) 
    · have e : asR S w = S 7 := by rw [asR, if_neg (by omega), if_neg (by omega)]
      have hge : 0 ≤ asR S w := by omega
      refine g_aload_n (pc := 25) E dX5_addStudent_25 (i := 0) rfl rfl ?_
      refine g_getr (i := 183) (j := 165) (t := 5) (f := 3) (pc := 26) E dX5_addStudent_26 fl_X5_26 rfl (by decide) (by decide) rfl rfl ?_
      refine g_aload_n (pc := 29) E dX5_addStudent_29 (i := 0) rfl rfl ?_
      refine g_getr (i := 183) (j := 0) (t := 5) (f := 0) (pc := 30) E dX5_addStudent_30 fl_X5_12 rfl (by decide) (by decide) rfl rfl ?_
      refine g_callVv (pc := 33) (As := [_]) E dX5_addStudent_33 ml_X5_76 (cv_keep h1 h2) rfl rfl rfl rfl (by decide) (by decide) rfl (Nat.le_of_ble_eq_true rfl) (by decide) (fun M33 hM33 => ?_)
      obtain ⟨NK, hNK, rfl⟩ := hM33
      have hmo := MO5_keep hB hV h1 hNK
      have hBM := hB
      have hB := hmo.1
      have hB0 := hB.c0
      have hB1 := hB.c1
      have hB2 := hB.c2
      have hB3 := hB.c3
      refine g_aload_n (pc := 36) E dX5_addStudent_36 (i := 0) rfl rfl ?_
      refine g_getr (i := 183) (j := 0) (t := 5) (f := 0) (pc := 37) E dX5_addStudent_37 fl_X5_12 rfl (by decide) (by decide) rfl rfl ?_
      refine g_getr (i := 0) (j := 6) (t := 0) (f := 9) (pc := 40) E dX5_addStudent_40 fl_X5_112 rfl (by decide) (by decide) rfl rfl ?_
      refine g_aload_n (pc := 43) E dX5_addStudent_43 (i := 0) rfl rfl ?_
      refine g_getr (i := 183) (j := 0) (t := 5) (f := 0) (pc := 44) E dX5_addStudent_44 fl_X5_12 rfl (by decide) (by decide) rfl rfl ?_
      refine g_geti (i := 0) (t := 0) (f := 2) (fz := 2) (pc := 47) E dX5_addStudent_47 fl_X5_109 rfl (by decide) (by decide) rfl rfl hB.c2 (fun _ _ => ?_)
      refine g_iload_n (pc := 50) E dX5_addStudent_50 (i := 1) rfl rfl ?_
      refine g_iast (q := 20) (pc := 51) E dX5_addStudent_51 rfl (by omega) (by omega) ?_ 
      refine g_aload_n (pc := 52) E dX5_addStudent_52 (i := 0) rfl rfl ?_
      refine g_getr (i := 183) (j := 0) (t := 5) (f := 0) (pc := 53) E dX5_addStudent_53 fl_X5_12 rfl (by decide) (by decide) rfl rfl ?_
      refine g_dup (pc := 56) E dX5_addStudent_56 rfl ?_
      refine g_geti (i := 0) (t := 0) (f := 2) (fz := 2) (pc := 57) E dX5_addStudent_57 fl_X5_109 rfl (by decide) (by decide) rfl rfl (v := S 7) (by rw [st_ne (by decide)]; exact hB2) (fun _ _ => ?_)
      refine g_iconst (pc := 60) E dX5_addStudent_60 rfl ?_
      refine g_iadd (pc := 61) E dX5_addStudent_61 ?_
      refine g_puti (i := 0) (t := 0) (f := 2) (fz := 2) (pc := 62) E dX5_addStudent_62 fl_X5_109 rfl (by decide) (by decide) rfl rfl ?_ 
      refine g_aload_n (pc := 65) E dX5_addStudent_65 (i := 0) rfl rfl ?_
      refine g_getr (i := 183) (j := 0) (t := 5) (f := 0) (pc := 66) E dX5_addStudent_66 fl_X5_12 rfl (by decide) (by decide) rfl rfl ?_
      refine g_geti (i := 0) (t := 0) (f := 2) (fz := 2) (pc := 69) E dX5_addStudent_69 fl_X5_109 rfl (by decide) (by decide) rfl rfl (v := S 7 + 1) (by rw [st_self]) (fun _ _ => ?_)
      refine g_iconst (pc := 72) E dX5_addStudent_72 rfl ?_
      refine g_isub (pc := 73) E dX5_addStudent_73 ?_
      refine g_iret (pc := 74) E hr dX5_addStudent_74 ?_
      exact ⟨by rw [e]; omega, by rw [if_pos hge]; exact hmo.bd h1.1 (fun i hi => by rw [st_ne (by omega), st_ne (by omega)]) (BD_as hB hI hge)⟩
    · refine g_bipush (pc := 22) E dX5_addStudent_22 rfl ?_
      refine g_iret (pc := 24) E hr dX5_addStudent_24 ?_
      have e : asR S w = -3 := by rw [asR, if_neg (by omega), if_pos (by omega)]
      exact ⟨e, by rw [e, if_neg (by decide)]⟩
  · replace qh4 := bi_0.mp qh4
    refine g_bipush (pc := 7) E dX5_addStudent_7 rfl ?_
    refine g_iret (pc := 9) E hr dX5_addStudent_9 ?_
    have e : asR S w = -2 := by rw [asR, if_pos (by omega)]
    exact ⟨e, by rw [e, if_neg (by decide)]⟩

def loV (r : Int) : Int := if r = 0 then 0 else if r = 1 then -30 else if r = 2 then 50 else 0
def hiV (r : Int) : Int := if r = 0 then 0 else if r = 1 then 30 else if r = 2 then 150 else 100
theorem lohV_R (r : Int) : -30 ≤ loV r ∧ loV r ≤ 50 ∧ 0 ≤ hiV r ∧ hiV r ≤ 150 := by unfold loV hiV; refine ⟨?_, ?_, ?_, ?_⟩ <;> (repeat' split) <;> omega
theorem rule_lohi {r v : Int} (h : 0 ≤ r ∧ r ≤ 3) : ruleOK r v ↔ loV r ≤ v ∧ v ≤ hiV r := by
  unfold ruleOK loV hiV
  (repeat' split) <;> omega

theorem ct5_scale {cx : Cx} {M : Mem} {S : Int → Int} (hB : BD M S) (hI : SI S) (h1 : 0 ≤ M 165 1 ∧ M 165 1 < 9) (h2 : 0 ≤ M 165 2 ∧ M 165 2 ≤ 8) {p cn r v : Int} (hp : -2147483648 ≤ p ∧ p ≤ 2147483647) (hcn : -2147483648 ≤ cn ∧ cn ≤ 2147483647) (hr : -2147483648 ≤ r ∧ r ≤ 2147483647) (hv : -2147483648 ≤ v ∧ v ≤ 2147483647) : Ct cx yX5_scale cX5_scale 7 (some .int) 6 0 0 [rf cx 183, .int (oi p), .int (oi cn), .int (oi r), .int (oi v)] M (fun rz M' => slR S p cn r v = rz ∧ (if 0 ≤ slR S p cn r v then MO5 M M' S (slT S p cn r v) else M = M')) := by
  refine ct_intro cd_X5_scale (by decide +kernel) (Nat.le_of_ble_eq_true rfl) rfl (fun Pg Lc Ev s m args below meth c E hr => ?_)
  refine g_ent (ls' := [some (rf cx 183), some (.int (oi p)), some (.int (oi cn)), some (.int (oi r)), some (.int (oi v)), none, none]) rfl ?_
  have hV := hI.1.1
  have hV0 := hV.1
  have hB0 := hB.c0
  have hB1 := hB.c1
  have hB2 := hB.c2
  have hB3 := hB.c3
  have hlv := lohV_R r
  refine g_aload_n (pc := 0) E dX5_scale_0 (i := 0) rfl rfl ?_
  refine g_getr (i := 183) (j := 0) (t := 5) (f := 0) (pc := 1) E dX5_scale_1 fl_X5_12 rfl (by decide) (by decide) rfl rfl ?_
  refine g_iload_n (pc := 4) E dX5_scale_4 (i := 1) rfl rfl ?_
  refine g_callV (pc := 5) (As := [_]) E dX5_scale_5 ml_X5_115 (ct_hasPaper hB hV (by omega)) rfl rfl rfl rfl (by decide) (by decide) rfl (Nat.le_of_ble_eq_true rfl) (by decide) (fun x5 M5 hM5 => ?_)
  obtain ⟨rfl, rfl⟩ := hM5
  refine g_if_eq (pc := 8) (tgt := 18) E dX5_scale_8 (by decide) (fun qh8 => ?_) (fun qh8 => ?_) (Int.le_trans (by decide) (bi_R _).1) (Int.le_trans (bi_R _).2 (by decide))
  · replace qh8 := bi_0.mp qh8
    refine g_iconst (pc := 18) E dX5_scale_18 rfl ?_
    refine g_iret (pc := 19) E hr dX5_scale_19 ?_
    have e : slR S p cn r v = -1 := by rw [slR, if_pos (by omega)]
    exact ⟨e, by rw [e, if_neg (by decide)]⟩
  · replace qh8 := bi_n.mp qh8
    refine g_iload_n (pc := 11) E dX5_scale_11 (i := 2) rfl rfl ?_
    refine g_callS (pc := 12) (As := [_]) E dX5_scale_12 ml_X5_106 (ct_isCohort (by omega)) rfl rfl (by decide) (by decide) rfl (Nat.le_of_ble_eq_true rfl) (by decide) (fun x12 M12 hM12 => ?_)
    obtain ⟨rfl, rfl⟩ := hM12
    refine g_if_ne (pc := 15) (tgt := 20) E dX5_scale_15 (by decide) (fun qh15 => ?_) (fun qh15 => ?_) (Int.le_trans (by decide) (bi_R _).1) (Int.le_trans (bi_R _).2 (by decide))
    · replace qh15 := bi_n.mp qh15
      refine g_iload_n (pc := 20) E dX5_scale_20 (i := 3) rfl rfl ?_
      refine g_iconst (pc := 21) E dX5_scale_21 rfl ?_
      refine g_iconst (pc := 22) E dX5_scale_22 rfl ?_
      refine g_callS (pc := 23) (As := [_, _, _]) E dX5_scale_23 ml_X5_80 (ct_isWithin (by omega) (by omega) (by omega)) rfl rfl (by decide) (by decide) rfl (Nat.le_of_ble_eq_true rfl) (by decide) (fun x23 M23 hM23 => ?_)
      obtain ⟨rfl, rfl⟩ := hM23
      refine g_if_eq (pc := 26) (tgt := 47) E dX5_scale_26 (by decide) (fun qh26 => ?_) (fun qh26 => ?_) (Int.le_trans (by decide) (bi_R _).1) (Int.le_trans (bi_R _).2 (by decide))
      · replace qh26 := bi_0.mp qh26
        refine g_bipush (pc := 47) E dX5_scale_47 rfl ?_
        refine g_iret (pc := 49) E hr dX5_scale_49 ?_
        have e : slR S p cn r v = -2 := by rw [slR, if_neg (by omega), if_pos (fun h => qh26 (by unfold ruleOK at h; omega))]
        exact ⟨e, by rw [e, if_neg (by decide)]⟩
      · replace qh26 := bi_n.mp qh26
        refine g_iload (pc := 29) E dX5_scale_29 rfl ?_
        refine g_gets (i := 200) (pc := 31) E dX5_scale_31 (by decide) (by decide) (big_at 624 (by decide +kernel) (by decide +kernel)) ?_
        refine g_iload_n (pc := 34) E dX5_scale_34 (i := 3) rfl rfl ?_
        refine g_sald (pc := 35) E dX5_scale_35 (by decide) (by decide) (by omega) (by show _ < ((4 : Nat) : Int); omega) (v := loV r) (by rfl) ?_
        refine g_gets (i := 201) (pc := 36) E dX5_scale_36 (by decide) (by decide) (big_at 626 (by decide +kernel) (by decide +kernel)) ?_
        refine g_iload_n (pc := 39) E dX5_scale_39 (i := 3) rfl rfl ?_
        refine g_sald (pc := 40) E dX5_scale_40 (by decide) (by decide) (by omega) (by show _ < ((4 : Nat) : Int); omega) (v := hiV r) (by rfl) ?_
        refine g_callS (pc := 41) (As := [_, _, _]) E dX5_scale_41 ml_X5_80 (ct_isWithin (by omega) (by omega) (by omega)) rfl rfl (by decide) (by decide) rfl (Nat.le_of_ble_eq_true rfl) (by decide) (fun x41 M41 hM41 => ?_)
        obtain ⟨rfl, rfl⟩ := hM41
        refine g_if_ne (pc := 44) (tgt := 50) E dX5_scale_44 (by decide) (fun qh44 => ?_) (fun qh44 => ?_) (Int.le_trans (by decide) (bi_R _).1) (Int.le_trans (bi_R _).2 (by decide))
        · replace qh44 := bi_n.mp qh44
          have hVr := hV.2.2.2.2.2 p cn (by omega) (by omega) (by omega) (by omega)
          have hru : ruleOK r v := (rule_lohi qh26).mpr qh44
          have e : slR S p cn r v = S (537 + 2 * (3 * p + cn)) := by rw [slR, if_neg (by omega), if_neg (fun h => h hru)]
          have hge : 0 ≤ slR S p cn r v := by omega
          refine g_iload_n (pc := 50) E dX5_scale_50 (i := 1) rfl rfl ?_
          refine g_iconst (pc := 51) E dX5_scale_51 rfl ?_
          refine g_imul (pc := 52) E dX5_scale_52 ?_
          refine g_iload_n (pc := 53) E dX5_scale_53 (i := 2) rfl rfl ?_
          refine g_iadd (pc := 54) E dX5_scale_54 ?_
          refine g_istore (pc := 55) E dX5_scale_55 (ls' := [_, _, _, _, _, _, _]) (Nat.le_of_ble_eq_true rfl) rfl ?_
          refine g_aload_n (pc := 57) E dX5_scale_57 (i := 0) rfl rfl ?_
          refine g_getr (i := 183) (j := 0) (t := 5) (f := 0) (pc := 58) E dX5_scale_58 fl_X5_12 rfl (by decide) (by decide) rfl rfl ?_
          refine g_getr (i := 0) (j := 11) (t := 0) (f := 14) (pc := 61) E dX5_scale_61 fl_X5_203 rfl (by decide) (by decide) rfl rfl ?_
          refine g_iload (pc := 64) E dX5_scale_64 rfl ?_
          refine g_iald (q := 24) (pc := 66) E dX5_scale_66 rfl (by omega) (by omega) (hB.f11 (by omega) (by omega) (by omega) (by omega)) (fun _ _ => ?_)
          refine g_istore (pc := 67) E dX5_scale_67 (ls' := [_, _, _, _, _, _, _]) (Nat.le_of_ble_eq_true rfl) rfl ?_
          refine g_aload_n (pc := 69) E dX5_scale_69 (i := 0) rfl rfl ?_
          refine g_getr (i := 183) (j := 165) (t := 5) (f := 3) (pc := 70) E dX5_scale_70 fl_X5_26 rfl (by decide) (by decide) rfl rfl ?_
          refine g_aload_n (pc := 73) E dX5_scale_73 (i := 0) rfl rfl ?_
          refine g_getr (i := 183) (j := 0) (t := 5) (f := 0) (pc := 74) E dX5_scale_74 fl_X5_12 rfl (by decide) (by decide) rfl rfl ?_
          refine g_callVv (pc := 77) (As := [_]) E dX5_scale_77 ml_X5_76 (cv_keep h1 h2) rfl rfl rfl rfl (by decide) (by decide) rfl (Nat.le_of_ble_eq_true rfl) (by decide) (fun M77 hM77 => ?_)
          obtain ⟨NK, hNK, rfl⟩ := hM77
          have hmo := MO5_keep hB hV h1 hNK
          have hBM := hB
          have hB := hmo.1
          have hB0 := hB.c0
          have hB1 := hB.c1
          have hB2 := hB.c2
          have hB3 := hB.c3
          refine g_aload_n (pc := 80) E dX5_scale_80 (i := 0) rfl rfl ?_
          refine g_getr (i := 183) (j := 0) (t := 5) (f := 0) (pc := 81) E dX5_scale_81 fl_X5_12 rfl (by decide) (by decide) rfl rfl ?_
          refine g_getr (i := 0) (j := 11) (t := 0) (f := 14) (pc := 84) E dX5_scale_84 fl_X5_203 rfl (by decide) (by decide) rfl rfl ?_
          refine g_iload (pc := 87) E dX5_scale_87 rfl ?_
          refine g_iload_n (pc := 89) E dX5_scale_89 (i := 3) rfl rfl ?_
          refine g_iast (q := 24) (pc := 90) E dX5_scale_90 rfl (by omega) (by omega) ?_ 
          refine g_aload_n (pc := 91) E dX5_scale_91 (i := 0) rfl rfl ?_
          refine g_getr (i := 183) (j := 0) (t := 5) (f := 0) (pc := 92) E dX5_scale_92 fl_X5_12 rfl (by decide) (by decide) rfl rfl ?_
          refine g_getr (i := 0) (j := 12) (t := 0) (f := 15) (pc := 95) E dX5_scale_95 fl_X5_206 rfl (by decide) (by decide) rfl rfl ?_
          refine g_iload (pc := 98) E dX5_scale_98 rfl ?_
          refine g_iload (pc := 100) E dX5_scale_100 rfl ?_
          refine g_iast (q := 24) (pc := 102) E dX5_scale_102 rfl (by omega) (by omega) ?_ 
          refine g_iload (pc := 103) E dX5_scale_103 rfl ?_
          refine g_iret (pc := 105) E hr dX5_scale_105 ?_
          exact ⟨e, by rw [if_pos hge]; exact hmo.bd h1.1 (fun i hi => by rw [st_ne (by omega), st_ne (by omega)]) (BD_sl hB hV (by omega) (by omega) (by omega) (by omega))⟩
        · replace qh44 := bi_0.mp qh44
          refine g_bipush (pc := 47) E dX5_scale_47 rfl ?_
          refine g_iret (pc := 49) E hr dX5_scale_49 ?_
          have e : slR S p cn r v = -2 := by rw [slR, if_neg (by omega), if_pos (fun h => qh44 ((rule_lohi qh26).mp h))]
          exact ⟨e, by rw [e, if_neg (by decide)]⟩
    · replace qh15 := bi_0.mp qh15
      refine g_iconst (pc := 18) E dX5_scale_18 rfl ?_
      refine g_iret (pc := 19) E hr dX5_scale_19 ?_
      have e : slR S p cn r v = -1 := by rw [slR, if_pos (by omega)]
      exact ⟨e, by rw [e, if_neg (by decide)]⟩

theorem ct5_isRefused {cx : Cx} {M : Mem} {S : Int → Int} (hB : BD M S) (hV : SOK S) {k sn p raw en : Int} (hk : k = 109 ∨ k = 114 ∨ k = 101 ∧ raw = 0 ∨ k = 97 ∧ raw = 0 ∨ k = 120 ∧ raw = 0) (hsn : -2147483648 ≤ sn ∧ sn ≤ 2147483647) (hp : -2147483648 ≤ p ∧ p ≤ 2147483647) (hraw : -2147483648 ≤ raw ∧ raw ≤ 2147483647) (hen : -2147483648 ≤ en ∧ en ≤ 2147483647) : Ct cx yX5_isRefused cX5_isRefused 7 (some .boolean) 5 0 0 [rf cx 183, .int (oi k), .int (oi sn), .int (oi p), .int (oi raw), .int (oi en)] M (fun rz M' => bi (¬ reS S k sn p raw = 0) = rz ∧ (if reS S k sn p raw = 0 then M else rfM M (reS S k sn p raw) en (abS S sn p (reS S k sn p raw))) = M') := by
  refine ct_intro cd_X5_isRefused (by decide +kernel) (Nat.le_of_ble_eq_true rfl) rfl (fun Pg Lc Ev s m args below meth c E hr => ?_)
  refine g_ent (ls' := [some (rf cx 183), some (.int (oi k)), some (.int (oi sn)), some (.int (oi p)), some (.int (oi raw)), some (.int (oi en)), none]) rfl ?_
  have hV0 := hV.1
  have hB0 := hB.c0
  have hB1 := hB.c1
  have hB2 := hB.c2
  have hB3 := hB.c3
  have hre := reS_R S k sn p raw
  have h37 := reS_37 (S := S) (k := k) (s := sn) (p := p) (raw := raw) rfl
  refine g_aload_n (pc := 0) E dX5_isRefused_0 (i := 0) rfl rfl ?_
  refine g_getr (i := 183) (j := 0) (t := 5) (f := 0) (pc := 1) E dX5_isRefused_1 fl_X5_12 rfl (by decide) (by decide) rfl rfl ?_
  refine g_iload_n (pc := 4) E dX5_isRefused_4 (i := 1) rfl rfl ?_
  refine g_iload_n (pc := 5) E dX5_isRefused_5 (i := 2) rfl rfl ?_
  refine g_iload_n (pc := 6) E dX5_isRefused_6 (i := 3) rfl rfl ?_
  refine g_iload (pc := 7) E dX5_isRefused_7 rfl ?_
  refine g_callV (pc := 9) (As := [_, _, _, _]) E dX5_isRefused_9 ml_X5_156 (ct_reasonAgainst hB hV (by omega) (by omega) (by omega) (by omega) (by omega)) rfl rfl rfl rfl (by decide) (by decide) rfl (Nat.le_of_ble_eq_true rfl) (by decide) (fun x9 M9 hM9 => ?_)
  obtain ⟨rfl, rfl⟩ := hM9
  refine g_istore (pc := 12) E dX5_isRefused_12 (ls' := [_, _, _, _, _, _, _]) (Nat.le_of_ble_eq_true rfl) rfl ?_
  refine g_iload (pc := 14) E dX5_isRefused_14 rfl ?_
  refine g_if_ne (pc := 16) (tgt := 21) E dX5_isRefused_16 (by decide) (fun qh16 => ?_) (fun qh16 => ?_) 
  · refine g_aload_n (pc := 21) E dX5_isRefused_21 (i := 0) rfl rfl ?_
    refine g_iload (pc := 22) E dX5_isRefused_22 rfl ?_
    refine g_puti (i := 183) (t := 5) (f := 8) (fz := 8) (pc := 24) E dX5_isRefused_24 fl_X5_58 rfl (by decide) (by decide) rfl rfl ?_ 
    refine g_aload_n (pc := 27) E dX5_isRefused_27 (i := 0) rfl rfl ?_
    refine g_iload (pc := 28) E dX5_isRefused_28 rfl ?_
    refine g_puti (i := 183) (t := 5) (f := 9) (fz := 9) (pc := 30) E dX5_isRefused_30 fl_X5_62 rfl (by decide) (by decide) rfl rfl ?_ 
    refine g_aload_n (pc := 33) E dX5_isRefused_33 (i := 0) rfl rfl ?_
    refine g_aload_n (pc := 34) E dX5_isRefused_34 (i := 0) rfl rfl ?_
    refine g_getr (i := 183) (j := 0) (t := 5) (f := 0) (pc := 35) E dX5_isRefused_35 fl_X5_12 rfl (by decide) (by decide) rfl rfl ?_
    refine g_iload (pc := 38) E dX5_isRefused_38 rfl ?_
    refine g_iload_n (pc := 40) E dX5_isRefused_40 (i := 2) rfl rfl ?_
    refine g_iload_n (pc := 41) E dX5_isRefused_41 (i := 3) rfl rfl ?_
    refine g_callV (pc := 42) (As := [_, _, _]) E dX5_isRefused_42 ml_X5_160 (ct_aboutReason (hB.congr (fun i hi => by rw [st_ne (by omega), st_ne (by omega)])) hV (by omega) (by omega) (by omega) h37.1 h37.2) rfl rfl rfl rfl (by decide) (by decide) rfl (Nat.le_of_ble_eq_true rfl) (by decide) (fun x42 M42 hM42 => ?_)
    obtain ⟨rfl, rfl⟩ := hM42
    have habR : -2147483648 ≤ abS S sn p (reS S k sn p raw) ∧ abS S sn p (reS S k sn p raw) ≤ 2147483647 := by
      have hsc := scS_R S sn p
      unfold abS
      split
      · omega
      · split
        · next q => have := hV.2.2.1 p (h37.1 q).1 (h37.1 q).2; omega
        · split <;> omega
    refine g_puti (i := 183) (t := 5) (f := 10) (fz := 10) (pc := 45) E dX5_isRefused_45 fl_X5_65 rfl (by decide) (by decide) rfl rfl ?_ 
    refine g_iconst (pc := 48) E dX5_isRefused_48 rfl ?_
    refine g_zret (pc := 49) E hr dX5_isRefused_49 (by first | exact Or.inl rfl | exact Or.inr rfl | exact bi_in _ | omega) ?_
    exact ⟨bi_t qh16, if_neg qh16⟩
  · refine g_iconst (pc := 19) E dX5_isRefused_19 rfl ?_
    refine g_zret (pc := 20) E hr dX5_isRefused_20 (by first | exact Or.inl rfl | exact Or.inr rfl | exact bi_in _ | omega) ?_
    exact ⟨bi_f (by omega), if_pos (by omega)⟩

theorem ct5_mark {cx : Cx} {M : Mem} {S : Int → Int} (hB : BD M S) (hI : SI S) (h1 : 0 ≤ M 165 1 ∧ M 165 1 < 9) (h2 : 0 ≤ M 165 2 ∧ M 165 2 ≤ 8) {sn p raw : Int} (hsn : -2147483648 ≤ sn ∧ sn ≤ 2147483647) (hp : -2147483648 ≤ p ∧ p ≤ 2147483647) (hraw : -2147483648 ≤ raw ∧ raw ≤ 2147483647) : Ct cx yX5_mark cX5_mark 4 (some .int) 6 0 0 [rf cx 183, .int (oi sn), .int (oi p), .int (oi raw)] M (fun rz M' => (raw < 0 → rz = -2 ∧ M = M') ∧ (0 ≤ raw → (reS S 109 sn p raw = 0 → pcS S p raw = rz ∧ MO5 M M' S (enS S 109 sn p raw)) ∧ (¬ reS S 109 sn p raw = 0 → rz = -4 ∧ rfM M (reS S 109 sn p raw) (-5) (abS S sn p (reS S 109 sn p raw)) = M'))) := by
  refine ct_intro cd_X5_mark (by decide +kernel) (Nat.le_of_ble_eq_true rfl) rfl (fun Pg Lc Ev s m args below meth c E hr => ?_)
  refine g_ent (ls' := [some (rf cx 183), some (.int (oi sn)), some (.int (oi p)), some (.int (oi raw))]) rfl ?_
  have hV := hI.1.1
  have hV0 := hV.1
  have hB0 := hB.c0
  have hB1 := hB.c1
  have hB2 := hB.c2
  have hB3 := hB.c3
  refine g_iload_n (pc := 0) E dX5_mark_0 (i := 3) rfl rfl ?_
  refine g_if_ge (pc := 1) (tgt := 7) E dX5_mark_1 (by decide) (fun qh1 => ?_) (fun qh1 => ?_) 
  · refine g_aload_n (pc := 7) E dX5_mark_7 (i := 0) rfl rfl ?_
    refine g_bipush (pc := 8) E dX5_mark_8 rfl ?_
    refine g_iload_n (pc := 10) E dX5_mark_10 (i := 1) rfl rfl ?_
    refine g_iload_n (pc := 11) E dX5_mark_11 (i := 2) rfl rfl ?_
    refine g_iload_n (pc := 12) E dX5_mark_12 (i := 3) rfl rfl ?_
    refine g_bipush (pc := 13) E dX5_mark_13 rfl ?_
    refine g_callV (pc := 15) (As := [_, _, _, _, _]) E dX5_mark_15 ml_X5_136 (ct5_isRefused (k := 109) hB hV (Or.inl rfl) (by omega) (by omega) (by omega) (by omega)) rfl rfl rfl rfl (by decide) (by decide) rfl (Nat.le_of_ble_eq_true rfl) (by decide) (fun x15 M15 hM15 => ?_)
    obtain ⟨rfl, rfl⟩ := hM15
    refine g_if_eq (pc := 18) (tgt := 24) E dX5_mark_18 (by decide) (fun qh18 => ?_) (fun qh18 => ?_) (Int.le_trans (by decide) (bi_R _).1) (Int.le_trans (bi_R _).2 (by decide))
    · replace qh18 := Classical.not_not.mp (bi_0.mp qh18)
      refine g_mem (if_pos qh18) ?_
      have hrs := reS_in qh18
      refine g_aload_n (pc := 24) E dX5_mark_24 (i := 0) rfl rfl ?_
      refine g_getr (i := 183) (j := 165) (t := 5) (f := 3) (pc := 25) E dX5_mark_25 fl_X5_26 rfl (by decide) (by decide) rfl rfl ?_
      refine g_aload_n (pc := 28) E dX5_mark_28 (i := 0) rfl rfl ?_
      refine g_getr (i := 183) (j := 0) (t := 5) (f := 0) (pc := 29) E dX5_mark_29 fl_X5_12 rfl (by decide) (by decide) rfl rfl ?_
      refine g_callVv (pc := 32) (As := [_]) E dX5_mark_32 ml_X5_76 (cv_keep h1 h2) rfl rfl rfl rfl (by decide) (by decide) rfl (Nat.le_of_ble_eq_true rfl) (by decide) (fun M32 hM32 => ?_)
      obtain ⟨NK, hNK, rfl⟩ := hM32
      have hmo := MO5_keep hB hV h1 hNK
      have hBM := hB
      have hB := hmo.1
      have hB0 := hB.c0
      have hB1 := hB.c1
      have hB2 := hB.c2
      have hB3 := hB.c3
      refine g_aload_n (pc := 35) E dX5_mark_35 (i := 0) rfl rfl ?_
      refine g_getr (i := 183) (j := 0) (t := 5) (f := 0) (pc := 36) E dX5_mark_36 fl_X5_12 rfl (by decide) (by decide) rfl rfl ?_
      refine g_bipush (pc := 39) E dX5_mark_39 rfl ?_
      refine g_iload_n (pc := 41) E dX5_mark_41 (i := 1) rfl rfl ?_
      refine g_iload_n (pc := 42) E dX5_mark_42 (i := 2) rfl rfl ?_
      refine g_iload_n (pc := 43) E dX5_mark_43 (i := 3) rfl rfl ?_
      refine g_callVv (pc := 44) (As := [_, _, _, _]) E dX5_mark_44 ml_X5_140 (cv_enter (k := 109) hB hI (Or.inl rfl) (by omega) qh18) rfl rfl rfl rfl (by decide) (by decide) rfl (Nat.le_of_ble_eq_true rfl) (by decide) (fun M44 hM44 => ?_)
      have hmo2 := hmo.bd h1.1 hM44.2 hM44.1
      have hBE := hM44.1
      have hT := SI_en hI (k := 109) (Or.inl rfl) (by omega) qh18
      have hVp := hV.2.2.1 p (by omega) (by omega)
      have hf2 := en_lo hI.1 qh18 (x := 13 + 3 * p + 2) (Or.inl (by omega)) (by omega)
      have hf6 := en_lo hI.1 qh18 (x := 6) (by omega) (by omega)
      refine g_aload_n (pc := 47) E dX5_mark_47 (i := 0) rfl rfl ?_
      refine g_getr (i := 183) (j := 0) (t := 5) (f := 0) (pc := 48) E dX5_mark_48 fl_X5_12 rfl (by decide) (by decide) rfl rfl ?_
      refine g_iload_n (pc := 51) E dX5_mark_51 (i := 2) rfl rfl ?_
      refine g_iload_n (pc := 52) E dX5_mark_52 (i := 3) rfl rfl ?_
      refine g_callV (pc := 53) (As := [_, _]) E dX5_mark_53 ml_X5_144 (ct_percent0 hBE hT.1.1 (by omega) (by omega) (by omega) (by omega)) rfl rfl rfl rfl (by decide) (by decide) rfl (Nat.le_of_ble_eq_true rfl) (by decide) (fun x53 M53 hM53 => ?_)
      obtain ⟨rfl, rfl⟩ := hM53
      refine g_iret (pc := 56) E hr dX5_mark_56 ?_
      exact ⟨fun h => absurd h (by omega), fun _ => ⟨fun _ => ⟨(pcS_lo hf2).symm, hmo2⟩, fun h => absurd qh18 h⟩⟩
    · replace qh18 := bi_n.mp qh18
      refine g_mem (if_neg qh18) ?_
      refine g_bipush (pc := 21) E dX5_mark_21 rfl ?_
      refine g_iret (pc := 23) E hr dX5_mark_23 ?_
      exact ⟨fun h => absurd h (by omega), fun _ => ⟨fun h => absurd h qh18, fun _ => ⟨rfl, rfl⟩⟩⟩
  · refine g_bipush (pc := 4) E dX5_mark_4 rfl ?_
    refine g_iret (pc := 6) E hr dX5_mark_6 ?_
    exact ⟨fun _ => ⟨rfl, rfl⟩, fun h => absurd h (by omega)⟩

theorem ct5_resit {cx : Cx} {M : Mem} {S : Int → Int} (hB : BD M S) (hI : SI S) (h1 : 0 ≤ M 165 1 ∧ M 165 1 < 9) (h2 : 0 ≤ M 165 2 ∧ M 165 2 ≤ 8) {sn p raw : Int} (hsn : -2147483648 ≤ sn ∧ sn ≤ 2147483647) (hp : -2147483648 ≤ p ∧ p ≤ 2147483647) (hraw : -2147483648 ≤ raw ∧ raw ≤ 2147483647) : Ct cx yX5_resit cX5_resit 4 (some .int) 6 0 0 [rf cx 183, .int (oi sn), .int (oi p), .int (oi raw)] M (fun rz M' => (raw < 0 → rz = -2 ∧ M = M') ∧ (0 ≤ raw → (reS S 114 sn p raw = 0 → agS (enS S 114 sn p raw) sn p = rz ∧ MO5 M M' S (enS S 114 sn p raw)) ∧ (¬ reS S 114 sn p raw = 0 → rz = -4 ∧ rfM M (reS S 114 sn p raw) (-5) (abS S sn p (reS S 114 sn p raw)) = M'))) := by
  refine ct_intro cd_X5_resit (by decide +kernel) (Nat.le_of_ble_eq_true rfl) rfl (fun Pg Lc Ev s m args below meth c E hr => ?_)
  refine g_ent (ls' := [some (rf cx 183), some (.int (oi sn)), some (.int (oi p)), some (.int (oi raw))]) rfl ?_
  have hV := hI.1.1
  have hV0 := hV.1
  have hB0 := hB.c0
  have hB1 := hB.c1
  have hB2 := hB.c2
  have hB3 := hB.c3
  refine g_iload_n (pc := 0) E dX5_resit_0 (i := 3) rfl rfl ?_
  refine g_if_ge (pc := 1) (tgt := 7) E dX5_resit_1 (by decide) (fun qh1 => ?_) (fun qh1 => ?_) 
  · refine g_aload_n (pc := 7) E dX5_resit_7 (i := 0) rfl rfl ?_
    refine g_bipush (pc := 8) E dX5_resit_8 rfl ?_
    refine g_iload_n (pc := 10) E dX5_resit_10 (i := 1) rfl rfl ?_
    refine g_iload_n (pc := 11) E dX5_resit_11 (i := 2) rfl rfl ?_
    refine g_iload_n (pc := 12) E dX5_resit_12 (i := 3) rfl rfl ?_
    refine g_bipush (pc := 13) E dX5_resit_13 rfl ?_
    refine g_callV (pc := 15) (As := [_, _, _, _, _]) E dX5_resit_15 ml_X5_136 (ct5_isRefused (k := 114) hB hV (Or.inr (Or.inl rfl)) (by omega) (by omega) (by omega) (by omega)) rfl rfl rfl rfl (by decide) (by decide) rfl (Nat.le_of_ble_eq_true rfl) (by decide) (fun x15 M15 hM15 => ?_)
    obtain ⟨rfl, rfl⟩ := hM15
    refine g_if_eq (pc := 18) (tgt := 24) E dX5_resit_18 (by decide) (fun qh18 => ?_) (fun qh18 => ?_) (Int.le_trans (by decide) (bi_R _).1) (Int.le_trans (bi_R _).2 (by decide))
    · replace qh18 := Classical.not_not.mp (bi_0.mp qh18)
      refine g_mem (if_pos qh18) ?_
      have hrs := reS_in qh18
      refine g_aload_n (pc := 24) E dX5_resit_24 (i := 0) rfl rfl ?_
      refine g_getr (i := 183) (j := 165) (t := 5) (f := 3) (pc := 25) E dX5_resit_25 fl_X5_26 rfl (by decide) (by decide) rfl rfl ?_
      refine g_aload_n (pc := 28) E dX5_resit_28 (i := 0) rfl rfl ?_
      refine g_getr (i := 183) (j := 0) (t := 5) (f := 0) (pc := 29) E dX5_resit_29 fl_X5_12 rfl (by decide) (by decide) rfl rfl ?_
      refine g_callVv (pc := 32) (As := [_]) E dX5_resit_32 ml_X5_76 (cv_keep h1 h2) rfl rfl rfl rfl (by decide) (by decide) rfl (Nat.le_of_ble_eq_true rfl) (by decide) (fun M32 hM32 => ?_)
      obtain ⟨NK, hNK, rfl⟩ := hM32
      have hmo := MO5_keep hB hV h1 hNK
      have hBM := hB
      have hB := hmo.1
      have hB0 := hB.c0
      have hB1 := hB.c1
      have hB2 := hB.c2
      have hB3 := hB.c3
      refine g_aload_n (pc := 35) E dX5_resit_35 (i := 0) rfl rfl ?_
      refine g_getr (i := 183) (j := 0) (t := 5) (f := 0) (pc := 36) E dX5_resit_36 fl_X5_12 rfl (by decide) (by decide) rfl rfl ?_
      refine g_bipush (pc := 39) E dX5_resit_39 rfl ?_
      refine g_iload_n (pc := 41) E dX5_resit_41 (i := 1) rfl rfl ?_
      refine g_iload_n (pc := 42) E dX5_resit_42 (i := 2) rfl rfl ?_
      refine g_iload_n (pc := 43) E dX5_resit_43 (i := 3) rfl rfl ?_
      refine g_callVv (pc := 44) (As := [_, _, _, _]) E dX5_resit_44 ml_X5_140 (cv_enter (k := 114) hB hI (Or.inr (Or.inl rfl)) (by omega) qh18) rfl rfl rfl rfl (by decide) (by decide) rfl (Nat.le_of_ble_eq_true rfl) (by decide) (fun M44 hM44 => ?_)
      have hmo2 := hmo.bd h1.1 hM44.2 hM44.1
      have hBE := hM44.1
      have hT := SI_en hI (k := 114) (Or.inr (Or.inl rfl)) (by omega) qh18
      have hf7 := en_lo hI.1 qh18 (x := 7) (by omega) (by omega)
      have hf6 := en_lo hI.1 qh18 (x := 6) (by omega) (by omega)
      have hrz : enS S 114 sn p raw (57 + 3 * (8 * sn + p) + 2) = raw := by unfold enS; rw [if_pos rfl, ru_self]
      refine g_aload_n (pc := 47) E dX5_resit_47 (i := 0) rfl rfl ?_
      refine g_getr (i := 183) (j := 0) (t := 5) (f := 0) (pc := 48) E dX5_resit_48 fl_X5_12 rfl (by decide) (by decide) rfl rfl ?_
      refine g_iload_n (pc := 51) E dX5_resit_51 (i := 1) rfl rfl ?_
      refine g_iload_n (pc := 52) E dX5_resit_52 (i := 2) rfl rfl ?_
      refine g_callV (pc := 53) (As := [_, _]) E dX5_resit_53 ml_X5_150 (ct_resitWorth hBE hT.1.1 (by omega) (by omega) (by omega) (by omega) (by rw [hrz]; omega)) rfl rfl rfl rfl (by decide) (by decide) rfl (Nat.le_of_ble_eq_true rfl) (by decide) (fun x53 M53 hM53 => ?_)
      obtain ⟨rfl, rfl⟩ := hM53
      refine g_iret (pc := 56) E hr dX5_resit_56 ?_
      exact ⟨fun h => absurd h (by omega), fun _ => ⟨fun _ => ⟨rfl, hmo2⟩, fun h => absurd qh18 h⟩⟩
    · replace qh18 := bi_n.mp qh18
      refine g_mem (if_neg qh18) ?_
      refine g_bipush (pc := 21) E dX5_resit_21 rfl ?_
      refine g_iret (pc := 23) E hr dX5_resit_23 ?_
      exact ⟨fun h => absurd h (by omega), fun _ => ⟨fun h => absurd h qh18, fun _ => ⟨rfl, rfl⟩⟩⟩
  · refine g_bipush (pc := 4) E dX5_resit_4 rfl ?_
    refine g_iret (pc := 6) E hr dX5_resit_6 ?_
    exact ⟨fun _ => ⟨rfl, rfl⟩, fun h => absurd h (by omega)⟩

theorem exK_k (ex : Int) : exK ex = 101 ∨ exK ex = 97 := by unfold exK; split <;> omega

theorem ct5_absent {cx : Cx} {M : Mem} {S : Int → Int} (hB : BD M S) (hI : SI S) (h1 : 0 ≤ M 165 1 ∧ M 165 1 < 9) (h2 : 0 ≤ M 165 2 ∧ M 165 2 ≤ 8) {sn p ex : Int} (hsn : -2147483648 ≤ sn ∧ sn ≤ 2147483647) (hp : -2147483648 ≤ p ∧ p ≤ 2147483647) (hex : -2147483648 ≤ ex ∧ ex ≤ 2147483647) : Ct cx yX5_absent cX5_absent 5 (some .int) 6 0 0 [rf cx 183, .int (oi sn), .int (oi p), .int (oi ex)] M (fun rz M' => (¬ (0 ≤ ex ∧ ex ≤ 1) → rz = -2 ∧ M = M') ∧ (0 ≤ ex ∧ ex ≤ 1 → (reS S (exK ex) sn p 0 = 0 → abN (enS S (exK ex) sn p 0) sn = rz ∧ MO5 M M' S (enS S (exK ex) sn p 0)) ∧ (¬ reS S (exK ex) sn p 0 = 0 → rz = -4 ∧ rfM M (reS S (exK ex) sn p 0) (-5) (abS S sn p (reS S (exK ex) sn p 0)) = M'))) := by
  refine ct_intro cd_X5_absent (by decide +kernel) (Nat.le_of_ble_eq_true rfl) rfl (fun Pg Lc Ev s m args below meth c E hr => ?_)
  refine g_ent (ls' := [some (rf cx 183), some (.int (oi sn)), some (.int (oi p)), some (.int (oi ex)), none]) rfl ?_
  have hV := hI.1.1
  have hV0 := hV.1
  have hB0 := hB.c0
  have hB1 := hB.c1
  have hB2 := hB.c2
  have hB3 := hB.c3
  have hxk := exK_k ex
  have JP24 : ∀ (w : Int), 0 ≤ ex ∧ ex ≤ 1 → w = exK ex → G cx Pg Lc Ev (rmD 6 0 0) s m args below meth c (MQ below (QI cx (fun rz M' => (¬ (0 ≤ ex ∧ ex ≤ 1) → rz = -2 ∧ M = M') ∧ (0 ≤ ex ∧ ex ≤ 1 → (reS S (exK ex) sn p 0 = 0 → abN (enS S (exK ex) sn p 0) sn = rz ∧ MO5 M M' S (enS S (exK ex) sn p 0)) ∧ (¬ reS S (exK ex) sn p 0 = 0 → rz = -4 ∧ rfM M (reS S (exK ex) sn p 0) (-5) (abS S sn p (reS S (exK ex) sn p 0)) = M')))) args s 0 0 (cA0 cx)) 24 [some (rf cx 183), some (.int (oi sn)), some (.int (oi p)), some (.int (oi ex)), none] [.int (oi w)] (M) 0 0 := by
    intro w hex hw
    subst hw
    refine g_istore (pc := 24) E dX5_absent_24 (ls' := [_, _, _, _, _]) (Nat.le_of_ble_eq_true rfl) rfl ?_
    refine g_aload_n (pc := 26) E dX5_absent_26 (i := 0) rfl rfl ?_
    refine g_iload (pc := 27) E dX5_absent_27 rfl ?_
    refine g_iload_n (pc := 29) E dX5_absent_29 (i := 1) rfl rfl ?_
    refine g_iload_n (pc := 30) E dX5_absent_30 (i := 2) rfl rfl ?_
    refine g_iconst (pc := 31) E dX5_absent_31 rfl ?_
    refine g_bipush (pc := 32) E dX5_absent_32 rfl ?_
    refine g_callV (pc := 34) (As := [_, _, _, _, _]) E dX5_absent_34 ml_X5_136 (ct5_isRefused (k := exK ex) hB hV (by have := exK_k ex; omega) (by omega) (by omega) (by omega) (by omega)) rfl rfl rfl rfl (by decide) (by decide) rfl (Nat.le_of_ble_eq_true rfl) (by decide) (fun x34 M34 hM34 => ?_)
    obtain ⟨rfl, rfl⟩ := hM34
    refine g_if_eq (pc := 37) (tgt := 43) E dX5_absent_37 (by decide) (fun qh37 => ?_) (fun qh37 => ?_) (Int.le_trans (by decide) (bi_R _).1) (Int.le_trans (bi_R _).2 (by decide))
    · replace qh37 := Classical.not_not.mp (bi_0.mp qh37)
      refine g_mem (if_pos qh37) ?_
      have hrs := reS_in qh37
      refine g_aload_n (pc := 43) E dX5_absent_43 (i := 0) rfl rfl ?_
      refine g_getr (i := 183) (j := 165) (t := 5) (f := 3) (pc := 44) E dX5_absent_44 fl_X5_26 rfl (by decide) (by decide) rfl rfl ?_
      refine g_aload_n (pc := 47) E dX5_absent_47 (i := 0) rfl rfl ?_
      refine g_getr (i := 183) (j := 0) (t := 5) (f := 0) (pc := 48) E dX5_absent_48 fl_X5_12 rfl (by decide) (by decide) rfl rfl ?_
      refine g_callVv (pc := 51) (As := [_]) E dX5_absent_51 ml_X5_76 (cv_keep h1 h2) rfl rfl rfl rfl (by decide) (by decide) rfl (Nat.le_of_ble_eq_true rfl) (by decide) (fun M51 hM51 => ?_)
      obtain ⟨NK, hNK, rfl⟩ := hM51
      have hmo := MO5_keep hB hV h1 hNK
      have hBM := hB
      have hB := hmo.1
      have hB0 := hB.c0
      have hB1 := hB.c1
      have hB2 := hB.c2
      have hB3 := hB.c3
      refine g_aload_n (pc := 54) E dX5_absent_54 (i := 0) rfl rfl ?_
      refine g_getr (i := 183) (j := 0) (t := 5) (f := 0) (pc := 55) E dX5_absent_55 fl_X5_12 rfl (by decide) (by decide) rfl rfl ?_
      refine g_iload (pc := 58) E dX5_absent_58 rfl ?_
      refine g_iload_n (pc := 60) E dX5_absent_60 (i := 1) rfl rfl ?_
      refine g_iload_n (pc := 61) E dX5_absent_61 (i := 2) rfl rfl ?_
      refine g_iconst (pc := 62) E dX5_absent_62 rfl ?_
      refine g_callVv (pc := 63) (As := [_, _, _, _]) E dX5_absent_63 ml_X5_140 (cv_enter (k := exK ex) hB hI (by have := exK_k ex; omega) (by omega) qh37) rfl rfl rfl rfl (by decide) (by decide) rfl (Nat.le_of_ble_eq_true rfl) (by decide) (fun M63 hM63 => ?_)
      have hmo2 := hmo.bd h1.1 hM63.2 hM63.1
      have hBE := hM63.1
      have hT := SI_en hI (k := exK ex) (by omega) (by omega) qh37
      have hf7 := en_lo hI.1 qh37 (x := 7) (by omega) (by omega)
      refine g_aload_n (pc := 66) E dX5_absent_66 (i := 0) rfl rfl ?_
      refine g_getr (i := 183) (j := 0) (t := 5) (f := 0) (pc := 67) E dX5_absent_67 fl_X5_12 rfl (by decide) (by decide) rfl rfl ?_
      refine g_iload_n (pc := 70) E dX5_absent_70 (i := 1) rfl rfl ?_
      refine g_callV (pc := 71) (As := [_]) E dX5_absent_71 ml_X5_147 (ct_firstsOf hBE hT.1.1 (by omega) (by omega)) rfl rfl rfl rfl (by decide) (by decide) rfl (Nat.le_of_ble_eq_true rfl) (by decide) (fun x71 M71 hM71 => ?_)
      obtain ⟨rfl, rfl⟩ := hM71
      refine g_iret (pc := 74) E hr dX5_absent_74 ?_
      exact ⟨fun h => absurd hex h, fun _ => ⟨fun _ => ⟨rfl, hmo2⟩, fun h => absurd qh37 h⟩⟩
    · replace qh37 := bi_n.mp qh37
      refine g_mem (if_neg qh37) ?_
      refine g_bipush (pc := 40) E dX5_absent_40 rfl ?_
      refine g_iret (pc := 42) E hr dX5_absent_42 ?_
      exact ⟨fun h => absurd hex h, fun _ => ⟨fun h => absurd h qh37, fun _ => ⟨rfl, rfl⟩⟩⟩
  refine g_iload_n (pc := 0) E dX5_absent_0 (i := 3) rfl rfl ?_
  refine g_iconst (pc := 1) E dX5_absent_1 rfl ?_
  refine g_iconst (pc := 2) E dX5_absent_2 rfl ?_
  refine g_callS (pc := 3) (As := [_, _, _]) E dX5_absent_3 ml_X5_80 (ct_isWithin (by omega) (by omega) (by omega)) rfl rfl (by decide) (by decide) rfl (Nat.le_of_ble_eq_true rfl) (by decide) (fun x3 M3 hM3 => ?_)
  obtain ⟨rfl, rfl⟩ := hM3
  refine g_if_ne (pc := 6) (tgt := 12) E dX5_absent_6 (by decide) (fun qh6 => ?_) (fun qh6 => ?_) (Int.le_trans (by decide) (bi_R _).1) (Int.le_trans (bi_R _).2 (by decide))
  · replace qh6 := bi_n.mp qh6
    refine g_iload_n (pc := 12) E dX5_absent_12 (i := 3) rfl rfl ?_
    refine g_iconst (pc := 13) E dX5_absent_13 rfl ?_
    refine g_icmp_ne (pc := 14) (tgt := 22) E dX5_absent_14 (by decide) (fun qh14 => ?_) (fun qh14 => ?_) 
    · refine g_bipush (pc := 22) E dX5_absent_22 rfl ?_
      exact g_wk2 (JP24 _ qh6 (by unfold exK; rw [if_neg (by omega)])) ⟨rfl, rfl, rfl, rfl, trivial⟩
    · refine g_bipush (pc := 17) E dX5_absent_17 rfl ?_
      refine g_goto (pc := 19) (tgt := 24) E dX5_absent_19 (by decide) ?_
      exact g_wk2 (JP24 _ qh6 (by unfold exK; rw [if_pos (by omega)])) ⟨rfl, rfl, rfl, rfl, trivial⟩
  · replace qh6 := bi_0.mp qh6
    refine g_bipush (pc := 9) E dX5_absent_9 rfl ?_
    refine g_iret (pc := 11) E hr dX5_absent_11 ?_
    exact ⟨fun _ => ⟨rfl, rfl⟩, fun h => absurd h qh6⟩

theorem ct5_remove {cx : Cx} {M : Mem} {S : Int → Int} (hB : BD M S) (hI : SI S) (h1 : 0 ≤ M 165 1 ∧ M 165 1 < 9) (h2 : 0 ≤ M 165 2 ∧ M 165 2 ≤ 8) {sn p : Int} (hsn : -2147483648 ≤ sn ∧ sn ≤ 2147483647) (hp : -2147483648 ≤ p ∧ p ≤ 2147483647) : Ct cx yX5_remove cX5_remove 4 (some .int) 6 0 0 [rf cx 183, .int (oi sn), .int (oi p)] M (fun rz M' => (reS S 120 sn p 0 = 0 → (if 0 ≤ S (57 + 3 * (8 * sn + p) + 2) then 2 else 1) = rz ∧ MO5 M M' S (enS S 120 sn p 0)) ∧ (¬ reS S 120 sn p 0 = 0 → rz = -4 ∧ rfM M (reS S 120 sn p 0) (-5) (abS S sn p (reS S 120 sn p 0)) = M')) := by
  refine ct_intro cd_X5_remove (by decide +kernel) (Nat.le_of_ble_eq_true rfl) rfl (fun Pg Lc Ev s m args below meth c E hr => ?_)
  refine g_ent (ls' := [some (rf cx 183), some (.int (oi sn)), some (.int (oi p)), none]) rfl ?_
  have hV := hI.1.1
  have hV0 := hV.1
  have hB0 := hB.c0
  have hB1 := hB.c1
  have hB2 := hB.c2
  have hB3 := hB.c3
  have JP34 : ∀ (w : Int), reS S 120 sn p 0 = 0 → (if 0 ≤ S (57 + 3 * (8 * sn + p) + 2) then 2 else 1) = w → G cx Pg Lc Ev (rmD 6 0 0) s m args below meth c (MQ below (QI cx (fun rz M' => (reS S 120 sn p 0 = 0 → (if 0 ≤ S (57 + 3 * (8 * sn + p) + 2) then 2 else 1) = rz ∧ MO5 M M' S (enS S 120 sn p 0)) ∧ (¬ reS S 120 sn p 0 = 0 → rz = -4 ∧ rfM M (reS S 120 sn p 0) (-5) (abS S sn p (reS S 120 sn p 0)) = M'))) args s 0 0 (cA0 cx)) 34 [some (rf cx 183), some (.int (oi sn)), some (.int (oi p)), none] [.int (oi w)] (M) 0 0 := by
    intro w qh11 hw
    have hrs := reS_in qh11
    refine g_istore_n (pc := 34) E dX5_remove_34 (i := 3) (ls' := [_, _, _, _]) rfl (Nat.le_of_ble_eq_true rfl) rfl ?_
    refine g_aload_n (pc := 35) E dX5_remove_35 (i := 0) rfl rfl ?_
    refine g_getr (i := 183) (j := 165) (t := 5) (f := 3) (pc := 36) E dX5_remove_36 fl_X5_26 rfl (by decide) (by decide) rfl rfl ?_
    refine g_aload_n (pc := 39) E dX5_remove_39 (i := 0) rfl rfl ?_
    refine g_getr (i := 183) (j := 0) (t := 5) (f := 0) (pc := 40) E dX5_remove_40 fl_X5_12 rfl (by decide) (by decide) rfl rfl ?_
    refine g_callVv (pc := 43) (As := [_]) E dX5_remove_43 ml_X5_76 (cv_keep h1 h2) rfl rfl rfl rfl (by decide) (by decide) rfl (Nat.le_of_ble_eq_true rfl) (by decide) (fun M43 hM43 => ?_)
    obtain ⟨NK, hNK, rfl⟩ := hM43
    have hmo := MO5_keep hB hV h1 hNK
    have hBM := hB
    have hB := hmo.1
    have hB0 := hB.c0
    have hB1 := hB.c1
    have hB2 := hB.c2
    have hB3 := hB.c3
    refine g_aload_n (pc := 46) E dX5_remove_46 (i := 0) rfl rfl ?_
    refine g_getr (i := 183) (j := 0) (t := 5) (f := 0) (pc := 47) E dX5_remove_47 fl_X5_12 rfl (by decide) (by decide) rfl rfl ?_
    refine g_bipush (pc := 50) E dX5_remove_50 rfl ?_
    refine g_iload_n (pc := 52) E dX5_remove_52 (i := 1) rfl rfl ?_
    refine g_iload_n (pc := 53) E dX5_remove_53 (i := 2) rfl rfl ?_
    refine g_iconst (pc := 54) E dX5_remove_54 rfl ?_
    refine g_callVv (pc := 55) (As := [_, _, _, _]) E dX5_remove_55 ml_X5_140 (cv_enter (k := 120) hB hI (Or.inr (Or.inr (Or.inr (Or.inr ⟨rfl, rfl⟩)))) (by omega) qh11) rfl rfl rfl rfl (by decide) (by decide) rfl (Nat.le_of_ble_eq_true rfl) (by decide) (fun M55 hM55 => ?_)
    have hmo2 := hmo.bd h1.1 hM55.2 hM55.1
    have hBE := hM55.1
    refine g_iload_n (pc := 58) E dX5_remove_58 (i := 3) rfl rfl ?_
    refine g_iret (pc := 59) E hr dX5_remove_59 ?_
    exact ⟨fun _ => ⟨hw, hmo2⟩, fun h => absurd qh11 h⟩
  refine g_aload_n (pc := 0) E dX5_remove_0 (i := 0) rfl rfl ?_
  refine g_bipush (pc := 1) E dX5_remove_1 rfl ?_
  refine g_iload_n (pc := 3) E dX5_remove_3 (i := 1) rfl rfl ?_
  refine g_iload_n (pc := 4) E dX5_remove_4 (i := 2) rfl rfl ?_
  refine g_iconst (pc := 5) E dX5_remove_5 rfl ?_
  refine g_bipush (pc := 6) E dX5_remove_6 rfl ?_
  refine g_callV (pc := 8) (As := [_, _, _, _, _]) E dX5_remove_8 ml_X5_136 (ct5_isRefused (k := 120) hB hV (Or.inr (Or.inr (Or.inr (Or.inr ⟨rfl, rfl⟩)))) (by omega) (by omega) (by omega) (by omega)) rfl rfl rfl rfl (by decide) (by decide) rfl (Nat.le_of_ble_eq_true rfl) (by decide) (fun x8 M8 hM8 => ?_)
  obtain ⟨rfl, rfl⟩ := hM8
  refine g_if_eq (pc := 11) (tgt := 17) E dX5_remove_11 (by decide) (fun qh11 => ?_) (fun qh11 => ?_) (Int.le_trans (by decide) (bi_R _).1) (Int.le_trans (bi_R _).2 (by decide))
  · replace qh11 := Classical.not_not.mp (bi_0.mp qh11)
    refine g_mem (if_pos qh11) ?_
    have hrs := reS_in qh11
    refine g_aload_n (pc := 17) E dX5_remove_17 (i := 0) rfl rfl ?_
    refine g_getr (i := 183) (j := 0) (t := 5) (f := 0) (pc := 18) E dX5_remove_18 fl_X5_12 rfl (by decide) (by decide) rfl rfl ?_
    refine g_iload_n (pc := 21) E dX5_remove_21 (i := 1) rfl rfl ?_
    refine g_iload_n (pc := 22) E dX5_remove_22 (i := 2) rfl rfl ?_
    refine g_callV (pc := 23) (As := [_, _]) E dX5_remove_23 ml_X5_153 (ct_hasResit hB hV (by omega) (by omega) (by omega) (by omega)) rfl rfl rfl rfl (by decide) (by decide) rfl (Nat.le_of_ble_eq_true rfl) (by decide) (fun x23 M23 hM23 => ?_)
    obtain ⟨rfl, rfl⟩ := hM23
    refine g_if_eq (pc := 26) (tgt := 33) E dX5_remove_26 (by decide) (fun qh26 => ?_) (fun qh26 => ?_) (Int.le_trans (by decide) (bi_R _).1) (Int.le_trans (bi_R _).2 (by decide))
    · replace qh26 := bi_0.mp qh26
      refine g_iconst (pc := 33) E dX5_remove_33 rfl ?_
      exact g_wk2 (JP34 _ qh11 (if_neg qh26)) ⟨rfl, rfl, rfl, trivial⟩
    · replace qh26 := bi_n.mp qh26
      refine g_iconst (pc := 29) E dX5_remove_29 rfl ?_
      refine g_goto (pc := 30) (tgt := 34) E dX5_remove_30 (by decide) ?_
      exact g_wk2 (JP34 _ qh11 (if_pos qh26)) ⟨rfl, rfl, rfl, trivial⟩
  · replace qh11 := bi_n.mp qh11
    refine g_mem (if_neg qh11) ?_
    refine g_bipush (pc := 14) E dX5_remove_14 rfl ?_
    refine g_iret (pc := 16) E hr dX5_remove_16 ?_
    exact ⟨fun h => absurd h qh11, fun _ => ⟨rfl, rfl⟩⟩

def UN5 (M M' : Mem) : Prop := (∀ K, SOK K → BDr (15 * (((M 165 1 + 8) % 9).toNat + 2)) M K → BD M' K) ∧ M' 165 1 = (M 165 1 + 8) % 9 ∧ M' 165 2 = M 165 2 - 1 ∧ ∀ i, 15 ≤ i → i ≠ 165 → M' i = M i
theorem UN5_cpy {M N : Mem} (h1 : 0 ≤ M 165 1 ∧ M 165 1 < 9) (h : CPY (st (st M 165 1 ((M 165 1 + 8) % 9)) 165 2 (M 165 2 - 1)) (((M 165 1 + 8) % 9).toNat + 2) 0 N) : UN5 M N := by
  have e : ∀ i, 15 ≤ i → N i = st (st M 165 1 ((M 165 1 + 8) % 9)) 165 2 (M 165 2 - 1) i := fun i hi => h.2.2 i (by omega)
  refine ⟨fun K hK hb => ?_, ?_, ?_, fun i a b => by rw [e i a, st_ne b, st_ne b]⟩
  · exact h.bd hK (hb.congr (fun i a b => by rw [st_ne (by omega), st_ne (by omega)]))
  · rw [e 165 (by decide), st_off (by decide), st_self]
  · rw [e 165 (by decide), st_self]
def SV5 (M M' : Mem) : Prop := (∀ K, SOK K → BD M K → BDr 15 M' K) ∧ M' 183 = ru (M 183) 2 1 ∧ ∀ i, i < 15 ∨ 30 ≤ i → i ≠ 183 → M' i = M i
def RS5 (M M' : Mem) : Prop := (∀ K, SOK K → BDr 15 M K → BD M' K) ∧ M' 165 = ru (M 165) 2 0 ∧ ∀ i, 15 ≤ i → i ≠ 165 → M' i = M i

theorem ct5_undo {cx : Cx} {M : Mem} (h1 : 0 ≤ M 165 1 ∧ M 165 1 < 9) (h2 : 0 ≤ M 165 2 ∧ M 165 2 ≤ 8)  : Ct cx yX5_undo cX5_undo 1 (some .int) 6 0 0 [rf cx 183] M (fun rz M' => (M 165 2 = 0 → rz = -5 ∧ M = M') ∧ (¬ M 165 2 = 0 → rz = M 165 2 - 1 ∧ UN5 M M')) := by
  refine ct_intro cd_X5_undo (by decide +kernel) (Nat.le_of_ble_eq_true rfl) rfl (fun Pg Lc Ev s m args below meth c E hr => ?_)
  refine g_ent (ls' := [some (rf cx 183)]) rfl ?_
  refine g_aload_n (pc := 0) E dX5_undo_0 (i := 0) rfl rfl ?_
  refine g_getr (i := 183) (j := 165) (t := 5) (f := 3) (pc := 1) E dX5_undo_1 fl_X5_26 rfl (by decide) (by decide) rfl rfl ?_
  refine g_geti (i := 165) (t := 2) (f := 2) (fz := 2) (pc := 4) E dX5_undo_4 fl_X5_381 rfl (by decide) (by decide) rfl rfl rfl (fun _ _ => ?_)
  refine g_if_ne (pc := 7) (tgt := 13) E dX5_undo_7 (by decide) (fun qh7 => ?_) (fun qh7 => ?_) 
  · refine g_aload_n (pc := 13) E dX5_undo_13 (i := 0) rfl rfl ?_
    refine g_getr (i := 183) (j := 165) (t := 5) (f := 3) (pc := 14) E dX5_undo_14 fl_X5_26 rfl (by decide) (by decide) rfl rfl ?_
    refine g_aload_n (pc := 17) E dX5_undo_17 (i := 0) rfl rfl ?_
    refine g_getr (i := 183) (j := 0) (t := 5) (f := 0) (pc := 18) E dX5_undo_18 fl_X5_12 rfl (by decide) (by decide) rfl rfl ?_
    refine g_callVv (pc := 21) (As := [_]) E dX5_undo_21 ml_X5_382 (cv_stepBack h1 h2 (by omega)) rfl rfl rfl rfl (by decide) (by decide) rfl (Nat.le_of_ble_eq_true rfl) (by decide) (fun M21 hM21 => ?_)
    have hu := UN5_cpy h1 hM21
    refine g_aload_n (pc := 24) E dX5_undo_24 (i := 0) rfl rfl ?_
    refine g_getr (i := 183) (j := 165) (t := 5) (f := 3) (pc := 25) E dX5_undo_25 fl_X5_26 rfl (by decide) (by decide) rfl rfl ?_
    refine g_geti (i := 165) (t := 2) (f := 2) (fz := 2) (pc := 28) E dX5_undo_28 fl_X5_381 rfl (by decide) (by decide) rfl rfl hu.2.2.1 (fun _ _ => ?_)
    refine g_iret (pc := 31) E hr dX5_undo_31 ?_
    exact ⟨fun h => absurd h qh7, fun _ => ⟨rfl, hu⟩⟩
  · refine g_bipush (pc := 10) E dX5_undo_10 rfl ?_
    refine g_iret (pc := 12) E hr dX5_undo_12 ?_
    exact ⟨fun _ => ⟨rfl, rfl⟩, fun h => absurd (by assumption) h⟩

theorem ct5_save {cx : Cx} {M : Mem} {S : Int → Int} (hB : BD M S) (hV : SOK S)  : Ct cx yX5_save cX5_save 1 (some .int) 4 0 0 [rf cx 183] M (fun rz M' => S 7 = rz ∧ SV5 M M') := by
  refine ct_intro cd_X5_save (by decide +kernel) (Nat.le_of_ble_eq_true rfl) rfl (fun Pg Lc Ev s m args below meth c E hr => ?_)
  refine g_ent (ls' := [some (rf cx 183)]) rfl ?_
  have hV0 := hV.1
  have hB0 := hB.c0
  have hB1 := hB.c1
  have hB2 := hB.c2
  have hB3 := hB.c3
  refine g_aload_n (pc := 0) E dX5_save_0 (i := 0) rfl rfl ?_
  refine g_getr (i := 183) (j := 15) (t := 5) (f := 1) (pc := 1) E dX5_save_1 fl_X5_16 rfl (by decide) (by decide) rfl rfl ?_
  refine g_aload_n (pc := 4) E dX5_save_4 (i := 0) rfl rfl ?_
  refine g_getr (i := 183) (j := 0) (t := 5) (f := 0) (pc := 5) E dX5_save_5 fl_X5_12 rfl (by decide) (by decide) rfl rfl ?_
  refine g_callVv (pc := 8) (As := [_]) E dX5_save_8 ml_X5_385 (cv_copyFrom (jb := 0) (kb := 1) (by decide) (by decide) (by decide)) rfl rfl rfl rfl (by decide) (by decide) rfl (Nat.le_of_ble_eq_true rfl) (by decide) (fun M8 hM8 => ?_)
  refine g_aload_n (pc := 11) E dX5_save_11 (i := 0) rfl rfl ?_
  refine g_iconst (pc := 12) E dX5_save_12 rfl ?_
  refine g_putz (i := 183) (t := 5) (f := 2) (fz := 2) (pc := 13) E dX5_save_13 fl_X5_19 rfl (by decide) (by decide) rfl rfl (Or.inr rfl) ?_
  refine g_aload_n (pc := 16) E dX5_save_16 (i := 0) rfl rfl ?_
  refine g_getr (i := 183) (j := 0) (t := 5) (f := 0) (pc := 17) E dX5_save_17 fl_X5_12 rfl (by decide) (by decide) rfl rfl ?_
  refine g_geti (i := 0) (t := 0) (f := 2) (fz := 2) (pc := 20) E dX5_save_20 fl_X5_109 rfl (by decide) (by decide) rfl rfl (v := S 7) (by rw [st_ne (by decide), hM8.2.2 0 (by omega)]; exact hB2) (fun _ _ => ?_)
  refine g_iret (pc := 23) E hr dX5_save_23 ?_
  exact ⟨rfl, fun K hK hb => (hM8.bd hK hb).congr (fun i a b => by rw [st_ne (by omega)]), by rw [st_row, hM8.2.2 183 (by omega)]; rfl, fun i a b => by rw [st_ne b]; exact hM8.2.2 i (by omega)⟩

theorem ct5_restore {cx : Cx} {M : Mem}  : Ct cx yX5_restore cX5_restore 1 (some .int) 4 0 0 [rf cx 183] M (fun rz M' => (M 183 2 = 0 → rz = -5 ∧ M = M') ∧ (¬ M 183 2 = 0 → rz = M 15 2 ∧ RS5 M M')) := by
  refine ct_intro cd_X5_restore (by decide +kernel) (Nat.le_of_ble_eq_true rfl) rfl (fun Pg Lc Ev s m args below meth c E hr => ?_)
  refine g_ent (ls' := [some (rf cx 183)]) rfl ?_
  refine g_aload_n (pc := 0) E dX5_restore_0 (i := 0) rfl rfl ?_
  refine g_geti (i := 183) (t := 5) (f := 2) (fz := 2) (pc := 1) E dX5_restore_1 fl_X5_19 rfl (by decide) (by decide) rfl rfl rfl (fun _ _ => ?_)
  refine g_if_ne (pc := 4) (tgt := 10) E dX5_restore_4 (by decide) (fun qh4 => ?_) (fun qh4 => ?_) 
  · refine g_aload_n (pc := 10) E dX5_restore_10 (i := 0) rfl rfl ?_
    refine g_getr (i := 183) (j := 0) (t := 5) (f := 0) (pc := 11) E dX5_restore_11 fl_X5_12 rfl (by decide) (by decide) rfl rfl ?_
    refine g_aload_n (pc := 14) E dX5_restore_14 (i := 0) rfl rfl ?_
    refine g_getr (i := 183) (j := 15) (t := 5) (f := 1) (pc := 15) E dX5_restore_15 fl_X5_16 rfl (by decide) (by decide) rfl rfl ?_
    refine g_callVv (pc := 18) (As := [_]) E dX5_restore_18 ml_X5_385 (cv_copyFrom (jb := 1) (kb := 0) (by decide) (by decide) (by decide)) rfl rfl rfl rfl (by decide) (by decide) rfl (Nat.le_of_ble_eq_true rfl) (by decide) (fun M18 hM18 => ?_)
    refine g_aload_n (pc := 21) E dX5_restore_21 (i := 0) rfl rfl ?_
    refine g_getr (i := 183) (j := 165) (t := 5) (f := 3) (pc := 22) E dX5_restore_22 fl_X5_26 rfl (by decide) (by decide) rfl rfl ?_
    refine g_iconst (pc := 25) E dX5_restore_25 rfl ?_
    refine g_puti (i := 165) (t := 2) (f := 2) (fz := 2) (pc := 26) E dX5_restore_26 fl_X5_381 rfl (by decide) (by decide) rfl rfl ?_ 
    refine g_aload_n (pc := 29) E dX5_restore_29 (i := 0) rfl rfl ?_
    refine g_getr (i := 183) (j := 0) (t := 5) (f := 0) (pc := 30) E dX5_restore_30 fl_X5_12 rfl (by decide) (by decide) rfl rfl ?_
    refine g_geti (i := 0) (t := 0) (f := 2) (fz := 2) (pc := 33) E dX5_restore_33 fl_X5_109 rfl (by decide) (by decide) rfl rfl (v := M 15 2) (by rw [st_ne (by decide)]; exact hM18.1 2 (by decide) (by decide)) (fun _ _ => ?_)
    refine g_iret (pc := 36) E hr dX5_restore_36 ?_
    exact ⟨fun h => absurd h qh4, fun _ => ⟨rfl, fun K hK hb => (hM18.bd hK hb).congr (fun i a b => by rw [st_ne (by omega)]), by rw [st_row, hM18.2.2 165 (by omega)]; rfl, fun i a b => by rw [st_ne b]; exact hM18.2.2 i (by omega)⟩⟩
  · refine g_bipush (pc := 7) E dX5_restore_7 rfl ?_
    refine g_iret (pc := 9) E hr dX5_restore_9 ?_
    exact ⟨fun _ => ⟨rfl, rfl⟩, fun h => absurd (by assumption) h⟩

theorem ct5_refusal {cx : Cx} {M : Mem} {w : Int} (hw : -2147483648 ≤ w ∧ w ≤ 2147483647) : Ct cx yX5_refusal cX5_refusal 2 (some .int) 2 0 0 [rf cx 183, .int (oi w)] M (fun rz M' => rfS (M 183 8) (M 183 9) (M 183 10) w = rz ∧ M = M') := by
  refine ct_intro cd_X5_refusal (by decide +kernel) (Nat.le_of_ble_eq_true rfl) rfl (fun Pg Lc Ev s m args below meth c E hr => ?_)
  refine g_ent (ls' := [some (rf cx 183), some (.int (oi w))]) rfl ?_
  refine g_iload_n (pc := 0) E dX5_refusal_0 (i := 1) rfl rfl ?_
  refine g_iconst (pc := 1) E dX5_refusal_1 rfl ?_
  refine g_iconst (pc := 2) E dX5_refusal_2 rfl ?_
  refine g_callS (pc := 3) (As := [_, _, _]) E dX5_refusal_3 ml_X5_80 (ct_isWithin (by omega) (by omega) (by omega)) rfl rfl (by decide) (by decide) rfl (Nat.le_of_ble_eq_true rfl) (by decide) (fun x3 M3 hM3 => ?_)
  obtain ⟨rfl, rfl⟩ := hM3
  refine g_if_ne (pc := 6) (tgt := 12) E dX5_refusal_6 (by decide) (fun qh6 => ?_) (fun qh6 => ?_) (Int.le_trans (by decide) (bi_R _).1) (Int.le_trans (bi_R _).2 (by decide))
  · replace qh6 := bi_n.mp qh6
    refine g_aload_n (pc := 12) E dX5_refusal_12 (i := 0) rfl rfl ?_
    refine g_geti (i := 183) (t := 5) (f := 8) (fz := 8) (pc := 13) E dX5_refusal_13 fl_X5_58 rfl (by decide) (by decide) rfl rfl rfl (fun _ _ => ?_)
    refine g_if_ne (pc := 16) (tgt := 22) E dX5_refusal_16 (by decide) (fun qh16 => ?_) (fun qh16 => ?_) 
    · refine g_iload_n (pc := 22) E dX5_refusal_22 (i := 1) rfl rfl ?_
      refine g_if_ne (pc := 23) (tgt := 31) E dX5_refusal_23 (by decide) (fun qh23 => ?_) (fun qh23 => ?_) 
      · refine g_iload_n (pc := 31) E dX5_refusal_31 (i := 1) rfl rfl ?_
        refine g_iconst (pc := 32) E dX5_refusal_32 rfl ?_
        refine g_icmp_ne (pc := 33) (tgt := 43) E dX5_refusal_33 (by decide) (fun qh33 => ?_) (fun qh33 => ?_) 
        · refine g_aload_n (pc := 43) E dX5_refusal_43 (i := 0) rfl rfl ?_
          refine g_geti (i := 183) (t := 5) (f := 10) (fz := 10) (pc := 44) E dX5_refusal_44 fl_X5_65 rfl (by decide) (by decide) rfl rfl rfl (fun _ _ => ?_)
          refine g_iret (pc := 47) E hr dX5_refusal_47 ?_
          exact ⟨by rw [rfS, if_neg (by omega), if_neg (by omega), if_neg (by omega), if_neg (by omega)], rfl⟩
        · refine g_aload_n (pc := 36) E dX5_refusal_36 (i := 0) rfl rfl ?_
          refine g_geti (i := 183) (t := 5) (f := 9) (fz := 9) (pc := 37) E dX5_refusal_37 fl_X5_62 rfl (by decide) (by decide) rfl rfl rfl (fun _ _ => ?_)
          refine g_goto (pc := 40) (tgt := 47) E dX5_refusal_40 (by decide) ?_
          refine g_iret (pc := 47) E hr dX5_refusal_47 ?_
          exact ⟨by rw [rfS, if_neg (by omega), if_neg (by omega), if_neg (by omega), if_pos (by omega)], rfl⟩
      · refine g_aload_n (pc := 26) E dX5_refusal_26 (i := 0) rfl rfl ?_
        refine g_geti (i := 183) (t := 5) (f := 8) (fz := 8) (pc := 27) E dX5_refusal_27 fl_X5_58 rfl (by decide) (by decide) rfl rfl rfl (fun _ _ => ?_)
        refine g_iret (pc := 30) E hr dX5_refusal_30 ?_
        exact ⟨by rw [rfS, if_neg (by omega), if_neg (by omega), if_pos (by omega)], rfl⟩
    · refine g_bipush (pc := 19) E dX5_refusal_19 rfl ?_
      refine g_iret (pc := 21) E hr dX5_refusal_21 ?_
      exact ⟨by rw [rfS, if_neg (by omega), if_pos (by omega)], rfl⟩
  · replace qh6 := bi_0.mp qh6
    refine g_bipush (pc := 9) E dX5_refusal_9 rfl ?_
    refine g_iret (pc := 11) E hr dX5_refusal_11 ?_
    exact ⟨if_pos (by omega), rfl⟩

theorem ct5_allPassedCredits {cx : Cx} {M : Mem} {S : Int → Int} (hB : BD M S) (hV : SOK S)  : Ct cx yX5_allPassedCredits cX5_allPassedCredits 3 (some .int) 6 0 0 [rf cx 183] M (fun rz M' => sz (fun s => pcrS S (lkM S s (-1) 0)) (S 7) = rz ∧ SC5 M M') := by
  refine ct_intro cd_X5_allPassedCredits (by decide +kernel) (Nat.le_of_ble_eq_true rfl) rfl (fun Pg Lc Ev s m args below meth c E hr => ?_)
  refine g_ent (ls' := [some (rf cx 183), none, none]) rfl ?_
  have hV0 := hV.1
  have hB0 := hB.c0
  have hB1 := hB.c1
  have hB2 := hB.c2
  have hB3 := hB.c3
  refine g_iconst (pc := 0) E dX5_allPassedCredits_0 rfl ?_
  refine g_istore_n (pc := 1) E dX5_allPassedCredits_1 (i := 1) (ls' := [_, _, _]) rfl (Nat.le_of_ble_eq_true rfl) rfl ?_
  refine g_iconst (pc := 2) E dX5_allPassedCredits_2 rfl ?_
  refine g_istore_n (pc := 3) E dX5_allPassedCredits_3 (i := 2) (ls' := [_, _, _]) rfl (Nat.le_of_ble_eq_true rfl) rfl ?_
  have LP4 : ∀ (n : Nat) (N : Mem) (x a : Int), S 7 - x < (n : Int) → 0 ≤ x → x ≤ S 7 → SC5 M N → a = sz (fun s => pcrS S (lkM S s (-1) 0)) x → G cx Pg Lc Ev (rmD 6 0 0) s m args below meth c (MQ below (QI cx (fun rz M' => sz (fun s => pcrS S (lkM S s (-1) 0)) (S 7) = rz ∧ SC5 M M')) args s 0 0 (cA0 cx)) 4 [some (rf cx 183), some (.int (oi a)), some (.int (oi x))] [] (N) 0 0 := by
    intro n
    induction n with
    | zero => intro N x a hn hx0 hx1 hN ha; exact absurd hn (by omega)
    | succ n ih4 =>
      intro N x a hn hx0 hx1 hN ha
      have hB := hN.b hB
      refine g_iload_n (pc := 4) E dX5_allPassedCredits_4 (i := 2) rfl rfl ?_
      refine g_aload_n (pc := 5) E dX5_allPassedCredits_5 (i := 0) rfl rfl ?_
      refine g_getr (i := 183) (j := 0) (t := 5) (f := 0) (pc := 6) E dX5_allPassedCredits_6 fl_X5_12 rfl (by decide) (by decide) rfl rfl ?_
      refine g_geti (i := 0) (t := 0) (f := 2) (fz := 2) (pc := 9) E dX5_allPassedCredits_9 fl_X5_109 rfl (by decide) (by decide) rfl rfl hB.c2 (fun _ _ => ?_)
      refine g_icmp_ge (pc := 12) (tgt := 43) E dX5_allPassedCredits_12 (by decide) (fun qh12 => ?_) (fun qh12 => ?_) 
      · refine g_iload_n (pc := 43) E dX5_allPassedCredits_43 (i := 1) rfl rfl ?_
        refine g_iret (pc := 44) E hr dX5_allPassedCredits_44 ?_
        exact ⟨by rw [ha, show x = S 7 by omega], hN⟩
      · refine g_aload_n (pc := 15) E dX5_allPassedCredits_15 (i := 0) rfl rfl ?_
        refine g_getr (i := 183) (j := 167) (t := 5) (f := 4) (pc := 16) E dX5_allPassedCredits_16 fl_X5_33 rfl (by decide) (by decide) rfl rfl ?_
        refine g_aload_n (pc := 19) E dX5_allPassedCredits_19 (i := 0) rfl rfl ?_
        refine g_getr (i := 183) (j := 0) (t := 5) (f := 0) (pc := 20) E dX5_allPassedCredits_20 fl_X5_12 rfl (by decide) (by decide) rfl rfl ?_
        refine g_iload_n (pc := 23) E dX5_allPassedCredits_23 (i := 2) rfl rfl ?_
        refine g_callVv (pc := 24) (As := [_, _]) E dX5_allPassedCredits_24 ml_X5_129 (cv_assess hB hV (by omega) (by omega)) rfl rfl rfl rfl (by decide) (by decide) rfl (Nat.le_of_ble_eq_true rfl) (by decide) (fun M24 hM24 => ?_)
        have hB24 := hM24.b hB
        refine g_iload_n (pc := 27) E dX5_allPassedCredits_27 (i := 1) rfl rfl ?_
        refine g_aload_n (pc := 28) E dX5_allPassedCredits_28 (i := 0) rfl rfl ?_
        refine g_getr (i := 183) (j := 167) (t := 5) (f := 4) (pc := 29) E dX5_allPassedCredits_29 fl_X5_33 rfl (by decide) (by decide) rfl rfl ?_
        refine g_geti (i := 167) (t := 4) (f := 6) (fz := 6) (pc := 32) E dX5_allPassedCredits_32 fl_X5_260 rfl (by decide) (by decide) rfl rfl hM24.f6 (fun _ _ => ?_)
        refine g_iadd (pc := 35) E dX5_allPassedCredits_35 ?_
        refine g_istore_n (pc := 36) E dX5_allPassedCredits_36 (i := 1) (ls' := [_, _, _]) rfl (Nat.le_of_ble_eq_true rfl) rfl ?_
        refine g_iinc (pc := 37) E dX5_allPassedCredits_37 (ls' := [_, _, _]) rfl rfl rfl ?_
        refine g_goto (pc := 40) (tgt := 4) E dX5_allPassedCredits_40 (by decide) ?_
        exact g_wk2 (ih4 M24 (x + 1) (a + pcrS S (lkM S x (-1) 0)) (by omega) (by omega) (by omega) (hN.tr hM24.sc) (by rw [sz_s hx0, ha])) ⟨rfl, rfl, rfl, trivial⟩
  exact g_wk2 (LP4 (S 7 + 1).toNat M 0 0 (by omega) (by omega) (by omega) (SC5.rf M) rfl) ⟨rfl, rfl, rfl, trivial⟩

theorem RK.k {S : Int → Int} {N O : Mem} (h : RK S N) (e : ∀ i, 172 ≤ i → i < 176 → O i = N i) : RK S O := by
  unfold RK
  rw [e 172 (by decide) (by decide), e 173 (by decide) (by decide), e 174 (by decide) (by decide), e 175 (by decide) (by decide)]
  exact h

theorem ct5_changedIf {cx : Cx} {M : Mem} {S : Int → Int} (hB : BD M S) (hV : SOK S) {w v : Int} (hw : -2147483648 ≤ w ∧ w ≤ 2147483647) (hv : -2147483648 ≤ v ∧ v ≤ 2147483647) : Ct cx yX5_changedIf cX5_changedIf 6 (some .int) 7 0 0 [rf cx 183, .int (oi w), .int (oi v)] M (fun rz M' => chS S w v = rz ∧ SC5 M M') := by
  refine ct_intro cd_X5_changedIf (by decide +kernel) (Nat.le_of_ble_eq_true rfl) rfl (fun Pg Lc Ev s m args below meth c E hr => ?_)
  refine g_ent (ls' := [some (rf cx 183), some (.int (oi w)), some (.int (oi v)), none, none, none]) rfl ?_
  have hB1w : 0 ≤ w → w < 5 → M 1 w = S w := hB.f1 w
  have hV0 := hV.1
  have hB0 := hB.c0
  have hB1 := hB.c1
  have hB2 := hB.c2
  have hB3 := hB.c3
  refine g_iload_n (pc := 0) E dX5_changedIf_0 (i := 1) rfl rfl ?_
  refine g_iload_n (pc := 1) E dX5_changedIf_1 (i := 2) rfl rfl ?_
  refine g_callS (pc := 2) (As := [_, _]) E dX5_changedIf_2 ml_X5_68 (ct_isSetting5 (by omega) (by omega)) rfl rfl (by decide) (by decide) rfl (Nat.le_of_ble_eq_true rfl) (by decide) (fun x2 M2 hM2 => ?_)
  obtain ⟨rfl, rfl⟩ := hM2
  refine g_if_ne (pc := 5) (tgt := 11) E dX5_changedIf_5 (by decide) (fun qh5 => ?_) (fun qh5 => ?_) (Int.le_trans (by decide) (bi_R _).1) (Int.le_trans (bi_R _).2 (by decide))
  · replace qh5 := bi_n.mp qh5
    have hwR : 0 ≤ w ∧ w ≤ 4 := by unfold setOK at qh5; omega
    have hVT := SOK_set hV qh5
    have h7T : ru S w v 7 = S 7 := ru_off (by omega)
    refine g_aload_n (pc := 11) E dX5_changedIf_11 (i := 0) rfl rfl ?_
    refine g_getr (i := 183) (j := 172) (t := 5) (f := 5) (pc := 12) E dX5_changedIf_12 fl_X5_40 rfl (by decide) (by decide) rfl rfl ?_
    refine g_aload_n (pc := 15) E dX5_changedIf_15 (i := 0) rfl rfl ?_
    refine g_getr (i := 183) (j := 0) (t := 5) (f := 0) (pc := 16) E dX5_changedIf_16 fl_X5_12 rfl (by decide) (by decide) rfl rfl ?_
    refine g_aload_n (pc := 19) E dX5_changedIf_19 (i := 0) rfl rfl ?_
    refine g_getr (i := 183) (j := 167) (t := 5) (f := 4) (pc := 20) E dX5_changedIf_20 fl_X5_33 rfl (by decide) (by decide) rfl rfl ?_
    refine g_callVv (pc := 23) (As := [_, _]) E dX5_changedIf_23 ml_X5_266 (cv_rassess hB hV) rfl rfl rfl rfl (by decide) (by decide) rfl (Nat.le_of_ble_eq_true rfl) (by decide) (fun M23 hM23 => ?_)
    have hBr := hM23.b hB
    have hBT := BD_set hBr (v := v) hwR
    have hRK := hM23.2
    refine g_aload_n (pc := 26) E dX5_changedIf_26 (i := 0) rfl rfl ?_
    refine g_getr (i := 183) (j := 0) (t := 5) (f := 0) (pc := 27) E dX5_changedIf_27 fl_X5_12 rfl (by decide) (by decide) rfl rfl ?_
    refine g_getr (i := 0) (j := 1) (t := 0) (f := 4) (pc := 30) E dX5_changedIf_30 fl_X5_72 rfl (by decide) (by decide) rfl rfl ?_
    refine g_iload_n (pc := 33) E dX5_changedIf_33 (i := 1) rfl rfl ?_
    refine g_iald (q := 5) (pc := 34) E dX5_changedIf_34 rfl (by omega) (by omega) (hBr.f1 w (by omega) (by omega)) (fun _ _ => ?_)
    refine g_istore_n (pc := 35) E dX5_changedIf_35 (i := 3) (ls' := [_, _, _, _, _, _]) rfl (Nat.le_of_ble_eq_true rfl) rfl ?_
    refine g_aload_n (pc := 36) E dX5_changedIf_36 (i := 0) rfl rfl ?_
    refine g_getr (i := 183) (j := 0) (t := 5) (f := 0) (pc := 37) E dX5_changedIf_37 fl_X5_12 rfl (by decide) (by decide) rfl rfl ?_
    refine g_getr (i := 0) (j := 1) (t := 0) (f := 4) (pc := 40) E dX5_changedIf_40 fl_X5_72 rfl (by decide) (by decide) rfl rfl ?_
    refine g_iload_n (pc := 43) E dX5_changedIf_43 (i := 1) rfl rfl ?_
    refine g_iload_n (pc := 44) E dX5_changedIf_44 (i := 2) rfl rfl ?_
    refine g_iast (q := 5) (pc := 45) E dX5_changedIf_45 rfl (by omega) (by omega) ?_ 
    refine g_iconst (pc := 46) E dX5_changedIf_46 rfl ?_
    refine g_istore (pc := 47) E dX5_changedIf_47 (ls' := [_, _, _, _, _, _]) (Nat.le_of_ble_eq_true rfl) rfl ?_
    refine g_iconst (pc := 49) E dX5_changedIf_49 rfl ?_
    refine g_istore (pc := 50) E dX5_changedIf_50 (ls' := [_, _, _, _, _, _]) (Nat.le_of_ble_eq_true rfl) rfl ?_
    have LP52 : ∀ (n : Nat) (N : Mem) (x a : Int), S 7 - x < (n : Int) → 0 ≤ x → x ≤ S 7 → (∀ i, i < 167 ∨ 171 < i → N i = st M23 1 w v i) → a = sz (chF S w v) x → G cx Pg Lc Ev (rmD 7 0 0) s m args below meth c (MQ below (QI cx (fun rz M' => chS S w v = rz ∧ SC5 M M')) args s 0 0 (cA0 cx)) 52 [some (rf cx 183), some (.int (oi w)), some (.int (oi v)), some (.int (oi (S w))), some (.int (oi a)), some (.int (oi x))] [] (N) 0 0 := by
      intro n
      induction n with
      | zero => intro N x a hn hx0 hx1 hN ha; exact absurd hn (by omega)
      | succ n ih52 =>
        intro N x a hn hx0 hx1 hN ha
        have hB : BD N (ru S w v) := hBT.congr (fun i hi => hN i (by omega))
        have hRK2 : RK S N := hRK.k (fun i a b => by rw [hN i (by omega), st_ne (by omega)])
        have g1 := grS_R S (lkM S x (-1) 0)
        have g2 := grS_R (ru S w v) (lkM (ru S w v) x (-1) 0)
        have hszR := sz_R (f := chF S w v) (a := 0) (b := 1) hx0 (fun j _ _ => by unfold chF; split <;> omega)
        refine g_iload (pc := 52) E dX5_changedIf_52 rfl ?_
        refine g_aload_n (pc := 54) E dX5_changedIf_54 (i := 0) rfl rfl ?_
        refine g_getr (i := 183) (j := 0) (t := 5) (f := 0) (pc := 55) E dX5_changedIf_55 fl_X5_12 rfl (by decide) (by decide) rfl rfl ?_
        refine g_geti (i := 0) (t := 0) (f := 2) (fz := 2) (pc := 58) E dX5_changedIf_58 fl_X5_109 rfl (by decide) (by decide) rfl rfl (hB.c2.trans h7T) (fun _ _ => ?_)
        refine g_icmp_ge (pc := 61) (tgt := 106) E dX5_changedIf_61 (by decide) (fun qh61 => ?_) (fun qh61 => ?_) 
        · refine g_aload_n (pc := 106) E dX5_changedIf_106 (i := 0) rfl rfl ?_
          refine g_getr (i := 183) (j := 0) (t := 5) (f := 0) (pc := 107) E dX5_changedIf_107 fl_X5_12 rfl (by decide) (by decide) rfl rfl ?_
          refine g_getr (i := 0) (j := 1) (t := 0) (f := 4) (pc := 110) E dX5_changedIf_110 fl_X5_72 rfl (by decide) (by decide) rfl rfl ?_
          refine g_iload_n (pc := 113) E dX5_changedIf_113 (i := 1) rfl rfl ?_
          refine g_iload_n (pc := 114) E dX5_changedIf_114 (i := 3) rfl rfl ?_
          refine g_iast (q := 5) (pc := 115) E dX5_changedIf_115 rfl (by omega) (by omega) ?_ 
          refine g_iload (pc := 116) E dX5_changedIf_116 rfl ?_
          refine g_iret (pc := 118) E hr dX5_changedIf_118 ?_
          refine ⟨by rw [chS, if_neg (fun z => z qh5), ha, show x = S 7 by omega], fun i hi => ?_⟩
          by_cases q : i = 1
          · rw [q]
            funext y
            by_cases z : y = w
            · rw [z, st_self]; exact (hB1w (by omega) (by omega)).symm
            · rw [st_off z, hN 1 (by decide), st_off z]; exact congrFun (hM23.1 1 (by decide)) y
          · rw [st_ne q, hN i (by omega), st_ne q]; exact hM23.1 i hi
        · refine g_aload_n (pc := 64) E dX5_changedIf_64 (i := 0) rfl rfl ?_
          refine g_getr (i := 183) (j := 167) (t := 5) (f := 4) (pc := 65) E dX5_changedIf_65 fl_X5_33 rfl (by decide) (by decide) rfl rfl ?_
          refine g_aload_n (pc := 68) E dX5_changedIf_68 (i := 0) rfl rfl ?_
          refine g_getr (i := 183) (j := 0) (t := 5) (f := 0) (pc := 69) E dX5_changedIf_69 fl_X5_12 rfl (by decide) (by decide) rfl rfl ?_
          refine g_iload (pc := 72) E dX5_changedIf_72 rfl ?_
          refine g_callVv (pc := 74) (As := [_, _]) E dX5_changedIf_74 ml_X5_129 (cv_assess hB hVT (by omega) (by omega)) rfl rfl rfl rfl (by decide) (by decide) rfl (Nat.le_of_ble_eq_true rfl) (by decide) (fun M74 hM74 => ?_)
          have hB74 := hM74.b hB
          refine g_aload_n (pc := 77) E dX5_changedIf_77 (i := 0) rfl rfl ?_
          refine g_getr (i := 183) (j := 167) (t := 5) (f := 4) (pc := 78) E dX5_changedIf_78 fl_X5_33 rfl (by decide) (by decide) rfl rfl ?_
          refine g_geti (i := 167) (t := 4) (f := 10) (fz := 10) (pc := 81) E dX5_changedIf_81 fl_X5_257 rfl (by decide) (by decide) rfl rfl hM74.f10 (fun _ _ => ?_)
          refine g_aload_n (pc := 84) E dX5_changedIf_84 (i := 0) rfl rfl ?_
          refine g_getr (i := 183) (j := 172) (t := 5) (f := 5) (pc := 85) E dX5_changedIf_85 fl_X5_40 rfl (by decide) (by decide) rfl rfl ?_
          refine g_getr (i := 172) (j := 173) (t := 3) (f := 0) (pc := 88) E dX5_changedIf_88 fl_X5_311 rfl (by decide) (by decide) rfl rfl ?_
          refine g_iload (pc := 91) E dX5_changedIf_91 rfl ?_
          refine g_iald (pc := 93) E dX5_changedIf_93 rfl (by omega) (by omega) ((congrFun (hM74.1 173 (by decide)) x).trans (hRK2.g x (by omega) (by omega))) (fun _ _ => ?_)
          refine g_icmp_eq (pc := 94) (tgt := 100) E dX5_changedIf_94 (by decide) (fun qh94 => ?_) (fun qh94 => ?_) 
          · refine g_iinc (pc := 100) E dX5_changedIf_100 (ls' := [_, _, _, _, _, _]) rfl rfl rfl ?_
            refine g_goto (pc := 103) (tgt := 52) E dX5_changedIf_103 (by decide) ?_
            exact g_wk2 (ih52 M74 (x + 1) a (by omega) (by omega) (by omega) (fun i hi => (hM74.1 i hi).trans (hN i hi)) (by rw [sz_s hx0, ha, show chF S w v x = 0 from if_pos (by omega)]; omega)) ⟨rfl, rfl, rfl, rfl, rfl, rfl, trivial⟩
          · refine g_iinc (pc := 97) E dX5_changedIf_97 (ls' := [_, _, _, _, _, _]) rfl rfl rfl ?_
            refine g_iinc (pc := 100) E dX5_changedIf_100 (ls' := [_, _, _, _, _, _]) rfl rfl rfl ?_
            refine g_goto (pc := 103) (tgt := 52) E dX5_changedIf_103 (by decide) ?_
            exact g_wk2 (ih52 M74 (x + 1) (a + 1) (by omega) (by omega) (by omega) (fun i hi => (hM74.1 i hi).trans (hN i hi)) (by rw [sz_s hx0, ha, show chF S w v x = 1 from if_neg (by omega)])) ⟨rfl, rfl, rfl, rfl, rfl, rfl, trivial⟩
    exact g_wk2 (LP52 (S 7 + 1).toNat _ 0 0 (by omega) (by omega) (by omega) (fun i _ => rfl) rfl) ⟨rfl, rfl, rfl, rfl, rfl, rfl, trivial⟩
  · replace qh5 := bi_0.mp qh5
    refine g_bipush (pc := 8) E dX5_changedIf_8 rfl ?_
    refine g_iret (pc := 10) E hr dX5_changedIf_10 ?_
    exact ⟨if_pos qh5, SC5.rf M⟩
