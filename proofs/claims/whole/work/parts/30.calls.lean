/-! entries of the reference, as calls -/
abbrev atOK (T : Int → Int) (s p : Int) : Prop := 0 ≤ T (57 + 3 * (8 * s + p)) ∧ T (57 + 3 * (8 * s + p)) ≤ 3 ∧ 0 ≤ T (57 + 3 * (8 * s + p) + 1) ∧ T (57 + 3 * (8 * s + p) + 1) ≤ T (13 + 3 * p + 2) ∧ -1 ≤ T (57 + 3 * (8 * s + p) + 2) ∧ T (57 + 3 * (8 * s + p) + 2) ≤ T (13 + 3 * p + 2) ∧ (T (57 + 3 * (8 * s + p)) = 0 → T (57 + 3 * (8 * s + p) + 2) = -1) ∧ (¬ T (57 + 3 * (8 * s + p)) = 1 → T (57 + 3 * (8 * s + p) + 1) = 0)
theorem SOK_at {S T : Int → Int} (hV : SOK S) (h8 : 0 ≤ T 8 ∧ T 8 ≤ 160) (hl : ∀ x, x ≠ 8 → x < 57 ∨ (537 ≤ x ∧ x < 585) → T x = S x) (ha : ∀ s p, 0 ≤ s → s < S 7 → 0 ≤ p → p < S 6 → atOK T s p) : SOK T := by
  obtain ⟨h1, h2, h3, h4, h5, h6⟩ := hV
  refine ⟨?_, fun m a b => ?_, fun p a b => ?_, fun s a b => ?_, fun s p a b c d => ?_, fun p q a b c d => ?_⟩
  · rw [hl 0 (by decide) (by decide), hl 1 (by decide) (by decide), hl 2 (by decide) (by decide), hl 3 (by decide) (by decide), hl 4 (by decide) (by decide), hl 5 (by decide) (by decide), hl 6 (by decide) (by decide), hl 7 (by decide) (by decide)]
    omega
  · rw [hl 5 (by decide) (by decide)] at b
    rw [hl _ (by omega) (by omega)]
    exact h2 m a b
  · rw [hl 6 (by decide) (by decide)] at b
    rw [hl 5 (by decide) (by decide), hl _ (by omega) (by omega), hl _ (by omega) (by omega), hl _ (by omega) (by omega)]
    exact h3 p a b
  · rw [hl 7 (by decide) (by decide)] at b
    rw [hl _ (by omega) (by omega)]
    exact h4 s a b
  · rw [hl 7 (by decide) (by decide)] at b
    rw [hl 6 (by decide) (by decide)] at d
    exact ha s p a b c d
  · rw [hl 6 (by decide) (by decide)] at b
    rw [hl _ (by omega) (by omega), hl _ (by omega) (by omega)]
    exact h6 p q a b c d
theorem enS_lo {S : Int → Int} {k s p raw x : Int} (hs : 0 ≤ s) (hp : 0 ≤ p) (h8 : 0 ≤ S 8) (hx : x ≠ 8) (hx2 : x < 57) (hw : k = 120 → 0 ≤ remI S (8 * s + p)) : enS S k s p raw x = S x := by
  unfold enS
  split
  · rw [ru_off (by omega)]
  · split
    · next h =>
      have := hw h
      unfold remS
      rw [if_neg (by omega), if_neg (by omega), if_neg (by omega), if_neg hx, if_neg (by omega)]
    · rw [ru_off (by omega), ru_off hx, ru_off (by omega), ru_off (by omega), ru_off (by omega)]
theorem reS_in {S : Int → Int} {k s p raw : Int} (h : reS S k s p raw = 0) : (0 ≤ s ∧ s < S 7) ∧ (0 ≤ p ∧ p < S 6) ∧ raw ≤ S (13 + 3 * p + 2) ∧ (k = 114 ∨ k = 120 → ¬ S (57 + 3 * (8 * s + p)) = 0) ∧ (k = 114 → S (57 + 3 * (8 * s + p) + 2) < 0) ∧ (¬ (k = 114 ∨ k = 120) → S (57 + 3 * (8 * s + p)) = 0) := by
  unfold reS at h
  refine ⟨?_, ?_, ?_, ?_, ?_, ?_⟩ <;> (repeat' split at h) <;> omega
theorem pcS_lo {S T : Int → Int} {p raw : Int} (h : T (13 + 3 * p + 2) = S (13 + 3 * p + 2)) : pcS T p raw = pcS S p raw := by rw [pcS, h, pcS]
/-- the row stays valid -/
theorem SOK_en {S : Int → Int} (hV : SOK S) {k s p raw : Int} (hk : k = 109 ∨ k = 114 ∨ k = 101 ∧ raw = 0 ∨ k = 97 ∧ raw = 0 ∨ k = 120) (hr : 0 ≤ raw) (he : reS S k s p raw = 0) (h8 : S (57 + 3 * (8 * s + p)) = 0 → S 8 < 160) (hx : k = 120 → 0 ≤ remI S (8 * s + p) ∧ remI S (8 * s + p) < S 8) : SOK (enS S k s p raw) := by
  obtain ⟨⟨s0, s1⟩, ⟨p0, p1⟩, e3, e4, e5, e6⟩ := reS_in he
  have hV0 := hV.1
  have hV' := hV
  refine SOK_at hV ?_ ?_ ?_
  · unfold enS
    split
    · rw [ru_off (by omega)]; omega
    · split
      · next h => have := hx h; unfold remS; rw [if_neg (by omega), if_neg (by omega), if_neg (by omega), if_pos rfl]; omega
      · next h1 h2 => have := h8 (e6 (by omega)); rw [ru_off (by omega), ru_self]; omega
  · intro x hx1 hx2
    unfold enS
    split
    · rw [ru_off (by omega)]
    · split
      · next h => have := hx h; unfold remS; rw [if_neg (by omega), if_neg (by omega), if_neg (by omega), if_neg hx1, if_neg (by omega)]
      · rw [ru_off (by omega), ru_off hx1, ru_off (by omega), ru_off (by omega), ru_off (by omega)]
  · intro s' p' a b c d
    have hA := hV.2.2.2.2.1 s' p' a b c d
    have hf := hV.2.2.1 p' c d
    have hf2 : enS S k s p raw (13 + 3 * p' + 2) = S (13 + 3 * p' + 2) := enS_lo s0 p0 (by omega) (by omega) (by omega) (fun h => (hx h).1)
    unfold atOK
    rw [hf2]
    by_cases hsame : 8 * s' + p' = 8 * s + p
    · have hp' : p' = p := by omega
      subst hp'
      rw [hsame] at hA ⊢
      unfold enS
      split
      · next h =>
        rw [ru_self, ru_off (by omega), ru_off (by omega)]
        have := e4 (Or.inl h)
        omega
      · split
        · next h =>
          unfold remS
          rw [if_pos rfl, if_neg (by omega), if_pos rfl, if_neg (by omega), if_neg (by omega), if_pos rfl]
          omega
        · next h1 h2 =>
          have e : ∀ x, x < 537 → x ≠ 8 → ∀ T : Int → Int, ru (ru T 8 (S 8 + 1)) (585 + S 8) (8 * s + p') x = T x := fun x q1 q2 T => by rw [ru_off (by omega), ru_off q2]
          rw [e _ (by omega) (by omega), e _ (by omega) (by omega), e _ (by omega) (by omega)]
          rw [ru_off (by omega), ru_off (by omega), ru_self, ru_off (by omega), ru_self, ru_self]
          (repeat' split) <;> omega
    · unfold enS
      split
      · rw [ru_off (by omega), ru_off (by omega), ru_off (by omega)]; exact hA
      · split
        · next h =>
          have := hx h
          unfold remS
          rw [if_neg (by omega), if_neg (by omega), if_neg (by omega), if_neg (by omega), if_neg (by omega), if_neg (by omega), if_neg (by omega), if_neg (by omega), if_neg (by omega), if_neg (by omega), if_neg (by omega), if_neg (by omega), if_neg (by omega), if_neg (by omega), if_neg (by omega)]
          exact hA
        · have e : ∀ x, x < 537 → x ≠ 8 → ∀ T : Int → Int, ru (ru T 8 (S 8 + 1)) (585 + S 8) (8 * s + p) x = T x := fun x q1 q2 T => by rw [ru_off (by omega), ru_off q2]
          rw [e _ (by omega) (by omega), e _ (by omega) (by omega), e _ (by omega) (by omega)]
          rw [ru_off (by omega), ru_off (by omega), ru_off (by omega), ru_off (by omega), ru_off (by omega), ru_off (by omega), ru_off (by omega), ru_off (by omega), ru_off (by omega)]
          exact hA

/-! the order of the entries -/
theorem pig : ∀ (N n : Nat) (f : Nat → Nat), (∀ i, i < n → f i < N) → (∀ i j, i < j → j < n → ¬ f i = f j) → n ≤ N
  | 0, n, f, h, _ => by
    by_cases hn : n = 0
    · omega
    · have := h 0 (by omega); omega
  | N + 1, n, f, h, hd => by
    by_cases hx : ∃ i, i < n ∧ f i = N
    · obtain ⟨i, hi, e⟩ := hx
      have := pig N (n - 1) (fun j => if j = i then f (n - 1) else f j) (fun j hj => by
        by_cases hji : j = i
        · simp only [if_pos hji]
          have h1 := h (n - 1) (by omega)
          have h2 := hd i (n - 1) (by omega) (by omega)
          omega
        · simp only [if_neg hji]
          have h1 := h j (by omega)
          rcases Nat.lt_or_gt_of_ne hji with q | q
          · have h2 := hd j i q hi; omega
          · have h2 := hd i j q (by omega); omega) (fun j l hjl hl => by
        by_cases hji : j = i
        · have hli : ¬ l = i := by omega
          simp only [if_pos hji, if_neg hli]
          exact fun q => hd l (n - 1) (by omega) (by omega) q.symm
        · by_cases hli : l = i
          · simp only [if_pos hli, if_neg hji]
            exact hd j (n - 1) (by omega) (by omega)
          · simp only [if_neg hli, if_neg hji]
            exact hd j l hjl (by omega))
      omega
    · have := pig N n f (fun i hi => by
        have h1 := h i hi
        by_cases e : f i = N
        · exact absurd ⟨i, hi, e⟩ hx
        · omega) hd
      omega
def SO (S : Int → Int) : Prop := SOK S ∧ (∀ j, 0 ≤ j → j < S 8 → 0 ≤ S (585 + j) ∧ S (585 + j) < 160 ∧ S (585 + j) / 8 < S 7 ∧ S (585 + j) % 8 < S 6 ∧ ¬ S (57 + 3 * S (585 + j)) = 0) ∧ (∀ i j, 0 ≤ i → i < j → j < S 8 → ¬ S (585 + i) = S (585 + j)) ∧ ∀ a, 0 ≤ a → a < 160 → ¬ S (57 + 3 * a) = 0 → ∃ i, 0 ≤ i ∧ i < S 8 ∧ S (585 + i) = a
theorem SO_8 {S : Int → Int} (h : SO S) {a : Int} (h0 : 0 ≤ a) (h1 : a < 160) (hz : S (57 + 3 * a) = 0) : S 8 < 160 := by
  have h8 := h.1.1
  have hne : ∀ j, 0 ≤ j → j < S 8 → ¬ S (585 + j) = a := fun j a1 a2 e => (h.2.1 j a1 a2).2.2.2.2 (by rw [e]; exact hz)
  have := pig 160 ((S 8).toNat + 1) (fun i => if i < (S 8).toNat then (S (585 + i)).toNat else a.toNat) (fun i hi => by
    by_cases hq : i < (S 8).toNat
    · simp only [if_pos hq]
      have := h.2.1 i (by omega) (by omega)
      omega
    · simp only [if_neg hq]; omega) (fun i j hij hj => by
    by_cases hq : j < (S 8).toNat
    · have hp : i < (S 8).toNat := by omega
      simp only [if_pos hq, if_pos hp]
      have e1 := h.2.1 i (by omega) (by omega)
      have e2 := h.2.1 j (by omega) (by omega)
      have e3 := h.2.2.1 i j (by omega) (by omega) (by omega)
      omega
    · have hp : i < (S 8).toNat := by omega
      simp only [if_neg hq, if_pos hp]
      have e1 := h.2.1 i (by omega) (by omega)
      have e2 := hne i (by omega) (by omega)
      omega)
  omega
theorem SO_h8 {S : Int → Int} (h : SO S) {s p : Int} : 0 ≤ s → s < S 7 → 0 ≤ p → p < S 6 → S (57 + 3 * (8 * s + p)) = 0 → S 8 < 160 := fun a b c d e => by
  have := h.1.1
  exact SO_8 h (a := 8 * s + p) (by omega) (by omega) e
theorem SO_ex {S : Int → Int} (h : SO S) {s p : Int} : 0 ≤ s → s < S 7 → 0 ≤ p → p < S 6 → ¬ S (57 + 3 * (8 * s + p)) = 0 → ∃ i, 0 ≤ i ∧ i < S 8 ∧ S (585 + i) = 8 * s + p := fun a b c d e => by
  have := h.1.1
  exact h.2.2.2 (8 * s + p) (by omega) (by omega) e
theorem SO_o {S : Int → Int} (h : SO S) : ∀ j, 0 ≤ j → j < S 8 → 0 ≤ S (585 + j) ∧ S (585 + j) / 8 < S 7 ∧ S (585 + j) % 8 < S 6 := fun j a b => ⟨(h.2.1 j a b).1, (h.2.1 j a b).2.2.1, (h.2.1 j a b).2.2.2.1⟩
theorem SO_lo {S T : Int → Int} (h : SO S) (hT : SOK T) (h8 : T 8 = S 8) (h7 : S 7 ≤ T 7) (h6 : S 6 ≤ T 6) (ha : ∀ a, 0 ≤ a → a < 160 → T (57 + 3 * a) = S (57 + 3 * a)) (ho : ∀ j, 0 ≤ j → j < S 8 → T (585 + j) = S (585 + j)) : SO T := by
  refine ⟨hT, fun j a b => ?_, fun i j a b c => ?_, fun a b c d => ?_⟩
  · rw [h8] at b
    have e := h.2.1 j a b
    rw [ho j a b, ha _ e.1 e.2.1]
    exact ⟨e.1, e.2.1, by omega, by omega, e.2.2.2.2⟩
  · rw [h8] at c
    rw [ho i a (by omega), ho j (by omega) c]
    exact h.2.2.1 i j a b c
  · rw [ha a b c] at d
    obtain ⟨i, i0, i1, e⟩ := h.2.2.2 a b c d
    exact ⟨i, i0, by omega, (ho i i0 i1).trans e⟩
theorem remI_is {S : Int → Int} (h : SO S) {a : Int} (h0 : 0 ≤ a) (h1 : a < 160) (hz : ¬ S (57 + 3 * a) = 0) : 0 ≤ remI S a ∧ remI S a < S 8 ∧ S (585 + remI S a) = a := by
  have h8 := h.1.1
  obtain ⟨i, i0, i1, e⟩ := h.2.2.2 a h0 h1 hz
  rcases fi_is (oiF S a) (n := S 8) (by omega) with ⟨_, q⟩ | ⟨q1, q2, q3, _⟩
  · exact absurd (if_pos e) (q i i0 i1)
  · refine ⟨q1, q2, ?_⟩
    have q3 : oiF S a (remI S a) = 1 := q3
    unfold oiF at q3
    split at q3
    · assumption
    · omega
theorem remS_o {S : Int → Int} {a j : Int} (h0 : 0 ≤ a) (h1 : a < 160) (hj : 0 ≤ j) (hr : 0 ≤ remI S a) (hj1 : j < S 8 - 1) : remS S a (585 + j) = if j < remI S a then S (585 + j) else S (585 + (j + 1)) := by
  unfold remS
  rw [if_neg (by omega), if_neg (by omega), if_neg (by omega), if_neg (by omega)]
  by_cases h : j < remI S a
  · rw [if_pos h, if_neg (by omega)]
  · rw [if_neg h, if_pos (by omega)]
    exact congrArg _ (by omega)
theorem remS_a {S : Int → Int} {a b : Int} (hr : 0 ≤ remI S a) (h0 : 0 ≤ b) (h1 : b < 160) : remS S a (57 + 3 * b) = if b = a then 0 else S (57 + 3 * b) := by
  unfold remS
  by_cases h : b = a
  · rw [if_pos h, if_pos (by omega)]
  · rw [if_neg h, if_neg (by omega), if_neg (by omega), if_neg (by omega), if_neg (by omega), if_neg (by omega)]
theorem remS_lo {S : Int → Int} {a x : Int} (hr : 0 ≤ remI S a) (h0 : 0 ≤ a) (h : x < 57) (h8 : x ≠ 8) : remS S a x = S x := by
  unfold remS
  rw [if_neg (by omega), if_neg (by omega), if_neg (by omega), if_neg h8, if_neg (by omega)]
theorem remS_8 {S : Int → Int} {a : Int} (h0 : 0 ≤ a) : remS S a 8 = S 8 - 1 := by
  unfold remS
  rw [if_neg (by omega), if_neg (by omega), if_neg (by omega), if_pos rfl]
theorem SO_en {S : Int → Int} (h : SO S) {k s p raw : Int} (hk : k = 109 ∨ k = 114 ∨ k = 101 ∧ raw = 0 ∨ k = 97 ∧ raw = 0 ∨ k = 120) (hr : 0 ≤ raw) (he : reS S k s p raw = 0) : SO (enS S k s p raw) := by
  obtain ⟨⟨s0, s1⟩, ⟨p0, p1⟩, e3, e4, e5, e6⟩ := reS_in he
  have hV0 := h.1.1
  have hx : k = 120 → 0 ≤ remI S (8 * s + p) ∧ remI S (8 * s + p) < S 8 ∧ S (585 + remI S (8 * s + p)) = 8 * s + p := fun q => remI_is h (by omega) (by omega) (e4 (Or.inr q))
  have hT := SOK_en h.1 hk hr he (fun e => SO_h8 h s0 s1 p0 p1 e) (fun q => ⟨(hx q).1, (hx q).2.1⟩)
  by_cases k1 : k = 114
  · have e : enS S k s p raw = ru S (57 + 3 * (8 * s + p) + 2) raw := by unfold enS; rw [if_pos k1]
    rw [e] at hT ⊢
    exact SO_lo h hT (ru_off (by omega)) (by rw [ru_off (by omega)]; omega) (by rw [ru_off (by omega)]; omega) (fun a _ _ => ru_off (by omega)) (fun j _ _ => ru_off (by omega))
  by_cases k2 : k = 120
  · have e : enS S k s p raw = remS S (8 * s + p) := by unfold enS; rw [if_neg k1, if_pos k2]
    rw [e] at hT ⊢
    obtain ⟨x0, x1, x2⟩ := hx k2
    have h8 : remS S (8 * s + p) 8 = S 8 - 1 := remS_8 (by omega)
    have h7 : remS S (8 * s + p) 7 = S 7 := remS_lo x0 (by omega) (by omega) (by omega)
    have h6 : remS S (8 * s + p) 6 = S 6 := remS_lo x0 (by omega) (by omega) (by omega)
    have ho : ∀ j, 0 ≤ j → j < S 8 - 1 → remS S (8 * s + p) (585 + j) = S (585 + (if j < remI S (8 * s + p) then j else j + 1)) := fun j a b => by
      rw [remS_o (by omega) (by omega) a x0 b]
      split <;> rfl
    refine ⟨hT, fun j a b => ?_, fun i j a b c => ?_, fun a b c d => ?_⟩
    · rw [h8] at b
      have e1 := h.2.1 (if j < remI S (8 * s + p) then j else j + 1) (by split <;> omega) (by split <;> omega)
      have e2 : ¬ S (585 + (if j < remI S (8 * s + p) then j else j + 1)) = 8 * s + p := by
        split
        · have := h.2.2.1 j (remI S (8 * s + p)) a (by assumption) x1; omega
        · have := h.2.2.1 (remI S (8 * s + p)) (j + 1) x0 (by omega) (by omega); omega
      rw [ho j a b, h7, h6, remS_a x0 e1.1 e1.2.1, if_neg e2]
      exact e1
    · rw [h8] at c
      rw [ho i a (by omega), ho j (by omega) c]
      refine h.2.2.1 _ _ ?_ ?_ ?_ <;> (repeat' split) <;> omega
    · rw [remS_a x0 b c] at d
      by_cases q : a = 8 * s + p
      · rw [if_pos q] at d; exact absurd rfl d
      · rw [if_neg q] at d
        obtain ⟨i, i0, i1, e⟩ := h.2.2.2 a b c d
        by_cases hi : i < remI S (8 * s + p)
        · refine ⟨i, i0, by omega, ?_⟩
          rw [ho i i0 (by omega), if_pos hi]; exact e
        · have : ¬ i = remI S (8 * s + p) := fun z => q (by rw [← e, z, x2])
          refine ⟨i - 1, by omega, by omega, ?_⟩
          rw [ho (i - 1) (by omega) (by omega), if_neg (by omega), show i - 1 + 1 = i by omega]; exact e
  · have e : enS S k s p raw = ru (ru (ru (ru (ru S (57 + 3 * (8 * s + p)) (if k = 109 then 1 else if k = 97 then 2 else 3)) (57 + 3 * (8 * s + p) + 1) raw) (57 + 3 * (8 * s + p) + 2) (-1)) 8 (S 8 + 1)) (585 + S 8) (8 * s + p) := by unfold enS; rw [if_neg k1, if_neg k2]
    have hz : S (57 + 3 * (8 * s + p)) = 0 := e6 (by omega)
    have h160 := SO_h8 h s0 s1 p0 p1 hz
    have h8 : enS S k s p raw 8 = S 8 + 1 := by rw [e, ru_off (by omega), ru_self]
    have h7 : enS S k s p raw 7 = S 7 := by rw [e, ru_off (by omega), ru_off (by omega), ru_off (by omega), ru_off (by omega), ru_off (by omega)]
    have h6 : enS S k s p raw 6 = S 6 := by rw [e, ru_off (by omega), ru_off (by omega), ru_off (by omega), ru_off (by omega), ru_off (by omega)]
    have ho : ∀ j, 0 ≤ j → j < S 8 → enS S k s p raw (585 + j) = S (585 + j) := fun j a b => by rw [e, ru_off (by omega), ru_off (by omega), ru_off (by omega), ru_off (by omega), ru_off (by omega)]
    have ho2 : enS S k s p raw (585 + S 8) = 8 * s + p := by rw [e, ru_self]
    have ha : ∀ a, 0 ≤ a → a < 160 → ¬ a = 8 * s + p → enS S k s p raw (57 + 3 * a) = S (57 + 3 * a) := fun a b c d => by rw [e, ru_off (by omega), ru_off (by omega), ru_off (by omega), ru_off (by omega), ru_off (by omega)]
    have ha2 : ¬ enS S k s p raw (57 + 3 * (8 * s + p)) = 0 := by
      rw [e, ru_off (by omega), ru_off (by omega), ru_off (by omega), ru_off (by omega), ru_self]
      (repeat' split) <;> omega
    have hn : ∀ j, 0 ≤ j → j < S 8 → ¬ S (585 + j) = 8 * s + p := fun j a b q => (h.2.1 j a b).2.2.2.2 (by rw [q]; exact hz)
    refine ⟨hT, fun j a b => ?_, fun i j a b c => ?_, fun a b c d => ?_⟩
    · rw [h8] at b
      rw [h7, h6]
      by_cases hj : j = S 8
      · rw [hj, ho2]
        exact ⟨by omega, by omega, by omega, by omega, ha2⟩
      · have e1 := h.2.1 j a (by omega)
        rw [ho j a (by omega), ha _ e1.1 e1.2.1 (hn j a (by omega))]
        exact e1
    · rw [h8] at c
      by_cases hj : j = S 8
      · rw [hj, ho2, ho i a (by omega)]
        exact hn i a (by omega)
      · rw [ho i a (by omega), ho j (by omega) (by omega)]
        exact h.2.2.1 i j a b (by omega)
    · by_cases q : a = 8 * s + p
      · exact ⟨S 8, by omega, by omega, by rw [ho2, q]⟩
      · rw [ha a b c q] at d
        obtain ⟨i, i0, i1, e1⟩ := h.2.2.2 a b c d
        exact ⟨i, i0, by omega, by rw [ho i i0 i1, e1]⟩
theorem SO_set {S : Int → Int} (h : SO S) {w v : Int} (hw : setOK w v) : SO (ru S w v) := by
  have hR : 0 ≤ w ∧ w ≤ 4 := by unfold setOK at hw; omega
  exact SO_lo h (SOK_set h.1 hw) (ru_off (by omega)) (by rw [ru_off (by omega)]; omega) (by rw [ru_off (by omega)]; omega) (fun a _ _ => ru_off (by omega)) (fun j _ _ => ru_off (by omega))
theorem SO_am {S : Int → Int} (h : SO S) {c : Int} (hc : 0 ≤ amR S c) : SO (amT S c) := by
  have hV0 := h.1.1
  obtain ⟨h1, h2, h3, h4, h5, h6⟩ := h.1
  have hc' : 1 ≤ c ∧ c ≤ 9 ∧ S 5 < 4 := by
    unfold amR at hc
    (repeat' split at hc) <;> omega
  have e5 : amT S c 5 = S 5 + 1 := ru_self _ _ _
  have e : ∀ x, ¬ x = 5 → ¬ x = 9 + S 5 → amT S c x = S x := fun x a b => by rw [amT, ru_off a, ru_off b]
  have e9 : amT S c (9 + S 5) = c := by rw [amT, ru_off (by omega), ru_self]
  refine SO_lo h ⟨?_, fun m a b => ?_, fun p a b => ?_, fun s a b => ?_, fun s p a b x d => ?_, fun p q a b x d => ?_⟩ (e _ (by omega) (by omega)) (by rw [e _ (by omega) (by omega)]; omega) (by rw [e _ (by omega) (by omega)]; omega) (fun a _ _ => e _ (by omega) (by omega)) (fun j _ _ => e _ (by omega) (by omega))
  · rw [e5, e 0 (by omega) (by omega), e 1 (by omega) (by omega), e 2 (by omega) (by omega), e 3 (by omega) (by omega), e 4 (by omega) (by omega), e 6 (by omega) (by omega), e 7 (by omega) (by omega), e 8 (by omega) (by omega)]
    omega
  · rw [e5] at b
    by_cases q : m = S 5
    · rw [q, e9]; omega
    · rw [e _ (by omega) (by omega)]; exact h2 m a (by omega)
  · rw [e 6 (by omega) (by omega)] at b
    rw [e5, e _ (by omega) (by omega), e _ (by omega) (by omega), e _ (by omega) (by omega)]
    have := h3 p a b
    omega
  · rw [e 7 (by omega) (by omega)] at b
    rw [e _ (by omega) (by omega)]
    exact h4 s a b
  · rw [e 7 (by omega) (by omega)] at b
    rw [e 6 (by omega) (by omega)] at d
    rw [e _ (by omega) (by omega), e _ (by omega) (by omega), e _ (by omega) (by omega), e _ (by omega) (by omega)]
    exact h5 s p a b x d
  · rw [e 6 (by omega) (by omega)] at b
    rw [e _ (by omega) (by omega), e _ (by omega) (by omega)]
    exact h6 p q a b x d

/-- what stands behind the last paper and the last student -/
def SX (S : Int → Int) : Prop := (∀ a, 0 ≤ a → a < 160 → S (57 + 3 * a) = 0 → S (57 + 3 * a + 1) = 0) ∧ (∀ s p, 0 ≤ s → s < S 7 → S 6 ≤ p → p < 8 → S (57 + 3 * (8 * s + p) + 2) = -1) ∧ ∀ p c, S 6 ≤ p → p < 8 → 0 ≤ c → c < 3 → S (537 + 2 * (3 * p + c)) = 0 ∧ S (537 + 2 * (3 * p + c) + 1) = 0
theorem SO_out {S : Int → Int} (h : SO S) {a : Int} (h0 : 0 ≤ a) (h1 : a < 160) (ho : S 7 ≤ a / 8 ∨ S 6 ≤ a % 8) : S (57 + 3 * a) = 0 := by
  by_cases hz : S (57 + 3 * a) = 0
  · exact hz
  · obtain ⟨i, i0, i1, e⟩ := h.2.2.2 a h0 h1 hz
    have := h.2.1 i i0 i1
    rw [e] at this
    omega
def SI (S : Int → Int) : Prop := SO S ∧ SX S
theorem SI_set {S : Int → Int} (h : SI S) {w v : Int} (hw : setOK w v) : SI (ru S w v) := by
  have hR : 0 ≤ w ∧ w ≤ 4 := by unfold setOK at hw; omega
  have hV0 := h.1.1.1
  refine ⟨SO_set h.1 hw, fun a b c d => ?_, fun s p a b c d => ?_, fun p c a b x d => ?_⟩
  · rw [ru_off (by omega)] at d ⊢; exact h.2.1 a b c d
  · rw [ru_off (by omega)] at b c; rw [ru_off (by omega)]; exact h.2.2.1 s p a b c d
  · rw [ru_off (by omega)] at a; rw [ru_off (by omega), ru_off (by omega)]; exact h.2.2.2 p c a b x d
theorem SI_am {S : Int → Int} (h : SI S) {c : Int} (hc : 0 ≤ amR S c) : SI (amT S c) := by
  have hV0 := h.1.1.1
  have hc' : S 5 < 4 := by
    unfold amR at hc
    (repeat' split at hc) <;> omega
  have e : ∀ x, ¬ x = 5 → ¬ x = 9 + S 5 → amT S c x = S x := fun x a b => by rw [amT, ru_off a, ru_off b]
  refine ⟨SO_am h.1 hc, fun a b x d => ?_, fun s p a b x d => ?_, fun p q a b x d => ?_⟩
  · rw [e _ (by omega) (by omega)] at d ⊢; exact h.2.1 a b x d
  · rw [e _ (by omega) (by omega)] at b x; rw [e _ (by omega) (by omega)]; exact h.2.2.1 s p a b x d
  · rw [e _ (by omega) (by omega)] at a; rw [e _ (by omega) (by omega), e _ (by omega) (by omega)]; exact h.2.2.2 p q a b x d
theorem SI_ap {S : Int → Int} (h : SI S) {m w f : Int} (hc : 0 ≤ apR S m w f) : SI (apT S m w f) := by
  have hV0 := h.1.1.1
  obtain ⟨h1, h2, h3, h4, h5, h6⟩ := h.1.1
  have hc' : 0 ≤ m ∧ m < S 5 ∧ 1 ≤ w ∧ w ≤ 9 ∧ 10 ≤ f ∧ f ≤ 200 ∧ S 6 < 8 := by
    unfold apR at hc
    (repeat' split at hc) <;> omega
  have e6 : apT S m w f 6 = S 6 + 1 := ru_self _ _ _
  have e : ∀ x, ¬ x = 6 → x < 13 + 3 * S 6 ∨ 13 + 3 * S 6 + 2 < x → apT S m w f x = S x := fun x a b => by rw [apT, ru_off a, ru_off (by omega), ru_off (by omega), ru_off (by omega)]
  have f0 : apT S m w f (13 + 3 * S 6) = m := by rw [apT, ru_off (by omega), ru_off (by omega), ru_off (by omega), ru_self]
  have f1 : apT S m w f (13 + 3 * S 6 + 1) = w := by rw [apT, ru_off (by omega), ru_off (by omega), ru_self]
  have f2 : apT S m w f (13 + 3 * S 6 + 2) = f := by rw [apT, ru_off (by omega), ru_self]
  refine ⟨SO_lo h.1 ⟨?_, fun m a b => ?_, fun p a b => ?_, fun s a b => ?_, fun s p a b x d => ?_, fun p q a b x d => ?_⟩ (e _ (by omega) (by omega)) (by rw [e _ (by omega) (by omega)]; omega) (by omega) (fun a _ _ => e _ (by omega) (by omega)) (fun j _ _ => e _ (by omega) (by omega)), fun a b x d => ?_, fun s p a b x d => ?_, fun p q a b x d => ?_⟩
  · rw [e6, e 0 (by omega) (by omega), e 1 (by omega) (by omega), e 2 (by omega) (by omega), e 3 (by omega) (by omega), e 4 (by omega) (by omega), e 5 (by omega) (by omega), e 7 (by omega) (by omega), e 8 (by omega) (by omega)]
    omega
  · rw [e _ (by omega) (by omega)] at b
    rw [e _ (by omega) (by omega)]; exact h2 m a b
  · rw [e6] at b
    rw [e 5 (by omega) (by omega)]
    by_cases q : p = S 6
    · rw [q, f0, f1, f2]; omega
    · rw [e _ (by omega) (by omega), e _ (by omega) (by omega), e _ (by omega) (by omega)]
      exact h3 p a (by omega)
  · rw [e 7 (by omega) (by omega)] at b
    rw [e _ (by omega) (by omega)]
    exact h4 s a b
  · rw [e 7 (by omega) (by omega)] at b
    rw [e6] at d
    rw [e (57 + 3 * (8 * s + p)) (by omega) (by omega), e (57 + 3 * (8 * s + p) + 1) (by omega) (by omega), e (57 + 3 * (8 * s + p) + 2) (by omega) (by omega)]
    by_cases q : p = S 6
    · have z0 := SO_out h.1 (a := 8 * s + p) (by omega) (by omega) (by omega)
      have z1 := h.2.1 (8 * s + p) (by omega) (by omega) z0
      have z2 := h.2.2.1 s p a b (by omega) (by omega)
      rw [z0, z1, z2, q, f2]
      omega
    · rw [e _ (by omega) (by omega)]
      exact h5 s p a b x (by omega)
  · rw [e6] at b
    rw [e _ (by omega) (by omega), e _ (by omega) (by omega)]
    by_cases w : p = S 6
    · have := h.2.2.2 p q (by omega) (by omega) x d
      omega
    · exact h6 p q a (by omega) x d
  · rw [e _ (by omega) (by omega)] at d ⊢; exact h.2.1 a b x d
  · rw [e6] at x; rw [e 7 (by omega) (by omega)] at b; rw [e _ (by omega) (by omega)]; exact h.2.2.1 s p a b (by omega) d
  · rw [e6] at a; rw [e _ (by omega) (by omega), e _ (by omega) (by omega)]; exact h.2.2.2 p q (by omega) b x d
theorem asN_ne {S : Int → Int} {a x : Int} : ∀ k : Nat, (∀ j : Nat, j < k → ¬ x = 57 + 3 * (8 * a + j) + 2) → asN S a k x = S x
  | 0, _ => rfl
  | k + 1, h => by
    show ru (asN S a k) (57 + 3 * (8 * a + k) + 2) (-1) x = S x
    rw [ru_off (h k (by omega))]
    exact asN_ne k (fun j hj => h j (by omega))
theorem asN_at {S : Int → Int} {a : Int} {j : Nat} : ∀ k : Nat, j < k → asN S a k (57 + 3 * (8 * a + j) + 2) = -1
  | 0, h => absurd h (by omega)
  | k + 1, h => by
    show ru (asN S a k) (57 + 3 * (8 * a + k) + 2) (-1) _ = -1
    by_cases q : j = k
    · rw [q, ru_self]
    · rw [ru_off (by omega)]
      exact asN_at k (by omega)
theorem asT_ne {S : Int → Int} {c x : Int} (h7 : ¬ x = 7) (hc : ¬ x = 37 + S 7) (h : ∀ j, 0 ≤ j → j < 8 → ¬ x = 57 + 3 * (8 * S 7 + j) + 2) : asT S c x = S x := by
  rw [asT, ru_off h7, asN_ne 8 (fun j hj => h j (by omega) (by omega)), ru_off hc]
theorem asT_at {S : Int → Int} {c j : Int} (hs : 0 ≤ S 7) (h0 : 0 ≤ j) (h1 : j < 8) : asT S c (57 + 3 * (8 * S 7 + j) + 2) = -1 := by
  have := asN_at (S := ru S (37 + S 7) c) (a := S 7) (j := j.toNat) 8 (by omega)
  rw [Int.toNat_of_nonneg h0] at this
  rw [asT, ru_off (by omega)]
  exact this
theorem SI_as {S : Int → Int} (h : SI S) {c : Int} (hc : 0 ≤ asR S c) : SI (asT S c) := by
  have hV0 := h.1.1.1
  obtain ⟨h1, h2, h3, h4, h5, h6⟩ := h.1.1
  have hc' : 0 ≤ c ∧ c ≤ 2 ∧ S 7 < 20 := by
    unfold asR at hc
    (repeat' split at hc) <;> omega
  have e7 : asT S c 7 = S 7 + 1 := ru_self _ _ _
  have ec : asT S c (37 + S 7) = c := by rw [asT, ru_off (by omega), asN_ne 8 (fun j hj => by omega), ru_self]
  have e : ∀ x, ¬ x = 7 → ¬ x = 37 + S 7 → x < 57 + 24 * S 7 ∨ 57 + 24 * S 7 + 24 ≤ x → asT S c x = S x := fun x a b d => asT_ne a b (fun j j0 j1 => by omega)
  have ea : ∀ a, 0 ≤ a → asT S c (57 + 3 * a) = S (57 + 3 * a) ∧ asT S c (57 + 3 * a + 1) = S (57 + 3 * a + 1) := fun a a0 => ⟨asT_ne (by omega) (by omega) (fun j j0 j1 => by omega), asT_ne (by omega) (by omega) (fun j j0 j1 => by omega)⟩
  refine ⟨SO_lo h.1 ⟨?_, fun m a b => ?_, fun p a b => ?_, fun s a b => ?_, fun s p a b x d => ?_, fun p q a b x d => ?_⟩ (e _ (by omega) (by omega) (by omega)) (by omega) (by rw [e 6 (by omega) (by omega) (by omega)]; omega) (fun a b _ => (ea a b).1) (fun j _ _ => e _ (by omega) (by omega) (by omega)), fun a b x d => ?_, fun s p a b x d => ?_, fun p q a b x d => ?_⟩
  · rw [e7, e 0 (by omega) (by omega) (by omega), e 1 (by omega) (by omega) (by omega), e 2 (by omega) (by omega) (by omega), e 3 (by omega) (by omega) (by omega), e 4 (by omega) (by omega) (by omega), e 5 (by omega) (by omega) (by omega), e 6 (by omega) (by omega) (by omega), e 8 (by omega) (by omega) (by omega)]
    omega
  · rw [e 5 (by omega) (by omega) (by omega)] at b
    rw [e _ (by omega) (by omega) (by omega)]; exact h2 m a b
  · rw [e 6 (by omega) (by omega) (by omega)] at b
    rw [e 5 (by omega) (by omega) (by omega), e _ (by omega) (by omega) (by omega), e _ (by omega) (by omega) (by omega), e _ (by omega) (by omega) (by omega)]
    exact h3 p a b
  · rw [e7] at b
    by_cases q : s = S 7
    · rw [q, ec]; omega
    · rw [e _ (by omega) (by omega) (by omega)]
      exact h4 s a (by omega)
  · rw [e7] at b
    rw [e 6 (by omega) (by omega) (by omega)] at d
    rw [(ea (8 * s + p) (by omega)).1, (ea (8 * s + p) (by omega)).2, e (13 + 3 * p + 2) (by omega) (by omega) (by omega)]
    by_cases q : s = S 7
    · have z0 := SO_out h.1 (a := 8 * s + p) (by omega) (by omega) (by omega)
      have z1 := h.2.1 (8 * s + p) (by omega) (by omega) z0
      rw [z0, z1, q, asT_at (by omega) x (by omega)]
      have := h3 p x d
      omega
    · rw [e _ (by omega) (by omega) (by omega)]
      exact h5 s p a (by omega) x d
  · rw [e 6 (by omega) (by omega) (by omega)] at b
    rw [e _ (by omega) (by omega) (by omega), e _ (by omega) (by omega) (by omega)]
    exact h6 p q a b x d
  · rw [(ea a b).1] at d; rw [(ea a b).2]; exact h.2.1 a b x d
  · rw [e7] at b; rw [e 6 (by omega) (by omega) (by omega)] at x
    by_cases q : s = S 7
    · rw [q]; exact asT_at (by omega) (by omega) d
    · rw [e _ (by omega) (by omega) (by omega)]; exact h.2.2.1 s p a (by omega) x d
  · rw [e 6 (by omega) (by omega) (by omega)] at a; rw [e _ (by omega) (by omega) (by omega), e _ (by omega) (by omega) (by omega)]; exact h.2.2.2 p q a b x d
theorem SI_sl {S : Int → Int} (h : SI S) {p c r v : Int} (hc : 0 ≤ slR S p c r v) : SI (slT S p c r v) := by
  have hV0 := h.1.1.1
  obtain ⟨h1, h2, h3, h4, h5, h6⟩ := h.1.1
  have hc' : (0 ≤ p ∧ p < S 6 ∧ 0 ≤ c ∧ c < 3) ∧ 0 ≤ r ∧ r ≤ 3 ∧ -30 ≤ v ∧ v ≤ 150 := by
    unfold slR at hc
    split at hc
    · omega
    · split at hc
      · omega
      · next q1 q2 =>
        have q3 : ruleOK r v := by
          by_cases q : ruleOK r v
          · exact q
          · exact absurd q q2
        unfold ruleOK at q3
        omega
  obtain ⟨⟨p0, p1, c0, c1⟩, hr⟩ := hc'
  have e : ∀ x, ¬ x = 537 + 2 * (3 * p + c) → ¬ x = 537 + 2 * (3 * p + c) + 1 → slT S p c r v x = S x := fun x a b => by rw [slT, ru_off b, ru_off a]
  have f0 : slT S p c r v (537 + 2 * (3 * p + c)) = r := by rw [slT, ru_off (by omega), ru_self]
  have f1 : slT S p c r v (537 + 2 * (3 * p + c) + 1) = v := by rw [slT, ru_self]
  refine ⟨SO_lo h.1 ⟨?_, fun m a b => ?_, fun p a b => ?_, fun s a b => ?_, fun s p a b x d => ?_, fun p' q a b x d => ?_⟩ (e _ (by omega) (by omega)) (by rw [e _ (by omega) (by omega)]; omega) (by rw [e _ (by omega) (by omega)]; omega) (fun a _ _ => e _ (by omega) (by omega)) (fun j _ _ => e _ (by omega) (by omega)), fun a b x d => ?_, fun s p a b x d => ?_, fun p' q a b x d => ?_⟩
  · rw [e 0 (by omega) (by omega), e 1 (by omega) (by omega), e 2 (by omega) (by omega), e 3 (by omega) (by omega), e 4 (by omega) (by omega), e 5 (by omega) (by omega), e 6 (by omega) (by omega), e 7 (by omega) (by omega), e 8 (by omega) (by omega)]
    omega
  · rw [e 5 (by omega) (by omega)] at b
    rw [e _ (by omega) (by omega)]; exact h2 m a b
  · rw [e 6 (by omega) (by omega)] at b
    rw [e 5 (by omega) (by omega), e _ (by omega) (by omega), e _ (by omega) (by omega), e _ (by omega) (by omega)]
    exact h3 p a b
  · rw [e 7 (by omega) (by omega)] at b
    rw [e _ (by omega) (by omega)]
    exact h4 s a b
  · rw [e 7 (by omega) (by omega)] at b
    rw [e 6 (by omega) (by omega)] at d
    rw [e _ (by omega) (by omega), e _ (by omega) (by omega), e _ (by omega) (by omega), e _ (by omega) (by omega)]
    exact h5 s p a b x d
  · rw [e 6 (by omega) (by omega)] at b
    by_cases k : 3 * p' + q = 3 * p + c
    · rw [k, f0, f1]; omega
    · rw [e _ (by omega) (by omega), e _ (by omega) (by omega)]
      exact h6 p' q a b x d
  · rw [e _ (by omega) (by omega)] at d ⊢; exact h.2.1 a b x d
  · rw [e 7 (by omega) (by omega)] at b; rw [e 6 (by omega) (by omega)] at x; rw [e _ (by omega) (by omega)]; exact h.2.2.1 s p a b x d
  · rw [e 6 (by omega) (by omega)] at a; rw [e _ (by omega) (by omega), e _ (by omega) (by omega)]; exact h.2.2.2 p' q a b x d
/-- what enS changes of the attempts -/
theorem en_at {S : Int → Int} (h : SO S) {k s p raw a : Int} (hr : reS S k s p raw = 0) (ha : 0 ≤ a) (h1 : a < 160) (hn : ¬ a = 8 * s + p) : enS S k s p raw (57 + 3 * a) = S (57 + 3 * a) ∧ enS S k s p raw (57 + 3 * a + 1) = S (57 + 3 * a + 1) ∧ enS S k s p raw (57 + 3 * a + 2) = S (57 + 3 * a + 2) := by
  obtain ⟨⟨s0, s1⟩, ⟨p0, p1⟩, e3, e4, e5, e6⟩ := reS_in hr
  have hV0 := h.1.1
  unfold enS
  split
  · rw [ru_off (by omega), ru_off (by omega), ru_off (by omega)]; exact ⟨rfl, rfl, rfl⟩
  · split
    · next q =>
      obtain ⟨x0, x1, x2⟩ := remI_is h (a := 8 * s + p) (by omega) (by omega) (e4 (Or.inr q))
      unfold remS
      rw [if_neg (by omega), if_neg (by omega), if_neg (by omega), if_neg (by omega), if_neg (by omega), if_neg (by omega), if_neg (by omega), if_neg (by omega), if_neg (by omega), if_neg (by omega), if_neg (by omega), if_neg (by omega), if_neg (by omega), if_neg (by omega), if_neg (by omega)]
      exact ⟨rfl, rfl, rfl⟩
    · next q1 q2 =>
      rw [ru_off (by omega), ru_off (by omega), ru_off (by omega), ru_off (by omega), ru_off (by omega), ru_off (by omega), ru_off (by omega), ru_off (by omega), ru_off (by omega), ru_off (by omega), ru_off (by omega), ru_off (by omega), ru_off (by omega), ru_off (by omega), ru_off (by omega)]
      exact ⟨rfl, rfl, rfl⟩
/-- and of all else but the order -/
theorem en_lo {S : Int → Int} (h : SO S) {k s p raw x : Int} (hr : reS S k s p raw = 0) (hx : x < 57 ∨ (537 ≤ x ∧ x < 585)) (h8 : ¬ x = 8) : enS S k s p raw x = S x := by
  obtain ⟨⟨s0, s1⟩, ⟨p0, p1⟩, e3, e4, e5, e6⟩ := reS_in hr
  have hV0 := h.1.1
  unfold enS
  split
  · rw [ru_off (by omega)]
  · split
    · next q =>
      obtain ⟨x0, x1, x2⟩ := remI_is h (a := 8 * s + p) (by omega) (by omega) (e4 (Or.inr q))
      unfold remS
      rw [if_neg (by omega), if_neg (by omega), if_neg (by omega), if_neg h8, if_neg (by omega)]
    · rw [ru_off (by omega), ru_off h8, ru_off (by omega), ru_off (by omega), ru_off (by omega)]
theorem SI_en {S : Int → Int} (h : SI S) {k s p raw : Int} (hk : k = 109 ∨ k = 114 ∨ k = 101 ∧ raw = 0 ∨ k = 97 ∧ raw = 0 ∨ k = 120) (hr : 0 ≤ raw) (he : reS S k s p raw = 0) : SI (enS S k s p raw) := by
  obtain ⟨⟨s0, s1⟩, ⟨p0, p1⟩, e3, e4, e5, e6⟩ := reS_in he
  have hV0 := h.1.1.1
  have hT := SO_en h.1 hk hr he
  refine ⟨hT, fun a b x d => ?_, fun s' p' a b x d => ?_, fun p' q a b x d => ?_⟩
  · by_cases q : a = 8 * s + p
    · rw [q] at d ⊢
      have h7 : enS S k s p raw 7 = S 7 := en_lo h.1 he (by omega) (by omega)
      have h6 : enS S k s p raw 6 = S 6 := en_lo h.1 he (by omega) (by omega)
      exact (hT.1.2.2.2.2.1 s p s0 (by omega) p0 (by omega)).2.2.2.2.2.2.2 (by omega)
    · have e := en_at h.1 he b x q
      rw [e.1] at d
      rw [e.2.1]
      exact h.2.1 a b x d
  · rw [en_lo h.1 he (by omega) (by omega)] at b x
    rw [(en_at h.1 he (a := 8 * s' + p') (by omega) (by omega) (by omega)).2.2]
    exact h.2.2.1 s' p' a b x d
  · rw [en_lo h.1 he (by omega) (by omega)] at a
    rw [en_lo h.1 he (by omega) (by omega), en_lo h.1 he (by omega) (by omega)]
    exact h.2.2.2 p' q a b x d
theorem reS_R (S : Int → Int) (k s p raw : Int) : 0 ≤ reS S k s p raw ∧ reS S k s p raw ≤ 7 := by
  unfold reS
  (repeat' split) <;> omega
