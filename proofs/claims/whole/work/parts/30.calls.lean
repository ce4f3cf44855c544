/-! entries of the reference, as calls -/
abbrev atOK (T : Int → Int) (s p : Int) : Prop := 0 ≤ T (57 + 3 * (8 * s + p)) ∧ T (57 + 3 * (8 * s + p)) ≤ 3 ∧ 0 ≤ T (57 + 3 * (8 * s + p) + 1) ∧ T (57 + 3 * (8 * s + p) + 1) ≤ T (13 + 3 * p + 2) ∧ -1 ≤ T (57 + 3 * (8 * s + p) + 2) ∧ T (57 + 3 * (8 * s + p) + 2) ≤ T (13 + 3 * p + 2) ∧ (T (57 + 3 * (8 * s + p)) = 0 → T (57 + 3 * (8 * s + p) + 2) = -1) ∧ (¬ T (57 + 3 * (8 * s + p)) = 1 → T (57 + 3 * (8 * s + p) + 1) = 0)
theorem SOK_at {S T : Int → Int} (hV : SOK S) (h8 : 0 ≤ T 8 ∧ T 8 ≤ 160) (hl : ∀ x, x ≠ 8 → x < 57 ∨ (537 ≤ x ∧ x < 585) → T x = S x) (ha : ∀ s p, 0 ≤ s → s < S 7 → 0 ≤ p → p < S 6 → atOK T s p) : SOK T := by
  obtain ⟨h1, h2, h3, h4, h5, h6⟩ := hV
  refine ⟨?_, fun m a b => ?_, fun p a b => ?_, fun s a b => ?_, fun s p a b c d => ?_, fun p q a b c d => ?_⟩
  · rw [hl 0 (by decide) (by decide), hl 1 (by decide) (by decide), hl 2 (by decide) (by decide), hl 3 (by decide) (by decide), hl 4 (by decide) (by decide), hl 5 (by decide) (by decide), hl 6 (by decide) (by decide), hl 7 (by decide) (by decide)]
    omega
  · rw [hl 5 (by decide) (by decide)] at b
    rw [hl _ (by omega) (by omega)]
    exact h2 m a b
  · rw [hl 6 (by decide) (by decide)] at b
    rw [hl 5 (by decide) (by decide), hl _ (by omega) (by omega), hl _ (by omega) (by omega), hl _ (by omega) (by omega)]
    exact h3 p a b
  · rw [hl 7 (by decide) (by decide)] at b
    rw [hl _ (by omega) (by omega)]
    exact h4 s a b
  · rw [hl 7 (by decide) (by decide)] at b
    rw [hl 6 (by decide) (by decide)] at d
    exact ha s p a b c d
  · rw [hl 6 (by decide) (by decide)] at b
    rw [hl _ (by omega) (by omega), hl _ (by omega) (by omega)]
    exact h6 p q a b c d
theorem enS_lo {S : Int → Int} {k s p raw x : Int} (hs : 0 ≤ s) (hp : 0 ≤ p) (h8 : 0 ≤ S 8) (hx : x ≠ 8) (hx2 : x < 57) (hw : k = 120 → 0 ≤ remI S (8 * s + p)) : enS S k s p raw x = S x := by
  unfold enS
  split
  · rw [ru_off (by omega)]
  · split
    · next h =>
      have := hw h
      unfold remS
      rw [if_neg (by omega), if_neg (by omega), if_neg (by omega), if_neg hx, if_neg (by omega)]
    · rw [ru_off (by omega), ru_off hx, ru_off (by omega), ru_off (by omega), ru_off (by omega)]
theorem reS_in {S : Int → Int} {k s p raw : Int} (h : reS S k s p raw = 0) : (0 ≤ s ∧ s < S 7) ∧ (0 ≤ p ∧ p < S 6) ∧ raw ≤ S (13 + 3 * p + 2) ∧ (k = 114 ∨ k = 120 → ¬ S (57 + 3 * (8 * s + p)) = 0) ∧ (k = 114 → S (57 + 3 * (8 * s + p) + 2) < 0) ∧ (¬ (k = 114 ∨ k = 120) → S (57 + 3 * (8 * s + p)) = 0) := by
  unfold reS at h
  refine ⟨?_, ?_, ?_, ?_, ?_, ?_⟩ <;> (repeat' split at h) <;> omega
theorem pcS_lo {S T : Int → Int} {p raw : Int} (h : T (13 + 3 * p + 2) = S (13 + 3 * p + 2)) : pcS T p raw = pcS S p raw := by rw [pcS, h, pcS]
/-- the row stays valid -/
theorem SOK_en {S : Int → Int} (hV : SOK S) {k s p raw : Int} (hk : k = 109 ∨ k = 114 ∨ k = 101 ∧ raw = 0 ∨ k = 97 ∧ raw = 0 ∨ k = 120) (hr : 0 ≤ raw) (he : reS S k s p raw = 0) (h8 : S (57 + 3 * (8 * s + p)) = 0 → S 8 < 160) (hx : k = 120 → 0 ≤ remI S (8 * s + p) ∧ remI S (8 * s + p) < S 8) : SOK (enS S k s p raw) := by
  obtain ⟨⟨s0, s1⟩, ⟨p0, p1⟩, e3, e4, e5, e6⟩ := reS_in he
  have hV0 := hV.1
  have hV' := hV
  refine SOK_at hV ?_ ?_ ?_
  · unfold enS
    split
    · rw [ru_off (by omega)]; omega
    · split
      · next h => have := hx h; unfold remS; rw [if_neg (by omega), if_neg (by omega), if_neg (by omega), if_pos rfl]; omega
      · next h1 h2 => have := h8 (e6 (by omega)); rw [ru_off (by omega), ru_self]; omega
  · intro x hx1 hx2
    unfold enS
    split
    · rw [ru_off (by omega)]
    · split
      · next h => have := hx h; unfold remS; rw [if_neg (by omega), if_neg (by omega), if_neg (by omega), if_neg hx1, if_neg (by omega)]
      · rw [ru_off (by omega), ru_off hx1, ru_off (by omega), ru_off (by omega), ru_off (by omega)]
  · intro s' p' a b c d
    have hA := hV.2.2.2.2.1 s' p' a b c d
    have hf := hV.2.2.1 p' c d
    have hf2 : enS S k s p raw (13 + 3 * p' + 2) = S (13 + 3 * p' + 2) := enS_lo s0 p0 (by omega) (by omega) (by omega) (fun h => (hx h).1)
    unfold atOK
    rw [hf2]
    by_cases hsame : 8 * s' + p' = 8 * s + p
    · have hp' : p' = p := by omega
      subst hp'
      rw [hsame] at hA ⊢
      unfold enS
      split
      · next h =>
        rw [ru_self, ru_off (by omega), ru_off (by omega)]
        have := e4 (Or.inl h)
        omega
      · split
        · next h =>
          unfold remS
          rw [if_pos rfl, if_neg (by omega), if_pos rfl, if_neg (by omega), if_neg (by omega), if_pos rfl]
          omega
        · next h1 h2 =>
          have e : ∀ x, x < 537 → x ≠ 8 → ∀ T : Int → Int, ru (ru T 8 (S 8 + 1)) (585 + S 8) (8 * s + p') x = T x := fun x q1 q2 T => by rw [ru_off (by omega), ru_off q2]
          rw [e _ (by omega) (by omega), e _ (by omega) (by omega), e _ (by omega) (by omega)]
          rw [ru_off (by omega), ru_off (by omega), ru_self, ru_off (by omega), ru_self, ru_self]
          (repeat' split) <;> omega
    · unfold enS
      split
      · rw [ru_off (by omega), ru_off (by omega), ru_off (by omega)]; exact hA
      · split
        · next h =>
          have := hx h
          unfold remS
          rw [if_neg (by omega), if_neg (by omega), if_neg (by omega), if_neg (by omega), if_neg (by omega), if_neg (by omega), if_neg (by omega), if_neg (by omega), if_neg (by omega), if_neg (by omega), if_neg (by omega), if_neg (by omega), if_neg (by omega), if_neg (by omega), if_neg (by omega)]
          exact hA
        · have e : ∀ x, x < 537 → x ≠ 8 → ∀ T : Int → Int, ru (ru T 8 (S 8 + 1)) (585 + S 8) (8 * s + p) x = T x := fun x q1 q2 T => by rw [ru_off (by omega), ru_off q2]
          rw [e _ (by omega) (by omega), e _ (by omega) (by omega), e _ (by omega) (by omega)]
          rw [ru_off (by omega), ru_off (by omega), ru_off (by omega), ru_off (by omega), ru_off (by omega), ru_off (by omega), ru_off (by omega), ru_off (by omega), ru_off (by omega)]
          exact hA
