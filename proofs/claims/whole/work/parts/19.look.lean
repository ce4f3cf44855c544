/-! what 'looks' finds out of the marks mk of a student: numbers -/
def wF (S mk : Int → Int) (m p : Int) : Int := if S (13 + 3 * p) = m then mk p * S (13 + 3 * p + 1) else 0
def vF (S : Int → Int) (m p : Int) : Int := if S (13 + 3 * p) = m then S (13 + 3 * p + 1) else 0
def nF (S mk : Int → Int) (m p : Int) : Int := if S (13 + 3 * p) = m ∧ mk p < 0 then 1 else 0
/-- the mark in a module; -1: it isn't complete -/
def inS (S mk : Int → Int) (m : Int) : Int := if sz (nF S mk m) (S 6) = 0 ∧ 0 < sz (vF S m) (S 6) then nrs (sz (wF S mk m) (S 6)) (sz (vF S m) (S 6)) else -1
def stS (S mk : Int → Int) (c p : Int) : Int := if mk p < 0 then 0 else if S 0 ≤ mk p then 1 else if S 1 ≤ mk p ∧ S 0 ≤ inS S mk (S (13 + 3 * p)) ∧ c < S 2 then 2 else 3
def cmpN (S mk : Int → Int) : Nat → Int
  | 0 => 0
  | k + 1 => cmpN S mk k + (if stS S mk (cmpN S mk k) k = 2 then 1 else 0)
/-- how many of the first x papers are compensated -/
def cmpS (S mk : Int → Int) (x : Int) : Int := cmpN S mk x.toNat
/-- 0 no mark, 1 passed, 2 compensated, 3 failed -/
def stA (S mk : Int → Int) (p : Int) : Int := stS S mk (cmpS S mk p) p
def f3 (S mk : Int → Int) (p : Int) : Int := if stA S mk p = 3 then 1 else 0
def f3F (S mk : Int → Int) (m p : Int) : Int := if S (13 + 3 * p) = m ∧ stA S mk p = 3 then 1 else 0
abbrev psM (S mk : Int → Int) (m : Int) : Prop := 0 ≤ inS S mk m ∧ sz (f3F S mk m) (S 6) = 0
theorem cmpS_s {S mk : Int → Int} {x : Int} (h : 0 ≤ x) : cmpS S mk (x + 1) = cmpS S mk x + (if stA S mk x = 2 then 1 else 0) := by
  unfold cmpS stA
  have e : (x + 1).toNat = x.toNat + 1 := by omega
  rw [e]
  show cmpN S mk x.toNat + (if stS S mk (cmpN S mk x.toNat) (x.toNat : Int) = 2 then 1 else 0) = _
  rw [Int.toNat_of_nonneg h]
  rfl
theorem stA_R (S mk : Int → Int) (p : Int) : 0 ≤ stA S mk p ∧ stA S mk p ≤ 3 := by
  unfold stA stS
  split
  · omega
  · split
    · omega
    · split <;> omega
theorem cmpN_R (S mk : Int → Int) : ∀ k : Nat, 0 ≤ cmpN S mk k ∧ cmpN S mk k ≤ k
  | 0 => by simp [cmpN]
  | k + 1 => by
    have := cmpN_R S mk k
    show 0 ≤ cmpN S mk k + (if stS S mk (cmpN S mk k) k = 2 then 1 else 0) ∧ cmpN S mk k + (if stS S mk (cmpN S mk k) k = 2 then 1 else 0) ≤ _
    split <;> omega
theorem cmpS_R (S mk : Int → Int) {x : Int} (h : 0 ≤ x) : 0 ≤ cmpS S mk x ∧ cmpS S mk x ≤ x := by
  have := cmpN_R S mk x.toNat
  unfold cmpS
  omega
theorem smN_le' {f g : Int → Int} (B : Int) : ∀ k : Nat, (∀ j : Int, 0 ≤ j → j < k → f j ≤ B * g j) → smN f k ≤ B * smN g k
  | 0, _ => by simp [smN]
  | k + 1, h => by
    have h1 := smN_le' (f := f) (g := g) B k (fun j h0 h1 => h j h0 (by omega))
    have h2 := h k (by omega) (by omega)
    show smN f k + f k ≤ B * (smN g k + g k)
    rw [Int.mul_add]
    omega
/-- marks that can be -/
def mkOK (S mk : Int → Int) : Prop := ∀ p, 0 ≤ p → p < S 6 → -1 ≤ mk p ∧ mk p ≤ 100
theorem vF_R {S : Int → Int} (hV : SOK S) (m : Int) {x : Int} (h0 : 0 ≤ x) (h1 : x ≤ S 6) : 0 ≤ sz (vF S m) x ∧ sz (vF S m) x ≤ 72 := by
  have a := hV.1
  have b := sz_R (f := vF S m) (a := 0) (b := 9) (x := x) h0 (fun j q0 q1 => by
    have := hV.2.2.1 j q0 (by omega)
    unfold vF
    split <;> omega)
  omega
theorem nF_R {S mk : Int → Int} (hV : SOK S) (m : Int) {x : Int} (h0 : 0 ≤ x) (h1 : x ≤ S 6) : 0 ≤ sz (nF S mk m) x ∧ sz (nF S mk m) x ≤ 8 := by
  have a := hV.1
  have b := sz_R (f := nF S mk m) (a := 0) (b := 1) (x := x) h0 (fun j q0 q1 => by
    unfold nF
    split <;> omega)
  omega
theorem wT {S mk : Int → Int} (hV : SOK S) (hm : mkOK S mk) (m : Int) {j : Int} (q0 : 0 ≤ j) (q1 : j < S 6) : -9 ≤ wF S mk m j ∧ wF S mk m j ≤ 900 ∧ wF S mk m j ≤ 100 * vF S m j ∧ (nF S mk m j = 0 → 0 ≤ wF S mk m j) := by
  have h1 := hV.2.2.1 j q0 q1
  have h2 := hm j q0 q1
  unfold wF vF nF
  split
  · next hc =>
    have e1 := Int.mul_nonneg (show 0 ≤ mk j + 1 by omega) (show 0 ≤ S (13 + 3 * j + 1) by omega)
    have e2 := Int.mul_nonneg (show 0 ≤ 100 - mk j by omega) (show 0 ≤ S (13 + 3 * j + 1) by omega)
    rw [Int.add_mul, Int.one_mul] at e1
    rw [Int.sub_mul] at e2
    refine ⟨by omega, by omega, by omega, fun h => ?_⟩
    by_cases hn : mk j < 0
    · rw [if_pos ⟨hc, hn⟩] at h
      omega
    · exact Int.mul_nonneg (by omega) (by omega)
  · exact ⟨by omega, by omega, by omega, fun _ => by omega⟩
theorem wF_R {S mk : Int → Int} (hV : SOK S) (hm : mkOK S mk) (m : Int) {x : Int} (h0 : 0 ≤ x) (h1 : x ≤ S 6) : -72 ≤ sz (wF S mk m) x ∧ sz (wF S mk m) x ≤ 7200 := by
  have a := hV.1
  have b := sz_R (f := wF S mk m) (a := -9) (b := 900) (x := x) h0 (fun j q0 q1 => by
    have := wT hV hm m q0 (show j < S 6 by omega)
    omega)
  omega
theorem wS_ok {S mk : Int → Int} (hV : SOK S) (hm : mkOK S mk) (m : Int) (h : sz (nF S mk m) (S 6) = 0) : 0 ≤ sz (wF S mk m) (S 6) ∧ sz (wF S mk m) (S 6) ≤ 100 * sz (vF S m) (S 6) := by
  have a := hV.1
  constructor
  · refine sz_pos (fun j q0 q1 => (wT hV hm m q0 q1).2.2.2 ?_)
    have h2 := sz_ge (f := nF S mk m) (n := S 6) (fun j _ _ => by unfold nF; split <;> omega) q0 q1
    have h3 : 0 ≤ nF S mk m j := by unfold nF; split <;> omega
    omega
  · exact smN_le' 100 _ (fun j q0 q1 => (wT hV hm m q0 (by omega)).2.2.1)
theorem inS_R {S mk : Int → Int} (hV : SOK S) (hm : mkOK S mk) (m : Int) : -1 ≤ inS S mk m ∧ inS S mk m ≤ 100 := by
  unfold inS
  split
  · next hc =>
    have h1 := wS_ok hV hm m hc.1
    have := nrs_R (B := 100) h1.1 hc.2 (by omega)
    omega
  · omega
/-- the first place below x where f is 1; -1: there is none -/
def fiN (f : Int → Int) : Nat → Int
  | 0 => -1
  | k + 1 => if 0 ≤ fiN f k then fiN f k else if f k = 1 then k else -1
def fi (f : Int → Int) (x : Int) : Int := fiN f x.toNat
theorem fi_s {f : Int → Int} {x : Int} (h : 0 ≤ x) : fi f (x + 1) = if 0 ≤ fi f x then fi f x else if f x = 1 then x else -1 := by
  unfold fi
  have e : (x + 1).toNat = x.toNat + 1 := by omega
  rw [e]
  show (if 0 ≤ fiN f x.toNat then fiN f x.toNat else if f (x.toNat : Int) = 1 then (x.toNat : Int) else -1) = _
  rw [Int.toNat_of_nonneg h]
abbrev isF (f : Int → Int) (n v : Int) : Prop := (v = -1 ∧ ∀ j, 0 ≤ j → j < n → ¬ f j = 1) ∨ (0 ≤ v ∧ v < n ∧ f v = 1 ∧ ∀ j, 0 ≤ j → j < v → ¬ f j = 1)
theorem fiN_is (f : Int → Int) : ∀ k : Nat, isF f k (fiN f k)
  | 0 => Or.inl ⟨rfl, fun j h0 h1 => by omega⟩
  | k + 1 => by
    have ih := fiN_is f k
    show isF f _ (if 0 ≤ fiN f k then fiN f k else if f k = 1 then (k : Int) else -1)
    rcases ih with ⟨h1, h2⟩ | ⟨h1, h2, h3, h4⟩
    · rw [if_neg (by omega)]
      by_cases hk : f k = 1
      · rw [if_pos hk]
        exact Or.inr ⟨by omega, by omega, hk, h2⟩
      · rw [if_neg hk]
        refine Or.inl ⟨rfl, fun j q0 q1 => ?_⟩
        by_cases hj : j = k
        · subst hj; exact hk
        · exact h2 j q0 (by omega)
    · rw [if_pos h1]
      exact Or.inr ⟨h1, by omega, h3, h4⟩
theorem fi_is (f : Int → Int) {n : Int} (h : 0 ≤ n) : isF f n (fi f n) := by
  have := fiN_is f n.toNat
  rw [Int.toNat_of_nonneg h] at this
  exact this
theorem isF_u {f : Int → Int} {n v w : Int} (h1 : isF f n v) (h2 : isF f n w) : v = w := by
  rcases h1 with ⟨a1, a2⟩ | ⟨a1, a2, a3, a4⟩ <;> rcases h2 with ⟨b1, b2⟩ | ⟨b1, b2, b3, b4⟩
  · omega
  · exact absurd b3 (a2 w b1 b2)
  · exact absurd a3 (b2 v a1 a2)
  · rcases Int.lt_trichotomy v w with h | h | h
    · exact absurd a3 (b4 v a1 h)
    · exact h
    · exact absurd b3 (a4 w b1 h)
theorem fi_R (f : Int → Int) {n : Int} (h : 0 ≤ n) : -1 ≤ fi f n ∧ (fi f n < n ∨ fi f n = -1) := by
  rcases fi_is f h with ⟨h1, -⟩ | ⟨h1, h2, -⟩ <;> omega
def aF (S : Int → Int) (m : Int) : Int := if 0 < pcnt S m then S (9 + m) else 0
def ptF (S mk : Int → Int) (m : Int) : Int := if 0 < pcnt S m then S (9 + m) * inS S mk m else 0
def misF (S mk : Int → Int) (m : Int) : Int := if 0 < pcnt S m ∧ inS S mk m < 0 then 1 else 0
def goF (S mk : Int → Int) (b m : Int) : Int := if 0 < pcnt S m ∧ b ≤ inS S mk m then S (9 + m) else 0
/-- the credits of all modules that count; the points; the first module that isn't complete; the first failed paper -/
def allS (S : Int → Int) : Int := sz (aF S) (S 5)
def ptS (S mk : Int → Int) : Int := sz (ptF S mk) (S 5)
def misS (S mk : Int → Int) : Int := fi (misF S mk) (S 5)
def lostS (S mk : Int → Int) : Int := fi (f3 S mk) (S 6)
def goS (S mk : Int → Int) (b : Int) : Int := sz (goF S mk b) (S 5)
abbrev incS (S mk : Int → Int) : Prop := allS S = 0 ∨ 0 ≤ misS S mk
def avS (S mk : Int → Int) : Int := if incS S mk then -1 else 100 * ptS S mk / allS S
def clA (a : Int) : Int := if 7000 ≤ a then 1 else if 6000 ≤ a then 2 else if 5000 ≤ a then 3 else 4
abbrev lfS (S mk : Int → Int) : Prop := 1 < clA (avS S mk) ∧ 100 * limS (clA (avS S mk) - 1) - avS S mk ≤ 100 * S 3 ∧ allS S ≤ 2 * goS S mk (limS (clA (avS S mk) - 1))
def grS (S mk : Int → Int) : Int := if incS S mk then 0 else if 0 ≤ lostS S mk then 5 else if lfS S mk then clA (avS S mk) - 1 else clA (avS S mk)
def whS (S mk : Int → Int) : Int := if incS S mk then 1 else if 0 ≤ lostS S mk then 2 else if lfS S mk then 3 else 4
def wnS (S mk : Int → Int) : Int := if incS S mk then (if misS S mk < 0 then -5 else misS S mk) else if 0 ≤ lostS S mk then lostS S mk else if lfS S mk then avS S mk - 100 * limS (clA (avS S mk) - 1) else avS S mk - 100 * limS (clA (avS S mk))
theorem aF_R {S : Int → Int} (hV : SOK S) {m : Int} (h0 : 0 ≤ m) (h1 : m < S 5) : 0 ≤ aF S m ∧ aF S m ≤ 9 := by
  have := hV.2.1 m h0 h1
  unfold aF
  split <;> omega
theorem allS_R {S : Int → Int} (hV : SOK S) {x : Int} (h0 : 0 ≤ x) (h1 : x ≤ S 5) : 0 ≤ sz (aF S) x ∧ sz (aF S) x ≤ 36 := by
  have a := hV.1
  have := sz_R (f := aF S) (a := 0) (b := 9) (x := x) h0 (fun j q0 q1 => aF_R hV q0 (by omega))
  omega
theorem goS_R {S mk : Int → Int} (hV : SOK S) (b : Int) {x : Int} (h0 : 0 ≤ x) (h1 : x ≤ S 5) : 0 ≤ sz (goF S mk b) x ∧ sz (goF S mk b) x ≤ 36 := by
  have a := hV.1
  have := sz_R (f := goF S mk b) (a := 0) (b := 9) (x := x) h0 (fun j q0 q1 => by
    have := hV.2.1 j q0 (by omega)
    unfold goF
    split <;> omega)
  omega
theorem ptF_R {S mk : Int → Int} (hV : SOK S) (hm : mkOK S mk) {m : Int} (h0 : 0 ≤ m) (h1 : m < S 5) : -9 ≤ ptF S mk m ∧ ptF S mk m ≤ 900 ∧ ptF S mk m ≤ 100 * aF S m := by
  have h2 := hV.2.1 m h0 h1
  have h3 := inS_R hV hm m
  unfold ptF aF
  split
  · have e1 := Int.mul_nonneg (show 0 ≤ S (9 + m) by omega) (show 0 ≤ inS S mk m + 1 by omega)
    have e2 := Int.mul_nonneg (show 0 ≤ S (9 + m) by omega) (show 0 ≤ 100 - inS S mk m by omega)
    rw [Int.mul_add, Int.mul_one] at e1
    rw [Int.mul_sub] at e2
    omega
  · omega
theorem ptS_R {S mk : Int → Int} (hV : SOK S) (hm : mkOK S mk) {x : Int} (h0 : 0 ≤ x) (h1 : x ≤ S 5) : -36 ≤ sz (ptF S mk) x ∧ sz (ptF S mk) x ≤ 3600 := by
  have a := hV.1
  have := sz_R (f := ptF S mk) (a := -9) (b := 900) (x := x) h0 (fun j q0 q1 => by have := ptF_R hV hm q0 (show j < S 5 by omega); omega)
  omega
theorem ptS_ok {S mk : Int → Int} (hV : SOK S) (hm : mkOK S mk) (h : ¬ incS S mk) : 0 ≤ ptS S mk ∧ ptS S mk ≤ 100 * allS S ∧ 0 < allS S := by
  have a := hV.1
  have b : 0 ≤ allS S ∧ allS S ≤ 36 := allS_R hV (show 0 ≤ S 5 by omega) (Int.le_refl _)
  have hz : 0 < allS S := by omega
  refine ⟨sz_pos (fun j q0 q1 => ?_), smN_le' 100 _ (fun j q0 q1 => (ptF_R hV hm q0 (by omega)).2.2), hz⟩
  have h2 := hV.2.1 j q0 q1
  unfold ptF
  split
  · next hc =>
    have : 0 ≤ inS S mk j := by
      rcases fi_is (misF S mk) (show 0 ≤ S 5 by omega) with ⟨-, h4⟩ | ⟨h4, -⟩
      · have h5 := h4 j q0 q1
        unfold misF at h5
        by_cases h6 : inS S mk j < 0
        · rw [if_pos ⟨hc, h6⟩] at h5
          omega
        · omega
      · exact absurd (Or.inr h4) h
    exact Int.mul_nonneg (by omega) this
  · omega
theorem avS_R {S mk : Int → Int} (hV : SOK S) (hm : mkOK S mk) : -1 ≤ avS S mk ∧ avS S mk ≤ 10000 ∧ (¬ incS S mk → 0 ≤ avS S mk) := by
  unfold avS
  split
  · next h => exact ⟨by omega, by omega, fun q => absurd h q⟩
  · next h =>
    obtain ⟨h1, h2, h3⟩ := ptS_ok hV hm h
    have h4 : 0 ≤ 100 * ptS S mk / allS S := Int.ediv_nonneg (by omega) (by omega)
    have h5 : 100 * ptS S mk / allS S < 10001 := Int.ediv_lt_of_lt_mul h3 (by omega)
    exact ⟨by omega, by omega, fun _ => h4⟩
theorem clA_R (a : Int) : 1 ≤ clA a ∧ clA a ≤ 4 := by unfold clA; (repeat' split) <;> omega
theorem limS_R (g : Int) : 0 ≤ limS g ∧ limS g ≤ 70 := by unfold limS; (repeat' split) <;> omega
