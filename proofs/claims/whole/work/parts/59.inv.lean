/-! what the law's loop keeps: both objects hold the same state -/
/-- equal in the 745 places of a state -/
def EqS (S T : Int → Int) : Prop := ∀ x : Int, 0 ≤ x → x < 745 → T x = S x
theorem SOK.cg {S T : Int → Int} (h : SOK S) (e : EqS S T) : SOK T := by
  obtain ⟨h1, h2, h3, h4, h5, h6⟩ := h
  have e0 := e 0 (by omega) (by omega)
  have e1 := e 1 (by omega) (by omega)
  have e2 := e 2 (by omega) (by omega)
  have e3 := e 3 (by omega) (by omega)
  have e4 := e 4 (by omega) (by omega)
  have e5 := e 5 (by omega) (by omega)
  have e6 := e 6 (by omega) (by omega)
  have e7 := e 7 (by omega) (by omega)
  have e8 := e 8 (by omega) (by omega)
  refine ⟨?_, fun m a b => ?_, fun p a b => ?_, fun s a b => ?_, fun s p a b x d => ?_, fun p q a b x d => ?_⟩
  · rw [e0, e1, e2, e3, e4, e5, e6, e7, e8]; exact h1
  · rw [e5] at b
    rw [e (9 + m) (by omega) (by omega)]
    exact h2 m a b
  · rw [e6] at b
    rw [e5, e (13 + 3 * p) (by omega) (by omega), e (13 + 3 * p + 1) (by omega) (by omega), e (13 + 3 * p + 2) (by omega) (by omega)]
    exact h3 p a b
  · rw [e7] at b
    rw [e (37 + s) (by omega) (by omega)]
    exact h4 s a b
  · rw [e7] at b
    rw [e6] at d
    rw [e (57 + 3 * (8 * s + p)) (by omega) (by omega), e (57 + 3 * (8 * s + p) + 1) (by omega) (by omega), e (57 + 3 * (8 * s + p) + 2) (by omega) (by omega), e (13 + 3 * p + 2) (by omega) (by omega)]
    exact h5 s p a b x d
  · rw [e6] at b
    rw [e (537 + 2 * (3 * p + q)) (by omega) (by omega), e (537 + 2 * (3 * p + q) + 1) (by omega) (by omega)]
    exact h6 p q a b x d
theorem SO.cg {S T : Int → Int} (h : SO S) (e : EqS S T) : SO T := by
  obtain ⟨h1, h2, h3, h4⟩ := h
  have hb := h1.1
  have e6 := e 6 (by omega) (by omega)
  have e7 := e 7 (by omega) (by omega)
  have e8 := e 8 (by omega) (by omega)
  refine ⟨h1.cg e, fun j a b => ?_, fun i j a b x => ?_, fun a x y z => ?_⟩
  · rw [e8] at b
    have q := h2 j a b
    rw [e (585 + j) (by omega) (by omega), e7, e6, e (57 + 3 * S (585 + j)) (by omega) (by omega)]
    exact q
  · rw [e8] at x
    rw [e (585 + i) (by omega) (by omega), e (585 + j) (by omega) (by omega)]
    exact h3 i j a b x
  · rw [e (57 + 3 * a) (by omega) (by omega)] at z
    obtain ⟨i, i0, i1, q⟩ := h4 a x y z
    exact ⟨i, i0, by rw [e8]; exact i1, by rw [e (585 + i) (by omega) (by omega)]; exact q⟩
theorem SI.cg {S T : Int → Int} (h : SI S) (e : EqS S T) : SI T := by
  have hb := h.1.1.1
  have e6 := e 6 (by omega) (by omega)
  have e7 := e 7 (by omega) (by omega)
  refine ⟨h.1.cg e, fun a x y z => ?_, fun s p a b x d => ?_, fun p c a b x d => ?_⟩
  · rw [e (57 + 3 * a) (by omega) (by omega)] at z
    rw [e (57 + 3 * a + 1) (by omega) (by omega)]
    exact h.2.1 a x y z
  · rw [e7] at b
    rw [e6] at x
    rw [e (57 + 3 * (8 * s + p) + 2) (by omega) (by omega)]
    exact h.2.2.1 s p a b x d
  · rw [e6] at a
    rw [e (537 + 2 * (3 * p + c)) (by omega) (by omega), e (537 + 2 * (3 * p + c) + 1) (by omega) (by omega)]
    exact h.2.2.2 p c a b x d
theorem BDr.cgS {b : Nat} {M : Mem} {S T : Int → Int} (h : BDr b M S) (hV : SOK S) (e : EqS S T) : BDr b M T := by
  obtain ⟨h1, h2, h3, h4, h5, h6, h7, h8, h9, h10⟩ := h
  have hb := hV.1
  have e5 := e 5 (by omega) (by omega)
  have e6 := e 6 (by omega) (by omega)
  have e7 := e 7 (by omega) (by omega)
  have e8 := e 8 (by omega) (by omega)
  refine ⟨?_, fun j a c => ?_, fun m a c => ?_, fun p a c => ?_, fun s a c => ?_, fun a x y => ?_, fun a x y => ?_, fun i a c => ?_, fun q a c => ?_, fun p c a x y d => ?_⟩
  · rw [e5, e6, e7, e8]; exact h1
  · rw [e j (by omega) (by omega)]; exact h2 j a c
  · rw [e5] at c
    rw [e (9 + m) (by omega) (by omega)]; exact h3 m a c
  · rw [e6] at c
    rw [e (13 + 3 * p) (by omega) (by omega), e (13 + 3 * p + 1) (by omega) (by omega), e (13 + 3 * p + 2) (by omega) (by omega)]; exact h4 p a c
  · rw [e7] at c
    rw [e (37 + s) (by omega) (by omega)]; exact h5 s a c
  · rw [e (57 + 3 * a) (by omega) (by omega), e (57 + 3 * a + 1) (by omega) (by omega)]; exact h6 a x y
  · rw [e7, e (57 + 3 * a + 2) (by omega) (by omega)]; exact h7 a x y
  · rw [e8] at c
    rw [e (585 + i) (by omega) (by omega)]; exact h8 i a c
  · rw [e (537 + 2 * q) (by omega) (by omega), e (537 + 2 * q + 1) (by omega) (by omega)]; exact h9 q a c
  · have g1 : cntS T p c = cntS S p c := by
      unfold cntS
      rw [e7]
      refine sz_c (fun s s0 s1 => ?_)
      unfold cntF
      rw [e (37 + s) (by omega) (by omega), e (57 + 3 * (8 * s + p)) (by omega) (by omega)]
    have g2 : sumS T p c = sumS S p c := by
      unfold sumS
      rw [e7]
      refine sz_c (fun s s0 s1 => ?_)
      unfold sumF fstS pcS
      rw [e (37 + s) (by omega) (by omega), e (57 + 3 * (8 * s + p)) (by omega) (by omega), e (57 + 3 * (8 * s + p) + 1) (by omega) (by omega), e (13 + 3 * p + 2) (by omega) (by omega)]
    rw [g1, g2]
    exact h10 p c a x y d
/-- the kept states: entry j of the reference, the oldest first, and the class's slot -/
def HIS (M : Mem) : Prop := ∀ j : Int, 0 ≤ j → j < M 184 2 → ∃ K : Int → Int, SI K ∧ (∀ x : Int, 0 ≤ x → x < 745 → M 186 (745 * j + x) = K x) ∧ BDr (15 * (((M 165 1 + 9 - M 184 2 + j) % 9).toNat + 2)) M K
def SAV (M : Mem) : Prop := M 183 2 = M 184 4 ∧ (¬ M 184 4 = 0 → ∃ K : Int → Int, SI K ∧ (∀ x : Int, 0 ≤ x → x < 745 → M 187 x = K x) ∧ BDr 15 M K)
def TXS (M : Mem) : Prop := T5 M (M 189) (M 184 7) ∧ TX (M 189) (M 184 7)
def RFS (M : Mem) : Prop := M 183 8 = M 184 11 ∧ M 183 9 = M 184 12 ∧ M 183 10 = M 184 13 ∧ 0 ≤ M 184 11 ∧ M 184 11 ≤ 7
def WRS (M : Mem) : Prop := ∃ L : List Int, MT M L ∧ MT5 M L ∧ L.length ≤ 64
def IV (M : Mem) : Prop := SI (M 185) ∧ BD M (M 185) ∧ (0 ≤ M 165 1 ∧ M 165 1 < 9) ∧ (0 ≤ M 184 2 ∧ M 184 2 ≤ 8) ∧ M 165 2 = M 184 2 ∧ HIS M ∧ SAV M ∧ TXS M ∧ RFS M ∧ WRS M
section IVs
variable {M N O : Mem}
theorem HIS.cg (h : HIS M) (e1 : N 165 1 = M 165 1) (e2 : N 184 2 = M 184 2) (e6 : N 186 = M 186) (eb : ∀ i, 30 ≤ i → i < 165 → N i = M i) : HIS N := by
  intro j a b
  rw [e2] at b
  obtain ⟨K, k1, k2, k3⟩ := h j a b
  refine ⟨K, k1, fun x c d => by rw [e6]; exact k2 x c d, ?_⟩
  rw [e1, e2]
  exact k3.congr (fun i a1 b1 => eb i (by omega) (by omega))
theorem SAV.cg (h : SAV M) (e3 : N 183 2 = M 183 2) (e4 : N 184 4 = M 184 4) (e7 : N 187 = M 187) (eb : ∀ i, 15 ≤ i → i < 30 → N i = M i) : SAV N := by
  refine ⟨by rw [e3, e4]; exact h.1, fun hn => ?_⟩
  rw [e4] at hn
  obtain ⟨K, k1, k2, k3⟩ := h.2 hn
  exact ⟨K, k1, fun x c d => by rw [e7]; exact k2 x c d, k3.congr (fun i a1 b1 => eb i (by omega) (by omega))⟩
theorem TXS.cg (h : TXS M) (e1 : N 177 = M 177) (e2 : N 189 = M 189) (e3 : N 184 7 = M 184 7) : TXS N := by
  unfold TXS T5 at h ⊢
  rw [e1, e2, e3]
  exact h
theorem RFS.cg (h : RFS M) (a8 : N 183 8 = M 183 8) (a9 : N 183 9 = M 183 9) (a10 : N 183 10 = M 183 10) (b11 : N 184 11 = M 184 11) (b12 : N 184 12 = M 184 12) (b13 : N 184 13 = M 184 13) : RFS N := by
  unfold RFS at h ⊢
  rw [a8, a9, a10, b11, b12, b13]
  exact h
theorem WRS.cg (h : WRS M) (e1 : N 182 = M 182) (e2 : N 190 = M 190) (e3 : N 184 10 = M 184 10) : WRS N := by
  unfold WRS MT MT5 at h ⊢
  rw [e1, e2, e3]
  exact h
theorem IV.ok (h : IV M) : SOK (M 185) := h.1.1.1
/-- nothing that counts has changed -/
theorem IV.cg (h : IV M) (e : ∀ i, i < 167 ∨ i = 177 ∨ i = 182 ∨ i = 185 ∨ i = 186 ∨ i = 187 ∨ i = 189 ∨ i = 190 → N i = M i) (e3 : N 183 2 = M 183 2 ∧ N 183 8 = M 183 8 ∧ N 183 9 = M 183 9 ∧ N 183 10 = M 183 10) (e4 : ∀ f : Int, f < 18 → N 184 f = M 184 f) : IV N := by
  obtain ⟨h1, h2, h3, h4, h5, h6, h7, h8, h9, h10⟩ := h
  have a5 : N 185 = M 185 := e 185 (by omega)
  have a165 : N 165 = M 165 := e 165 (by omega)
  refine ⟨by rw [a5]; exact h1, by rw [a5]; exact h2.congr (fun i hi => e i (by omega)), by rw [a165]; exact h3, by rw [e4 2 (by omega)]; exact h4, by rw [a165, e4 2 (by omega)]; exact h5, h6.cg (by rw [a165]) (e4 2 (by omega)) (e 186 (by omega)) (fun i a b => e i (by omega)), h7.cg e3.1 (e4 4 (by omega)) (e 187 (by omega)) (fun i a b => e i (by omega)), h8.cg (e 177 (by omega)) (e 189 (by omega)) (e4 7 (by omega)), h9.cg e3.2.1 e3.2.2.1 e3.2.2.2 (e4 11 (by omega)) (e4 12 (by omega)) (e4 13 (by omega)), h10.cg (e 182 (by omega)) (e 190 (by omega)) (e4 10 (by omega))⟩
/-- a look of the class, then one of the reference -/
theorem IV.look (h : IV M) (h5 : SC5 M N) (h6 : SCm N O) : IV O := by
  refine h.cg (fun i hi => ?_) ?_ (fun f hf => ?_)
  · rw [h6.1 i (by omega) (by omega), h5 i (by omega)]
  · have a : O 183 = M 183 := by rw [h6.1 183 (by omega) (by omega), h5 183 (by omega)]
    rw [a]
    exact ⟨rfl, rfl, rfl, rfl⟩
  · rw [h6.2 f (by omega), h5 184 (by omega)]
theorem IV.l5 (h : IV M) (h5 : SC5 M N) : N 185 = M 185 ∧ N 184 = M 184 ∧ N 189 = M 189 ∧ N 190 = M 190 := ⟨h5 _ (by omega), h5 _ (by omega), h5 _ (by omega), h5 _ (by omega)⟩
theorem KP.cg {S : Int → Int} (h : KP N O S) (e1 : N 184 2 = M 184 2) (e2 : N 186 = M 186) : KP M O S := by
  unfold KP at h ⊢
  rw [e1, e2] at h
  exact h
theorem his_push {S : Int → Int} (h : HIS M) (hc : 0 ≤ M 165 1 ∧ M 165 1 < 9) (hu : 0 ≤ M 184 2 ∧ M 184 2 ≤ 8) (hS : SI S) (c1 : O 165 1 = (M 165 1 + 1) % 9) (hb : BDr (15 * ((M 165 1).toNat + 2)) O S) (fr : ∀ i, 30 ≤ i → i < 165 → (i < 15 * ((M 165 1).toNat + 2) ∨ 15 * ((M 165 1).toNat + 2) + 15 ≤ i) → O i = M i) (hk : KP M O S) : HIS O := by
  obtain ⟨k1, k2, k3⟩ := hk
  intro j a b
  by_cases q : M 184 2 = 8
  · rw [if_pos q] at k1
    rw [k1] at b
    by_cases q7 : j = 7
    · refine ⟨S, hS, fun x c d => ?_, ?_⟩
      · have := k3 x c d
        rw [if_pos q] at this
        rw [q7]; exact this
      · have e : (O 165 1 + 9 - O 184 2 + j) % 9 = M 165 1 := by rw [c1, k1, q7]; omega
        rw [e]; exact hb
    · obtain ⟨K, m1, m2, m3⟩ := h (j + 1) (by omega) (by omega)
      refine ⟨K, m1, fun x c d => ?_, ?_⟩
      · have := k2 j x a (by rw [if_pos q]; omega) c d
        rw [if_pos q] at this
        rw [this]; exact m2 x c d
      · have e : (O 165 1 + 9 - O 184 2 + j) % 9 = (M 165 1 + 9 - M 184 2 + (j + 1)) % 9 := by rw [c1, k1, q]; omega
        rw [e]
        rw [q] at m3 ⊢
        exact m3.congr (fun i a1 b1 => fr i (by omega) (by omega) (by omega))
  · rw [if_neg q] at k1
    rw [k1] at b
    by_cases q7 : j = M 184 2
    · refine ⟨S, hS, fun x c d => ?_, ?_⟩
      · have := k3 x c d
        rw [if_neg q] at this
        rw [q7]; exact this
      · have e : (O 165 1 + 9 - O 184 2 + j) % 9 = M 165 1 := by rw [c1, k1, q7]; omega
        rw [e]; exact hb
    · obtain ⟨K, m1, m2, m3⟩ := h j a (by omega)
      refine ⟨K, m1, fun x c d => ?_, ?_⟩
      · have := k2 j x a (by rw [if_neg q]; omega) c d
        rw [if_neg q] at this
        rw [this]; exact m2 x c d
      · have e : (O 165 1 + 9 - O 184 2 + j) % 9 = (M 165 1 + 9 - M 184 2 + j) % 9 := by rw [c1, k1]; omega
        rw [e]
        exact m3.congr (fun i a1 b1 => fr i (by omega) (by omega) (by omega))
theorem KP.u {S : Int → Int} (hk : KP M O S) (hu : 0 ≤ M 184 2 ∧ M 184 2 ≤ 8) : O 184 2 = min (M 184 2 + 1) 8 := by
  rw [hk.1]
  split <;> omega
/-- a change of the class, then the same of the reference -/
theorem IV.mo {T : Int → Int} (h : IV M) (hT : SI T) (h5 : MO5 M N (M 185) T) (h6 : MOP N O (M 185) T) : IV O := by
  obtain ⟨h1, h2, h3, h4, hu5, h6', h7, h8, h9, h10⟩ := h
  obtain ⟨b1, b2, b3, b4, b5⟩ := h5
  obtain ⟨o1, o2, o3, o4⟩ := h6
  have hN : ∀ i, 165 < i → N i = M i := fun i hi => b5 i (by omega) (by omega) (by omega)
  have n4 : N 184 = M 184 := hN 184 (by omega)
  have hK : KP M O (M 185) := o2.cg (by rw [n4]) (hN 186 (by omega))
  have u1 := hK.u h4
  have e165 : O 165 = N 165 := o3 165 (by omega) (by omega) (by omega) (by omega) (by omega)
  have hO : ∀ i, i < 165 → O i = N i := fun i hi => o3 i (by omega) (by omega) (by omega) (by omega) (by omega)
  have hf : ∀ f : Int, f ≠ 2 → f < 18 → O 184 f = M 184 f := fun f a b => by rw [o4 f a (by omega), n4]
  have e183 : O 183 = M 183 := by rw [o3 183 (by omega) (by omega) (by omega) (by omega) (by omega), hN 183 (by omega)]
  have hx : ∀ i, 165 < i → i < 183 → O i = M i := fun i a b => by rw [o3 i (by omega) (by omega) (by omega) (by omega) (by omega), hN i a]
  refine ⟨by rw [o1]; exact hT, by rw [o1]; exact b1.congr (fun i hi => hO i (by omega)), by rw [e165, b3]; omega, by rw [u1]; omega, by rw [e165, b4, u1, hu5], his_push h6' h3 h4 h1 (by rw [e165]; exact b3) (b2.congr (fun i a b => hO i (by omega))) (fun i a b c => by rw [hO i b]; exact b5 i (by omega) (by omega) c) hK, h7.cg (by rw [e183]) (hf 4 (by omega) (by omega)) (by rw [o3 187 (by omega) (by omega) (by omega) (by omega) (by omega), hN 187 (by omega)]) (fun i a b => by rw [hO i (by omega)]; exact b5 i (by omega) (by omega) (by omega)), h8.cg (hx 177 (by omega) (by omega)) (by rw [o3 189 (by omega) (by omega) (by omega) (by omega) (by omega), hN 189 (by omega)]) (hf 7 (by omega) (by omega)), h9.cg (by rw [e183]) (by rw [e183]) (by rw [e183]) (hf 11 (by omega) (by omega)) (hf 12 (by omega) (by omega)) (hf 13 (by omega) (by omega)), h10.cg (hx 182 (by omega) (by omega)) (by rw [o3 190 (by omega) (by omega) (by omega) (by omega) (by omega), hN 190 (by omega)]) (hf 10 (by omega) (by omega))⟩
theorem IV.m5 {S T : Int → Int} (h5 : MO5 M N S T) (h : IV M) : N 185 = M 185 ∧ N 184 = M 184 := by
  have h3 := h.2.2.1
  exact ⟨h5.2.2.2.2 185 (by omega) (by omega) (by omega), h5.2.2.2.2 184 (by omega) (by omega) (by omega)⟩
/-- a refusal of both -/
theorem IV.ref {r a : Int} (h : IV M) (hr : 0 ≤ r ∧ r ≤ 7) (h5 : rfM M r (-5) a = N) (h6 : REF N O (M 185) r a) : IV O := by
  obtain ⟨h1, h2, h3, h4, hu5, h6', h7, h8, h9, h10⟩ := h
  obtain ⟨o1, o2, o3, o4, o5, o6⟩ := h6
  have hN : ∀ i, i ≠ 183 → N i = M i := fun i hi => by rw [← h5, rfM, st_ne hi, st_ne hi, st_ne hi]
  have n2 : N 183 2 = M 183 2 := by rw [← h5, rfM, st_off (by decide), st_off (by decide), st_off (by decide)]
  have n8 : N 183 8 = r := by rw [← h5, rfM, st_off (by decide), st_off (by decide), st_self]
  have n9 : N 183 9 = -5 := by rw [← h5, rfM, st_off (by decide), st_self]
  have n10 : N 183 10 = a := by rw [← h5, rfM, st_self]
  have hO : ∀ i, i ≠ 183 → i ≠ 184 → i ≠ 185 → i ≠ 188 → i < 191 → O i = M i := fun i a b c d x => by rw [o2 i b c d (by omega), hN i a]
  have e183 : O 183 = N 183 := o2 183 (by omega) (by omega) (by omega) (by omega)
  have hf : ∀ f : Int, f ≠ 11 → f ≠ 12 → f ≠ 13 → f < 18 → O 184 f = M 184 f := fun f a b c d => by rw [o3 f a b c (by omega), hN 184 (by decide)]
  have e165 : O 165 = M 165 := hO 165 (by omega) (by omega) (by omega) (by omega) (by omega)
  have u2 := hf 2 (by omega) (by omega) (by omega) (by omega)
  refine ⟨by rw [o1]; exact h1, by rw [o1]; exact h2.congr (fun i hi => hO i (by omega) (by omega) (by omega) (by omega) (by omega)), by rw [e165]; exact h3, by rw [u2]; exact h4, by rw [e165, u2]; exact hu5, h6'.cg (by rw [e165]) u2 (hO 186 (by omega) (by omega) (by omega) (by omega) (by omega)) (fun i a b => hO i (by omega) (by omega) (by omega) (by omega) (by omega)), h7.cg (by rw [e183, n2]) (hf 4 (by omega) (by omega) (by omega) (by omega)) (hO 187 (by omega) (by omega) (by omega) (by omega) (by omega)) (fun i a b => hO i (by omega) (by omega) (by omega) (by omega) (by omega)), h8.cg (hO 177 (by omega) (by omega) (by omega) (by omega) (by omega)) (hO 189 (by omega) (by omega) (by omega) (by omega) (by omega)) (hf 7 (by omega) (by omega) (by omega) (by omega)), ⟨by rw [e183, n8, o4], by rw [e183, n9, o5], by rw [e183, n10, o6], by rw [o4]; exact hr.1, by rw [o4]; exact hr.2⟩, h10.cg (hO 182 (by omega) (by omega) (by omega) (by omega) (by omega)) (hO 190 (by omega) (by omega) (by omega) (by omega) (by omega)) (hf 10 (by omega) (by omega) (by omega) (by omega))⟩
theorem IV.r5 {r v a : Int} (h5 : rfM M r v a = N) : N 185 = M 185 ∧ N 184 = M 184 := ⟨by rw [← h5, rfM, st_ne (by decide), st_ne (by decide), st_ne (by decide)], by rw [← h5, rfM, st_ne (by decide), st_ne (by decide), st_ne (by decide)]⟩
/-- undo -/
theorem IV.un (h : IV M) (hu : ¬ M 184 2 = 0) (h5 : UN5 M N) (h6 : undM N = O) : IV O := by
  obtain ⟨h1, h2, h3, h4, hu5, h6', h7, h8, h9, h10⟩ := h
  obtain ⟨b1, b2, b3, b4⟩ := h5
  have n4 : N 184 = M 184 := b4 184 (by omega) (by omega)
  have hO : ∀ i, i ≠ 184 → i ≠ 185 → O i = N i := fun i a b => by rw [← h6, undM, cpo_ne b, st_ne a]
  have o4 : ∀ f : Int, f ≠ 2 → O 184 f = M 184 f := fun f a => by rw [← h6, undM, cpo_ne (by decide), st_off a, n4]
  have o2 : O 184 2 = M 184 2 - 1 := by rw [← h6, undM, cpo_ne (by decide), st_self, n4]
  have hR : ∀ i, 15 ≤ i → i ≠ 165 → i ≠ 184 → i ≠ 185 → O i = M i := fun i a b c d => by rw [hO i c d, b4 i a b]
  have e165 : O 165 = N 165 := hO 165 (by omega) (by omega)
  obtain ⟨K, k1, k2, k3⟩ := h6' (M 184 2 - 1) (by omega) (by omega)
  have ek : EqS K (O 185) := fun x x0 x1 => by
    rw [← h6, undM, cpo_in (by omega), st_ne (by decide), b4 186 (by omega) (by omega), n4, ← k2 x x0 x1]
    exact congrArg _ (by omega)
  have es : (M 165 1 + 9 - M 184 2 + (M 184 2 - 1)) % 9 = (M 165 1 + 8) % 9 := by omega
  rw [es] at k3
  have hB : BD N K := b1 K k1.1.1 k3
  refine ⟨k1.cg ek, ?_, by rw [e165, b2]; omega, by rw [o2]; omega, by rw [e165, b3, o2, hu5], fun j a b => ?_, h7.cg (by rw [hR 183 (by omega) (by omega) (by omega) (by omega)]) (o4 4 (by omega)) (hR 187 (by omega) (by omega) (by omega) (by omega)) (fun i a b => hR i (by omega) (by omega) (by omega) (by omega)), h8.cg (hR 177 (by omega) (by omega) (by omega) (by omega)) (hR 189 (by omega) (by omega) (by omega) (by omega)) (o4 7 (by omega)), h9.cg (by rw [hR 183 (by omega) (by omega) (by omega) (by omega)]) (by rw [hR 183 (by omega) (by omega) (by omega) (by omega)]) (by rw [hR 183 (by omega) (by omega) (by omega) (by omega)]) (o4 11 (by omega)) (o4 12 (by omega)) (o4 13 (by omega)), h10.cg (hR 182 (by omega) (by omega) (by omega) (by omega)) (hR 190 (by omega) (by omega) (by omega) (by omega)) (o4 10 (by omega))⟩
  · have hB2 : BD O K := hB.congr (fun i hi => hO i (by omega) (by omega))
    exact BDr.cgS hB2 k1.1.1 ek
  · rw [o2] at b
    obtain ⟨K2, m1, m2, m3⟩ := h6' j a (by omega)
    refine ⟨K2, m1, fun x c d => by rw [hR 186 (by omega) (by omega) (by omega) (by omega)]; exact m2 x c d, ?_⟩
    have e : (O 165 1 + 9 - O 184 2 + j) % 9 = (M 165 1 + 9 - M 184 2 + j) % 9 := by rw [e165, b2, o2]; omega
    rw [e]
    exact m3.congr (fun i a1 c1 => hR i (by omega) (by omega) (by omega) (by omega))
/-- save -/
theorem IV.sv (h : IV M) (h5 : SV5 M N) (h6 : savM N = O) : IV O := by
  obtain ⟨h1, h2, h3, h4, hu5, h6', h7, h8, h9, h10⟩ := h
  obtain ⟨b1, b2, b3⟩ := h5
  have hO : ∀ i, i ≠ 184 → i ≠ 187 → O i = N i := fun i a b => by rw [← h6, savM, cpo_ne b, st_ne a]
  have n4 : N 184 = M 184 := b3 184 (by omega) (by omega)
  have o4 : ∀ f : Int, f ≠ 4 → O 184 f = M 184 f := fun f a => by rw [← h6, savM, cpo_ne (by decide), st_off a, n4]
  have o44 : O 184 4 = 1 := by rw [← h6, savM, cpo_ne (by decide), st_self]
  have hR : ∀ i, i < 15 ∨ 30 ≤ i → i ≠ 183 → i ≠ 184 → i ≠ 187 → O i = M i := fun i a b c d => by rw [hO i c d, b3 i a b]
  have e183 : ∀ f : Int, f ≠ 2 → O 183 f = M 183 f := fun f a => by rw [hO 183 (by omega) (by omega), b2, ru_off a]
  have e185 := hR 185 (by omega) (by omega) (by omega) (by omega)
  have e165 := hR 165 (by omega) (by omega) (by omega) (by omega)
  refine ⟨by rw [e185]; exact h1, by rw [e185]; exact h2.congr (fun i hi => hR i (by omega) (by omega) (by omega) (by omega)), by rw [e165]; exact h3, by rw [o4 2 (by omega)]; exact h4, by rw [e165, o4 2 (by omega)]; exact hu5, h6'.cg (by rw [e165]) (o4 2 (by omega)) (hR 186 (by omega) (by omega) (by omega) (by omega)) (fun i a b => hR i (by omega) (by omega) (by omega) (by omega)), ⟨?_, fun _ => ⟨M 185, h1, fun x c d => ?_, ?_⟩⟩, h8.cg (hR 177 (by omega) (by omega) (by omega) (by omega)) (hR 189 (by omega) (by omega) (by omega) (by omega)) (o4 7 (by omega)), h9.cg (e183 8 (by omega)) (e183 9 (by omega)) (e183 10 (by omega)) (o4 11 (by omega)) (o4 12 (by omega)) (o4 13 (by omega)), h10.cg (hR 182 (by omega) (by omega) (by omega) (by omega)) (hR 190 (by omega) (by omega) (by omega) (by omega)) (o4 10 (by omega))⟩
  · rw [hO 183 (by omega) (by omega), b2, ru_self, o44]
  · rw [← h6, savM, cpo_in (by omega), st_ne (by decide), b3 185 (by omega) (by omega)]
    exact congrArg _ (by omega)
  · exact (b1 _ h1.1.1 h2).congr (fun i a b => hO i (by omega) (by omega))
/-- restore -/
theorem IV.rs (h : IV M) (hs : ¬ M 184 4 = 0) (h5 : RS5 M N) (h6 : resM N = O) : IV O := by
  obtain ⟨h1, h2, h3, h4, hu5, h6', h7, h8, h9, h10⟩ := h
  obtain ⟨b1, b2, b3⟩ := h5
  obtain ⟨K, k1, k2, k3⟩ := h7.2 hs
  have n4 : N 184 = M 184 := b3 184 (by omega) (by omega)
  have hO : ∀ i, i ≠ 184 → i ≠ 185 → O i = N i := fun i a b => by rw [← h6, resM, st_ne a, cpo_ne b]
  have o4 : ∀ f : Int, f ≠ 2 → O 184 f = M 184 f := fun f a => by rw [← h6, resM, st_off a, cpo_ne (by decide), n4]
  have o2 : O 184 2 = 0 := by rw [← h6, resM, st_self]
  have hR : ∀ i, 15 ≤ i → i ≠ 165 → i ≠ 184 → i ≠ 185 → O i = M i := fun i a b c d => by rw [hO i c d, b3 i a b]
  have e165 : O 165 = ru (M 165) 2 0 := by rw [hO 165 (by omega) (by omega), b2]
  have ek : EqS K (O 185) := fun x x0 x1 => by
    rw [← h6, resM, st_ne (by decide), cpo_in (by omega), b3 187 (by omega) (by omega), ← k2 x x0 x1]
    exact congrArg _ (by omega)
  have hB : BD N K := b1 K k1.1.1 k3
  refine ⟨k1.cg ek, ?_, by rw [e165, ru_off (by decide)]; exact h3, by rw [o2]; omega, by rw [e165, ru_self, o2], fun j a b => ?_, h7.cg (by rw [hR 183 (by omega) (by omega) (by omega) (by omega)]) (o4 4 (by omega)) (hR 187 (by omega) (by omega) (by omega) (by omega)) (fun i a b => hR i (by omega) (by omega) (by omega) (by omega)), h8.cg (hR 177 (by omega) (by omega) (by omega) (by omega)) (hR 189 (by omega) (by omega) (by omega) (by omega)) (o4 7 (by omega)), h9.cg (by rw [hR 183 (by omega) (by omega) (by omega) (by omega)]) (by rw [hR 183 (by omega) (by omega) (by omega) (by omega)]) (by rw [hR 183 (by omega) (by omega) (by omega) (by omega)]) (o4 11 (by omega)) (o4 12 (by omega)) (o4 13 (by omega)), h10.cg (hR 182 (by omega) (by omega) (by omega) (by omega)) (hR 190 (by omega) (by omega) (by omega) (by omega)) (o4 10 (by omega))⟩
  · have hB2 : BD O K := hB.congr (fun i hi => hO i (by omega) (by omega))
    exact BDr.cgS hB2 k1.1.1 ek
  · rw [o2] at b
    omega
end IVs
