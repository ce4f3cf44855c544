/-! a call of the class, then the same of the reference: the same answer, and the invariant holds again -/
section PR
variable {M N O : Mem} {x y : Int}
theorem IV.u8 (h : IV M) : 0 ≤ M 165 2 ∧ M 165 2 ≤ 8 := by rw [h.2.2.2.2.1]; exact h.2.2.2.1
theorem IV.t7 (h : IV M) : M 177 0 = M 184 7 ∧ 0 ≤ M 184 7 ∧ M 184 7 ≤ 80 := ⟨h.2.2.2.2.2.2.2.1.1.1, h.2.2.2.2.2.2.2.1.2.1, h.2.2.2.2.2.2.2.1.2.2.1⟩
theorem IV.or8 (h : IV M) : ∀ j, 0 ≤ j → j < M 185 8 → 0 ≤ M 185 (585 + j) ∧ M 185 (585 + j) / 8 < M 185 7 ∧ M 185 (585 + j) % 8 < M 185 6 := fun j a b => by
  obtain ⟨h1, h2, h3, h4, h5⟩ := h.1.1.2.1 j a b
  exact ⟨h1, h3, h4⟩
theorem IV.w10 (h : IV M) : 0 ≤ M 184 10 ∧ M 184 10 ≤ 80 := by
  obtain ⟨L, ⟨l1, l2⟩, m, l3⟩ := h.2.2.2.2.2.2.2.2.2
  omega
theorem IV.wn (h : IV M) (i : Int) : wrS (M 182 0) (fun k => M 182 (k + 1)) i = wrS (M 184 10) (M 190) i := by
  obtain ⟨L, ⟨l1, l2⟩, ⟨m1, m2⟩, l3⟩ := h.2.2.2.2.2.2.2.2.2
  unfold wrS
  rw [m1, l1]
  by_cases q : 0 ≤ i ∧ i < (L.length : Int)
  · rw [if_pos q, if_pos q]
    show M 182 (i + 1) = M 190 i
    rw [m2 i q.1 q.2, l2 i q.1 q.2]
  · rw [if_neg q, if_neg q]
theorem IV.chg5 {P : Prop} {inst : Decidable P} {T : Int → Int} (h : IV M) (h5 : @ite Prop P inst (MO5 M N (M 185) T) (M = N)) : N 185 = M 185 ∧ N 184 = M 184 := by
  by_cases q : P
  · rw [if_pos q] at h5
    exact IV.m5 h5 h
  · rw [if_neg q] at h5
    rw [← h5]
    exact ⟨rfl, rfl⟩
theorem IV.chg {P : Prop} {inst : Decidable P} {T : Int → Int} (h : IV M) (hT : P → SI T) (h5 : @ite Prop P inst (MO5 M N (M 185) T) (M = N)) (h6 : @ite Prop P inst (MOP N O (M 185) T) (N = O)) : IV O := by
  by_cases q : P
  · rw [if_pos q] at h5 h6
    exact h.mo (hT q) h5 h6
  · rw [if_neg q] at h5 h6
    rw [← h6, ← h5]
    exact h
def EC5 (S : Int → Int) (M : Mem) (k s p raw ok rz : Int) (N : Mem) : Prop := (reS S k s p raw = 0 → ok = rz ∧ MO5 M N S (enS S k s p raw)) ∧ (¬ reS S k s p raw = 0 → rz = -4 ∧ rfM M (reS S k s p raw) (-5) (abS S s p (reS S k s p raw)) = N)
section EC
variable {k s p raw ok : Int}
theorem IV.ec5 (h : IV M) (h5 : EC5 (M 185) M k s p raw ok x N) : N 185 = M 185 ∧ N 184 = M 184 := by
  by_cases q : reS (M 185) k s p raw = 0
  · exact IV.m5 (h5.1 q).2 h
  · exact IV.r5 (h5.2 q).2
theorem IV.ec (h : IV M) (hk : k = 109 ∨ k = 114 ∨ k = 101 ∧ raw = 0 ∨ k = 97 ∧ raw = 0 ∨ k = 120) (hr : 0 ≤ raw) (h5 : EC5 (M 185) M k s p raw ok x N) (h6 : CEP (M 185) N k s p raw ok y O) : x = y ∧ IV O := by
  by_cases q : reS (M 185) k s p raw = 0
  · obtain ⟨a1, a2⟩ := h5.1 q
    obtain ⟨b1, b2⟩ := h6.1 q
    exact ⟨a1.symm.trans b1, h.mo (SI_en h.1 hk hr q) a2 b2⟩
  · obtain ⟨a1, a2⟩ := h5.2 q
    obtain ⟨b1, b2⟩ := h6.2 q
    exact ⟨a1.trans b1.symm, h.ref (reS_R (M 185) k s p raw) a2 b2⟩
theorem IV.gc5 {P P' : Prop} (h : IV M) (hP : P ∨ P') (h5 : (P → x = -2 ∧ M = N) ∧ (P' → EC5 (M 185) M k s p raw ok x N)) : N 185 = M 185 ∧ N 184 = M 184 := by
  rcases hP with q | q
  · rw [← (h5.1 q).2]
    exact ⟨rfl, rfl⟩
  · exact h.ec5 (h5.2 q)
theorem IV.gc {P P' : Prop} (h : IV M) (hP : P ∨ P') (hk : k = 109 ∨ k = 114 ∨ k = 101 ∧ raw = 0 ∨ k = 97 ∧ raw = 0 ∨ k = 120) (hr : P' → 0 ≤ raw) (h5 : (P → x = -2 ∧ M = N) ∧ (P' → EC5 (M 185) M k s p raw ok x N)) (h6 : (P → y = -2 ∧ N = O) ∧ (P' → CEP (M 185) N k s p raw ok y O)) : x = y ∧ IV O := by
  rcases hP with q | q
  · obtain ⟨a1, a2⟩ := h5.1 q
    obtain ⟨b1, b2⟩ := h6.1 q
    exact ⟨a1.trans b1.symm, by rw [← b2, ← a2]; exact h⟩
  · exact h.ec hk (hr q) (h5.2 q) (h6.2 q)
end EC
theorem exK_ok (e : Int) : exK e = 109 ∨ exK e = 114 ∨ exK e = 101 ∧ (0 : Int) = 0 ∨ exK e = 97 ∧ (0 : Int) = 0 ∨ exK e = 120 := by
  unfold exK
  split
  · exact Or.inr (Or.inr (Or.inl ⟨rfl, rfl⟩))
  · exact Or.inr (Or.inr (Or.inr (Or.inl ⟨rfl, rfl⟩)))
/-- append -/
theorem IV.app5 {cd : Int} (h5 : if ¬ (32 ≤ cd ∧ cd ≤ 126) then x = -2 ∧ M = N else if M 177 0 = 80 then x = -3 ∧ M = N else x = M 177 0 + 1 ∧ apM M 177 [cd] = N) : N 184 = M 184 := by
  split at h5
  · rw [← h5.2]
  · split at h5
    · rw [← h5.2]
    · rw [← h5.2, apM_ne (by decide)]
theorem IV.app {cd : Int} (h : IV M) (h5 : if ¬ (32 ≤ cd ∧ cd ≤ 126) then x = -2 ∧ M = N else if M 177 0 = 80 then x = -3 ∧ M = N else x = M 177 0 + 1 ∧ apM M 177 [cd] = N) (h6 : if ¬ (32 ≤ cd ∧ cd ≤ 126) then y = -2 ∧ N = O else if N 184 7 = 80 then y = -3 ∧ N = O else y = N 184 7 + 1 ∧ st (st N 184 7 (N 184 7 + 1)) 189 (N 184 7) cd = O) : x = y ∧ IV O := by
  have e4 : N 184 = M 184 := IV.app5 h5
  by_cases q : ¬ (32 ≤ cd ∧ cd ≤ 126)
  · rw [if_pos q] at h5 h6
    exact ⟨h5.1.trans h6.1.symm, by rw [← h6.2, ← h5.2]; exact h⟩
  · rw [if_neg q] at h5 h6
    rw [e4] at h6
    have q2 := Classical.not_not.mp q
    obtain ⟨h1, h2, h3, h4, hu5, h6', h7, h8, h9, h10⟩ := id h
    obtain ⟨⟨t1, t2⟩, t3, t4, t5⟩ := h8
    by_cases q8 : M 184 7 = 80
    · rw [if_pos (t1.trans q8)] at h5
      rw [if_pos q8] at h6
      exact ⟨h5.1.trans h6.1.symm, by rw [← h6.2, ← h5.2]; exact h⟩
    · rw [if_neg (fun z => q8 (t1.symm.trans z))] at h5
      rw [if_neg q8] at h6
      obtain ⟨a1, a2⟩ := h5
      obtain ⟨b1, b2⟩ := h6
      have n7 : ∀ i, i ≠ 177 → N i = M i := fun i hi => by rw [← a2, apM_ne hi]
      have o7 : ∀ i, i ≠ 177 → i ≠ 184 → i ≠ 189 → O i = M i := fun i a b c => by rw [← b2, st_ne c, st_ne b, n7 i a]
      have of : ∀ f : Int, f ≠ 7 → O 184 f = M 184 f := fun f a => by rw [← b2, st_ne (by decide), st_off a, e4]
      have o77 : O 184 7 = M 184 7 + 1 := by rw [← b2, st_ne (by decide), st_self]
      have o177 : O 177 = apM M 177 [cd] 177 := by rw [← b2, st_ne (by decide), st_ne (by decide), ← a2]
      have o189 : ∀ j : Int, O 189 j = if j = M 184 7 then cd else M 189 j := fun j => by
        rw [← b2, st_row]
        show (if j = M 184 7 then cd else st N 184 7 (M 184 7 + 1) 189 j) = _
        rw [st_ne (by decide), n7 189 (by decide)]
      have o185 := o7 185 (by decide) (by decide) (by decide)
      have o165 := o7 165 (by decide) (by decide) (by decide)
      have o183 := o7 183 (by decide) (by decide) (by decide)
      refine ⟨by omega, ?_⟩
      refine ⟨by rw [o185]; exact h1, by rw [o185]; exact h2.congr (fun i hi => o7 i (by omega) (by omega) (by omega)), by rw [o165]; exact h3, by rw [of 2 (by decide)]; exact h4, by rw [o165, of 2 (by decide)]; exact hu5, h6'.cg (by rw [o165]) (of 2 (by decide)) (o7 186 (by decide) (by decide) (by decide)) (fun i a b => o7 i (by omega) (by omega) (by omega)), h7.cg (by rw [o183]) (of 4 (by decide)) (o7 187 (by decide) (by decide) (by decide)) (fun i a b => o7 i (by omega) (by omega) (by omega)), ⟨⟨?_, fun j a b => ?_⟩, ?_, ?_, fun j a b => ?_⟩, h9.cg (by rw [o183]) (by rw [o183]) (by rw [o183]) (of 11 (by decide)) (of 12 (by decide)) (of 13 (by decide)), h10.cg (o7 182 (by decide) (by decide) (by decide)) (o7 190 (by decide) (by decide) (by decide)) (of 10 (by decide))⟩
      · rw [o177, apM_0, o77]
        show M 177 0 + ((1 : Nat) : Int) = _
        omega
      · rw [o77] at b
        rw [o177, o189]
        by_cases z : j = M 184 7
        · rw [if_pos z]
          have g := apM_new (M := M) (i := 177) (cs := [cd]) (t := 0) (by omega) (by show 0 < 1; decide)
          rw [show j + 1 = M 177 0 + ((0 : Nat) : Int) + 1 by omega]
          exact g
        · rw [if_neg z, apM_old (by omega) (by omega)]
          exact t2 j a (by omega)
      · rw [o77]; omega
      · rw [o77]; omega
      · rw [o77] at b
        rw [o189]
        by_cases z : j = M 184 7
        · rw [if_pos z]; exact q2
        · rw [if_neg z]; exact t5 j a (by omega)
/-- write -/
theorem IV.wr5 {sn : Int} (h5 : (¬ inT (M 185) sn → x = -1 ∧ M = N) ∧ (inT (M 185) sn → x = (wlS (M 185) sn).length ∧ MT5 N (wlS (M 185) sn) ∧ ∀ i, i ≠ 182 → (i < 167 ∨ 175 < i) → N i = M i)) : N 185 = M 185 := by
  by_cases q : inT (M 185) sn
  · exact (h5.2 q).2.2 185 (by decide) (by decide)
  · rw [← (h5.1 q).2]
theorem IV.wr {sn : Int} (h : IV M) (h5 : (¬ inT (M 185) sn → x = -1 ∧ M = N) ∧ (inT (M 185) sn → x = (wlS (M 185) sn).length ∧ MT5 N (wlS (M 185) sn) ∧ ∀ i, i ≠ 182 → (i < 167 ∨ 175 < i) → N i = M i)) (h6 : (¬ inT (M 185) sn → y = -1 ∧ N = O) ∧ (inT (M 185) sn → y = (wlS (M 185) sn).length ∧ MT O (wlS (M 185) sn) ∧ WRx N O)) : x = y ∧ IV O := by
  by_cases q : inT (M 185) sn
  · obtain ⟨a1, a2, a3⟩ := h5.2 q
    obtain ⟨b1, b2, b3, b4⟩ := h6.2 q
    obtain ⟨h1, h2, h3, h4, hu5, h6', h7, h8, h9, h10⟩ := id h
    have hO : ∀ i, i ≠ 182 → i ≠ 184 → i ≠ 190 → (i < 167 ∨ 175 < i) → i < 191 → O i = M i := fun i a b c d e => by rw [b3 i b c (Or.inl e), a3 i a d]
    have n4 : N 184 = M 184 := a3 184 (by decide) (by decide)
    have hf : ∀ f : Int, f ≠ 10 → f < 18 → O 184 f = M 184 f := fun f a b => by rw [b4 f a (Or.inl b), n4]
    have o182 : O 182 = N 182 := b3 182 (by decide) (by decide) (by decide)
    have hb := h.ok.1
    have hl := wlN_len (M 185) sn (M 185 6).toNat (by omega)
    have hl2 : (wlS (M 185) sn).length ≤ 64 := by
      show (wlN (M 185) sn (M 185 6).toNat).length ≤ 64
      omega
    have o185 := hO 185 (by decide) (by decide) (by decide) (by decide) (by decide)
    have o165 := hO 165 (by decide) (by decide) (by decide) (by decide) (by decide)
    have o183 := hO 183 (by decide) (by decide) (by decide) (by decide) (by decide)
    exact ⟨a1.trans b1.symm, by rw [o185]; exact h1, by rw [o185]; exact h2.congr (fun i hi => hO i (by omega) (by omega) (by omega) (by omega) (by omega)), by rw [o165]; exact h3, by rw [hf 2 (by decide) (by decide)]; exact h4, by rw [o165, hf 2 (by decide) (by decide)]; exact hu5, h6'.cg (by rw [o165]) (hf 2 (by decide) (by decide)) (hO 186 (by decide) (by decide) (by decide) (by decide) (by decide)) (fun i a b => hO i (by omega) (by omega) (by omega) (by omega) (by omega)), h7.cg (by rw [o183]) (hf 4 (by decide) (by decide)) (hO 187 (by decide) (by decide) (by decide) (by decide) (by decide)) (fun i a b => hO i (by omega) (by omega) (by omega) (by omega) (by omega)), h8.cg (hO 177 (by decide) (by decide) (by decide) (by decide) (by decide)) (hO 189 (by decide) (by decide) (by decide) (by decide) (by decide)) (hf 7 (by decide) (by decide)), h9.cg (by rw [o183]) (by rw [o183]) (by rw [o183]) (hf 11 (by decide) (by decide)) (hf 12 (by decide) (by decide)) (hf 13 (by decide) (by decide)), wlS (M 185) sn, b2, by unfold MT5 at a2 ⊢; rw [o182]; exact a2, hl2⟩
  · obtain ⟨a1, a2⟩ := h5.1 q
    obtain ⟨b1, b2⟩ := h6.1 q
    exact ⟨a1.trans b1.symm, by rw [← b2, ← a2]; exact h⟩
/-- undo -/
theorem IV.und5 (h5 : (M 165 2 = 0 → x = -5 ∧ M = N) ∧ (¬ M 165 2 = 0 → x = M 165 2 - 1 ∧ UN5 M N)) : N 184 = M 184 := by
  by_cases q : M 165 2 = 0
  · rw [← (h5.1 q).2]
  · exact (h5.2 q).2.2.2.2 184 (by decide) (by decide)
theorem IV.und (h : IV M) (h5 : (M 165 2 = 0 → x = -5 ∧ M = N) ∧ (¬ M 165 2 = 0 → x = M 165 2 - 1 ∧ UN5 M N)) (h6 : if N 184 2 = 0 then y = -5 ∧ N = O else y = N 184 2 - 1 ∧ undM N = O) : x = y ∧ IV O := by
  have e4 : N 184 = M 184 := IV.und5 h5
  rw [e4] at h6
  have hu := h.2.2.2.2.1
  by_cases q : M 184 2 = 0
  · obtain ⟨a1, a2⟩ := h5.1 (hu.trans q)
    rw [if_pos q] at h6
    exact ⟨a1.trans h6.1.symm, by rw [← h6.2, ← a2]; exact h⟩
  · obtain ⟨a1, a2⟩ := h5.2 (fun z => q (hu.symm.trans z))
    rw [if_neg q] at h6
    exact ⟨by omega, h.un q a2 h6.2⟩
/-- save -/
theorem IV.sav (h : IV M) (h5 : M 185 7 = x ∧ SV5 M N) (h6 : N 185 7 = y ∧ savM N = O) : x = y ∧ IV O := by
  have e : N 185 = M 185 := h5.2.2.2 185 (by decide) (by decide)
  rw [e] at h6
  exact ⟨h5.1.symm.trans h6.1, h.sv h5.2 h6.2⟩
/-- restore -/
theorem IV.res (h : IV M) (h5 : (M 183 2 = 0 → x = -5 ∧ M = N) ∧ (¬ M 183 2 = 0 → x = M 15 2 ∧ RS5 M N)) (h6 : if N 184 4 = 0 then y = -5 ∧ N = O else y = N 187 7 ∧ resM N = O) : x = y ∧ IV O := by
  have h7 := h.2.2.2.2.2.2.1
  by_cases q : M 184 4 = 0
  · obtain ⟨a1, a2⟩ := h5.1 (h7.1.trans q)
    rw [← a2, if_pos q] at h6
    exact ⟨a1.trans h6.1.symm, by rw [← h6.2]; exact h⟩
  · obtain ⟨a1, a2⟩ := h5.2 (fun z => q (h7.1.symm.trans z))
    have e4 : N 184 = M 184 := a2.2.2 184 (by decide) (by decide)
    have e7 : N 187 = M 187 := a2.2.2 187 (by decide) (by decide)
    rw [e4, if_neg q, e7] at h6
    obtain ⟨K, k1, k2, k3⟩ := h7.2 q
    have g1 := k2 7 (by decide) (by decide)
    have g2 := k3.1.2.2.1
    exact ⟨by omega, h.rs q a2 h6.2⟩
/-- refusal -/
theorem IV.rfu {w : Int} (h : IV M) (h5 : rfS (M 183 8) (M 183 9) (M 183 10) w = x ∧ M = N) (h6 : rfS (N 184 11) (N 184 12) (N 184 13) w = y ∧ N = O) : x = y ∧ IV O := by
  obtain ⟨r1, r2, r3, -⟩ := h.2.2.2.2.2.2.2.2.1
  obtain ⟨a1, a2⟩ := h5
  obtain ⟨b1, b2⟩ := h6
  refine ⟨?_, by rw [← b2, ← a2]; exact h⟩
  rw [← a2] at b1
  rw [← a1, ← b1, r1, r2, r3]
/-- read -/
theorem txs0 (a : O 177 0 = 0) (b : O 184 7 = 0) : TXS O := by
  unfold TXS T5 TX
  rw [b]
  exact ⟨⟨a, fun j u v => absurd v (by omega)⟩, by decide, by decide, fun j u v => absurd v (by omega)⟩
theorem HIS.cgS (h : HIS M) (hc : 0 ≤ M 165 1 ∧ M 165 1 < 9) (hu : 0 ≤ M 184 2 ∧ M 184 2 ≤ 8) (e1 : N 165 1 = M 165 1) (e2 : N 184 2 = M 184 2) (e6 : N 186 = M 186) (eb : ∀ i, 30 ≤ i → i < 165 → (i < 15 * ((M 165 1).toNat + 2) ∨ 15 * ((M 165 1).toNat + 2) + 15 ≤ i) → N i = M i) : HIS N := by
  intro j a b
  rw [e2] at b
  obtain ⟨K, k1, k2, k3⟩ := h j a b
  refine ⟨K, k1, fun x c d => by rw [e6]; exact k2 x c d, ?_⟩
  rw [e1, e2]
  exact k3.congr (fun i a1 b1 => eb i (by omega) (by omega) (by omega))
def TEc (X : Int → Int) (tn : Int) (c : Nat) : Prop := (¬ eOK X tn (ep X tn c) ∨ (eOK X tn (ep X tn c) ∧ eE X tn (ep X tn c) < tn ∧ ¬ hereS X tn (eE X tn (ep X tn c)) = 59)) ∨ (eOK X tn (ep X tn c) ∧ tn ≤ eE X tn (ep X tn c))
theorem TEc.no {X : Int → Int} {tn : Int} {c c' : Nat} (t : TEc X tn c) (h : CH X tn c') : ¬ c < c' := fun q => by
  obtain ⟨a1, a2, a3⟩ := h c q
  rcases t with (t | t) | t
  · exact t a1
  · exact t.2.2 a3
  · have := t.2
    omega
theorem TEc.eq {X : Int → Int} {tn : Int} {c c' : Nat} (h : CH X tn c) (h' : CH X tn c') (t : TEc X tn c) (t' : TEc X tn c') : c = c' := by
  have g1 := t.no h'
  have g2 := t'.no h
  omega
theorem sl_out (h : 0 ≤ M 165 1 ∧ M 165 1 < 9) {i : Nat} (hi : 165 ≤ i) : sl M i := ⟨by omega, Or.inr (by omega)⟩
theorem IV.rd5 (h : IV M) (h5 : RD5 M (M 185) (M 189) (M 184 7) x N) : N 185 = M 185 ∧ N 184 = M 184 ∧ N 189 = M 189 ∧ N 186 = M 186 := by
  obtain ⟨z0, c, hc, hA⟩ := h5
  have f : ∀ i, 184 ≤ i → N i = M i := fun i hi => by
    have g1 := sl_out h.2.2.1 (i := i) (by omega)
    have g2 : RB5 i := Or.inr (by omega)
    rcases hA with ⟨-, -, a⟩ | ⟨-, -, ⟨v, -, -, -, -, -, -, -, -, -, a⟩ | ⟨-, -, -, -, -, -, a⟩⟩
    · exact a i g2
    · exact a i g1 g2 (by omega)
    · exact a i g1 g2 (by omega)
  exact ⟨f 185 (by decide), f 184 (by decide), f 189 (by decide), f 186 (by decide)⟩
theorem IV.rd (h : IV M) (h5 : RD5 M (M 185) (M 189) (M 184 7) x N) (h6 : RDP N (M 185) (M 189) (M 184 7) y O) : x = y ∧ IV O := by
  obtain ⟨n185, n184, n189, n186⟩ := h.rd5 h5
  obtain ⟨h1, h2, h3, h4, hu5, h6', h7, h8, h9, h10⟩ := id h
  obtain ⟨z0, c, hc, hA⟩ := h5
  obtain ⟨c', hc', hB⟩ := h6
  have tA : TEc (M 189) (M 184 7) c := by
    rcases hA with ⟨a, -, -⟩ | ⟨a, b, -⟩
    · exact Or.inl a
    · exact Or.inr ⟨a, b⟩
  have tB : TEc (M 189) (M 184 7) c' := by
    rcases hB with ⟨a, -, -⟩ | ⟨a, b, -⟩
    · exact Or.inl a
    · exact Or.inr ⟨a, b⟩
  have ec : c = c' := TEc.eq hc hc' tA tB
  subst ec
  clear tA tB hc'
  rcases hA with ⟨a1, a2, a3⟩ | ⟨a1, a2, aR⟩
  · rcases hB with ⟨b1, b2, ⟨o1, o2, o3, o7⟩, o11, o12, o13⟩ | ⟨b1, b2, bR⟩
    · have hO : ∀ i, RB5 i → i ≠ 184 → i ≠ 185 → i ≠ 188 → O i = M i := fun i a b c d => by rw [o2 i b c d, a3 i a]
      have hf : ∀ f : Int, f ≠ 7 → f ≠ 8 → f ≠ 11 → f ≠ 12 → f ≠ 13 → O 184 f = M 184 f := fun f a b c d e => by rw [o3 f a b c d e, n184]
      have o165 := hO 165 (Or.inl (by decide)) (by decide) (by decide) (by decide)
      have o183 := hO 183 (Or.inr (by decide)) (by decide) (by decide) (by decide)
      have u2 := hf 2 (by decide) (by decide) (by decide) (by decide) (by decide)
      rw [n184] at o11 o12 o13
      exact ⟨a2.trans b2.symm, by rw [o1]; exact h1, by rw [o1]; exact h2.congr (fun i hi => hO i (Or.inl (by omega)) (by omega) (by omega) (by omega)), by rw [o165]; exact h3, by rw [u2]; exact h4, by rw [o165, u2]; exact hu5, h6'.cg (by rw [o165]) u2 (hO 186 (Or.inr (by decide)) (by decide) (by decide) (by decide)) (fun i a b => hO i (Or.inl (by omega)) (by omega) (by omega) (by omega)), h7.cg (by rw [o183]) (hf 4 (by decide) (by decide) (by decide) (by decide) (by decide)) (hO 187 (Or.inr (by decide)) (by decide) (by decide) (by decide)) (fun i a b => hO i (Or.inl (by omega)) (by omega) (by omega) (by omega)), txs0 (by rw [o2 177 (by decide) (by decide) (by decide)]; exact z0) o7, h9.cg (by rw [o183]) (by rw [o183]) (by rw [o183]) o11 o12 o13, h10.cg (hO 182 (Or.inr (by decide)) (by decide) (by decide) (by decide)) (hO 190 (Or.inr (by decide)) (by decide) (by decide) (by decide)) (hf 10 (by decide) (by decide) (by decide) (by decide) (by decide))⟩
    · exfalso
      rcases a1 with a1 | a1
      · exact a1 b1
      · have := a1.2.1
        omega
  · rcases hB with ⟨b1, -⟩ | ⟨b1, b2, bR⟩
    · exfalso
      rcases b1 with b1 | b1
      · exact b1 a1
      · have := b1.2.1
        omega
    · rcases aR with ⟨v, v1, v2, v3, ax, aB, g8, g9, g10, gf, gr⟩ | ⟨v2, ax, aB, aK, g1, g2, gr⟩
      · rcases bR with ⟨w, w1, w2, w3, bx, ⟨o1, o2, o3, o7⟩, o11, o12, o13⟩ | ⟨w2, -⟩
        · have evw : v = w := by
            rcases Nat.lt_trichotomy v w with q | q | q
            · exact absurd (w2 v q) v3
            · exact q
            · exact absurd (v2 w q) w3
          subst evw
          have hO : ∀ i, sl M i → RB5 i → i ≠ 183 → i ≠ 184 → i ≠ 185 → i ≠ 188 → O i = M i := fun i s a z b c d => by rw [o2 i b c d, gr i s a z]
          have hf : ∀ f : Int, f ≠ 7 → f ≠ 8 → f ≠ 11 → f ≠ 12 → f ≠ 13 → O 184 f = M 184 f := fun f a b c d e => by rw [o3 f a b c d e, n184]
          have o165 := hO 165 (sl_out h3 (by decide)) (Or.inl (by decide)) (by decide) (by decide) (by decide) (by decide)
          have o183 := o2 183 (by decide) (by decide) (by decide)
          have u2 := hf 2 (by decide) (by decide) (by decide) (by decide) (by decide)
          have r7 := reS_R (apN (M 185) (M 189) (M 184 7) v) (hereS (M 189) (M 184 7) (ep (M 189) (M 184 7) v)) (eSt (M 189) (M 184 7) (ep (M 189) (M 184 7) v)) (ePa (M 189) (M 184 7) (ep (M 189) (M 184 7) v)) (eRw (M 189) (M 184 7) (ep (M 189) (M 184 7) v))
          refine ⟨ax.trans bx.symm, by rw [o1]; exact h1, by rw [o1]; exact aB.congr (fun i hi => o2 i (by omega) (by omega) (by omega)), by rw [o165]; exact h3, by rw [u2]; exact h4, by rw [o165, u2]; exact hu5, h6'.cgS h3 h4 (by rw [o165]) u2 (hO 186 (sl_out h3 (by decide)) (Or.inr (by decide)) (by decide) (by decide) (by decide) (by decide)) (fun i a b c => hO i ⟨by omega, c⟩ (Or.inl (by omega)) (by omega) (by omega) (by omega) (by omega)), h7.cg (by rw [o183]; exact gf 2 (by decide) (by decide) (by decide)) (hf 4 (by decide) (by decide) (by decide) (by decide) (by decide)) (hO 187 (sl_out h3 (by decide)) (Or.inr (by decide)) (by decide) (by decide) (by decide) (by decide)) (fun i a b => hO i ⟨by omega, Or.inl (by omega)⟩ (Or.inl (by omega)) (by omega) (by omega) (by omega) (by omega)), txs0 (by rw [o2 177 (by decide) (by decide) (by decide)]; exact z0) o7, ⟨by rw [o183, g8, o11], by rw [o183, g9, o12], by rw [o183, g10, o13], ?_, ?_⟩, h10.cg (hO 182 (sl_out h3 (by decide)) (Or.inr (by decide)) (by decide) (by decide) (by decide) (by decide)) (hO 190 (sl_out h3 (by decide)) (Or.inr (by decide)) (by decide) (by decide) (by decide) (by decide)) (hf 10 (by decide) (by decide) (by decide) (by decide) (by decide))⟩
          · rw [o11]; exact r7.1
          · rw [o11]; exact r7.2
        · exact absurd (w2 v v1) v3
      · rcases bR with ⟨w, w1, w2, w3, -⟩ | ⟨w2, bx, o1, oK, o2, o3, o7⟩
        · exact absurd (v2 w w1) w3
        · have hS : SI (apN (M 185) (M 189) (M 184 7) (c + 1)) := apN_SI h1 (c + 1) (fun j hj => by
            refine ⟨?_, v2 j (by omega)⟩
            by_cases q : j < c
            · exact (hc j q).1
            · have e : j = c := by omega
              rw [e]; exact a1)
          have hK : KP M O (M 185) := oK.cg (by rw [n184]) n186
          have u1 := hK.u h4
          have hO : ∀ i, sl M i → RB5 i → i ≠ 165 → i ≠ 184 → i ≠ 185 → i ≠ 186 → i ≠ 188 → O i = M i := fun i s a z b c e d => by rw [o2 i b c e d, gr i s a z]
          have hf : ∀ f : Int, f ≠ 2 → f ≠ 7 → f ≠ 8 → O 184 f = M 184 f := fun f a b c => by rw [o3 f a b c, n184]
          have o165 := o2 165 (by decide) (by decide) (by decide) (by decide)
          have o183 := hO 183 (sl_out h3 (by decide)) (Or.inr (by decide)) (by decide) (by decide) (by decide) (by decide) (by decide)
          refine ⟨ax.trans bx.symm, by rw [o1]; exact hS, by rw [o1]; exact aB.congr (fun i hi => o2 i (by omega) (by omega) (by omega) (by omega)), by rw [o165, g1]; omega, by rw [u1]; omega, by rw [o165, g2, u1, hu5], his_push h6' h3 h4 h1 (by rw [o165, g1]) (aK.congr (fun i a b => o2 i (by omega) (by omega) (by omega) (by omega))) (fun i a b c => hO i ⟨by omega, c⟩ (Or.inl (by omega)) (by omega) (by omega) (by omega) (by omega) (by omega)) hK, h7.cg (by rw [o183]) (hf 4 (by decide) (by decide) (by decide)) (hO 187 (sl_out h3 (by decide)) (Or.inr (by decide)) (by decide) (by decide) (by decide) (by decide) (by decide)) (fun i a b => hO i ⟨by omega, Or.inl (by omega)⟩ (Or.inl (by omega)) (by omega) (by omega) (by omega) (by omega) (by omega)), txs0 (by rw [o2 177 (by decide) (by decide) (by decide) (by decide)]; exact z0) o7, h9.cg (by rw [o183]) (by rw [o183]) (by rw [o183]) (hf 11 (by decide) (by decide) (by decide)) (hf 12 (by decide) (by decide) (by decide)) (hf 13 (by decide) (by decide) (by decide)), h10.cg (hO 182 (sl_out h3 (by decide)) (Or.inr (by decide)) (by decide) (by decide) (by decide) (by decide) (by decide)) (hO 190 (sl_out h3 (by decide)) (Or.inr (by decide)) (by decide) (by decide) (by decide) (by decide) (by decide)) (hf 10 (by decide) (by decide) (by decide))⟩
end PR
