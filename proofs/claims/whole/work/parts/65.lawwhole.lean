/-! the law from its entry: the two objects are made, and the loop begins -/
theorem z5_0 {j : Int} (h : 5 ≤ j) : z5 j = 0 := by
  unfold z5
  rw [if_neg (by omega), if_neg (by omega), if_neg (by omega), if_neg (by omega), if_neg (by omega)]
theorem SI0 : SI z5 := by
  have c5 : z5 5 = 0 := rfl
  have c6 : z5 6 = 0 := rfl
  have c7 : z5 7 = 0 := rfl
  have c8 : z5 8 = 0 := rfl
  have hok : SOK z5 := by
    refine ⟨by decide, fun m a b => ?_, fun p a b => ?_, fun s a b => ?_, fun s p a b => ?_, fun p q a b => ?_⟩
    · rw [c5] at b; exact absurd b (by omega)
    · rw [c6] at b; exact absurd b (by omega)
    · rw [c7] at b; exact absurd b (by omega)
    · rw [c7] at b; exact absurd b (by omega)
    · rw [c6] at b; exact absurd b (by omega)
  refine ⟨⟨hok, fun j a b => ?_, fun i j a b c => ?_, fun a b c d => ?_⟩, fun a b c d => ?_, fun s p a b => ?_, fun p q a b c d => ?_⟩
  · rw [c8] at b; exact absurd b (by omega)
  · rw [c8] at c; exact absurd c (by omega)
  · exact absurd (z5_0 (by omega)) d
  · exact z5_0 (by omega)
  · rw [c7] at b; exact absurd b (by omega)
  · rw [c6] at a
    exact ⟨z5_0 (by omega), z5_0 (by omega)⟩
theorem BD0 : BD M0 z5 := by
  have c5 : z5 5 = 0 := rfl
  have c6 : z5 6 = 0 := rfl
  have c7 : z5 7 = 0 := rfl
  have c8 : z5 8 = 0 := rfl
  have zb : ∀ t : Nat, t < 15 → ¬ t = 1 → ¬ t = 9 → ∀ x : Int, M0 (0 + t) x = 0 := fun t h0 h1 h9 x => by
    have g := M0_b (k := 0) (by decide) h0 h1 h9
    rw [Nat.mul_zero] at g
    rw [g]
  refine ⟨⟨rfl, rfl, rfl, rfl⟩, fun j a b => rfl, fun m a b => ?_, fun p a b => ?_, fun s a b => ?_, fun a b c => ?_, fun a b c => ?_, fun i a b => ?_, fun q a b => ?_, fun p q a b c d => ?_⟩
  · rw [c5] at b; exact absurd b (by omega)
  · rw [c6] at b; exact absurd b (by omega)
  · rw [c7] at b; exact absurd b (by omega)
  · rw [zb 7 (by decide) (by decide) (by decide), zb 8 (by decide) (by decide) (by decide), z5_0 (by omega), z5_0 (by omega)]
    exact ⟨rfl, rfl⟩
  · rw [c7, if_neg (by omega)]
    show (if a < 160 then (-1 : Int) else 0) = -1
    exact if_pos c
  · rw [c8] at b; exact absurd b (by omega)
  · rw [zb 11 (by decide) (by decide) (by decide), zb 12 (by decide) (by decide) (by decide), z5_0 (by omega), z5_0 (by omega)]
    exact ⟨rfl, rfl⟩
  · rw [zb 13 (by decide) (by decide) (by decide), zb 14 (by decide) (by decide) (by decide)]
    exact ⟨rfl, rfl⟩
theorem IV0 : IV M0 := by
  refine ⟨SI0, BD0, ⟨by decide, by decide⟩, ⟨by decide, by decide⟩, rfl, fun j a b => ?_, ⟨rfl, fun q => absurd rfl q⟩, txs0 rfl rfl, ⟨rfl, rfl, rfl, by decide, by decide⟩, [], ⟨rfl, fun k a b => ?_⟩, ⟨rfl, fun k a b => ?_⟩, by decide⟩
  · exact absurd b (by show ¬ j < (0 : Int); omega)
  · exact absurd b (by show ¬ k < ((0 : Nat) : Int); omega)
  · exact absurd b (by show ¬ k < ((0 : Nat) : Int); omega)

theorem adW_t {b1 b2 : Nat → Nat} {h hq : Nat} {ads : Nat → Nat → Nat} {t1 t2 t3 t4 : Nat → Nat} {a : Nat} {mm tS : Nat → Nat} {i : Nat} (hi : 198 ≤ i) : adW b1 b2 h hq ads t1 t2 t3 t4 a mm tS i = tS i := by
  unfold adW
  rw [if_neg (by omega), if_neg (by omega), if_neg (by omega), if_neg (by omega), if_neg (by omega), if_neg (by omega), if_neg (by omega), if_neg (by omega), if_neg (by omega), if_neg (by omega), if_neg (by omega), if_neg (by omega), if_neg (by omega)]
set_option maxHeartbeats 4000000 in
/-- from the entry, for every script of at most 2560 ints, the law comes to its end with true -/
theorem whole_start {p : Program} {e : Env} {s : State} {m : MethodId} {below : List Frame} {meth : Method} {c : Code} (l : Launch) (hflags : l.flags = flags0) {b L : Nat} {xs : Nat → Int32} (hL : L ≤ 2560) (C0 : lw_At p s m meth c b L xs) : W p l e room_1 s m #[Value.ref b] below meth c s.heap [] 0 0 (lw_Z below #[Value.ref b] s) (entryFrame m ([Value.ref b] : List Value).toArray 4) := by
  obtain ⟨D, cAf, t, hAO, hE⟩ := sw_start C0
  obtain ⟨hx, hb0, hr, hml, hown, hts, hX, hbl, hlocks, hgv⟩ := C0
  have E := hE t (fun i _ _ => rfl)
  have hc1 : ∀ v ∈ ([Value.ref b] : List Value), v.category = 1 := fun v hv => by rw [List.mem_singleton.mp hv]; rfl
  rw [entry_eq m [Value.ref b] hc1 4]
  have K : GW (D, cAf, t, s.heap.size) p l e room_1 s m #[Value.ref b] below meth c (lw_Z below #[Value.ref b] s) 0 [some (.ref b), none, none, none] [] [] 0 0 := by
    refine w_newO (pc := 0) (ci := 6) (N := 11) (fs := [.null, .null, .int 0, .null, .null, .null, .null, .null, .int 0, .int 0, .int 0]) E dL_law_0 clX5 (big_at 81 (by decide +kernel) (by decide +kernel)) (big_at 82 (by decide +kernel) (by decide +kernel)) (big_at 62 (by decide +kernel) (by decide +kernel)) (fun j hj => by rcases (show j = 0 ∨ j = 1 ∨ j = 2 ∨ j = 3 ∨ j = 4 ∨ j = 5 ∨ j = 6 ∨ j = 7 ∨ j = 8 ∨ j = 9 ∨ j = 10 by omega) with rfl | rfl | rfl | rfl | rfl | rfl | rfl | rfl | rfl | rfl | rfl <;> rfl) ⟨by omega, by omega⟩ (fun a => ?_)
    refine w_dup (pc := 3) E dL_law_3 rfl ?_
    refine w_callIK (pc := 4) (As := []) E hAO dL_law_4 ⟨⟨by decide +kernel, by decide +kernel, by decide +kernel⟩, big_at 62 (by decide +kernel) (by decide +kernel)⟩ (big_at 83 (by decide +kernel) (by decide +kernel)) (big_at 84 (by decide +kernel) (by decide +kernel)) rfl (ck_X5 (pre := [])) rfl rfl (by decide) (Nat.le_of_ble_eq_true rfl) rfl (Nat.le_of_ble_eq_true rfl) ⟨by omega, by omega⟩ (fun w hw => ?_)
    obtain ⟨b1, b2, h, hq, ads, t1, t2, t3, t4, rfl⟩ := hw
    refine w_astore_n (pc := 7) (ls' := [some (.ref b), some (.ref a), none, none]) E dL_law_7 (i := 1) rfl (Nat.le_of_ble_eq_true rfl) rfl ?_
    refine w_newO (pc := 8) (ci := 7) (N := 27) (fs := [.null, .null, .int 0, .null, .int 0, .null, .null, .int 0, .int 0, .null, .int 0, .int 0, .int 0, .int 0, .null, .null, .null, .null, .int 0, .int 0, .int 0, .int 0, .int 0, .int 0, .null, .null, .null]) E dL_law_8 clX6 (big_at 1096 (by decide +kernel) (by decide +kernel)) (big_at 1097 (by decide +kernel) (by decide +kernel)) (big_at 72 (by decide +kernel) (by decide +kernel)) (fun j hj => by rcases (show j = 0 ∨ j = 1 ∨ j = 2 ∨ j = 3 ∨ j = 4 ∨ j = 5 ∨ j = 6 ∨ j = 7 ∨ j = 8 ∨ j = 9 ∨ j = 10 ∨ j = 11 ∨ j = 12 ∨ j = 13 ∨ j = 14 ∨ j = 15 ∨ j = 16 ∨ j = 17 ∨ j = 18 ∨ j = 19 ∨ j = 20 ∨ j = 21 ∨ j = 22 ∨ j = 23 ∨ j = 24 ∨ j = 25 ∨ j = 26 by omega) with rfl | rfl | rfl | rfl | rfl | rfl | rfl | rfl | rfl | rfl | rfl | rfl | rfl | rfl | rfl | rfl | rfl | rfl | rfl | rfl | rfl | rfl | rfl | rfl | rfl | rfl | rfl <;> rfl) ⟨by omega, by omega⟩ (fun a6 => ?_)
    refine w_dup (pc := 11) E dL_law_11 rfl ?_
    refine w_callI (pc := 12) (i := 0) (ci := 0) (fs := []) (q := ("", TJ4, 0)) (As := []) E dL_law_12 ⟨⟨by decide +kernel, by decide +kernel, by decide +kernel⟩, big_at 72 (by decide +kernel) (by decide +kernel)⟩ (big_at 1098 (by decide +kernel) (by decide +kernel)) (big_at 1099 (by decide +kernel) (by decide +kernel)) rfl (ck_X6 (pre := [] ++ (x5o a b1 b2 h t1 t2 t3 t4 :: ((((((bdL (D, cAf, t, s.heap.size) b1 ++ bdL (D, cAf, t, s.heap.size) b2) ++ hiL (D, cAf, t, s.heap.size) h hq ads) ++ stL (D, cAf, t, s.heap.size) t1) ++ raL (D, cAf, t, s.heap.size) t2) ++ etL (D, cAf, t, s.heap.size) t3) ++ sbL (D, cAf, t, s.heap.size) t4)))) rfl rfl (by decide) (Nat.le_of_ble_eq_true rfl) rfl (Nat.le_of_ble_eq_true rfl) ⟨by omega, by omega⟩ (fun w hw => ?_)
    obtain ⟨q1, q2, q3, q4, q5, q6, q7, q8, q9, q10, q11, q12, q13, hw⟩ := hw
    obtain ⟨mm, hm⟩ : ∃ mm : Nat → Nat, mm = (fun k => [a6, q1, q2, q3, q4, q5, q6, q7, q8, q9, q10, q11, q12, q13].getD k 0) := ⟨_, rfl⟩
    have e0 : a6 = mm 0 := by subst hm; rfl
    have e1 : w = nwL (D, cAf, t, s.heap.size) b1 b2 h hq ads t1 t2 t3 t4 a mm := by subst hm; exact hw
    clear hw hm
    subst e1
    subst e0
    refine w_astore_n (pc := 15) (ls' := [some (.ref b), some (.ref a), some (.ref (mm 0)), none]) E dL_law_15 (i := 2) rfl (Nat.le_of_ble_eq_true rfl) rfl ?_
    intro H lsA locs hP hD hS hLs
    have E2 := hE (adW b1 b2 h hq ads t1 t2 t3 t4 a mm t) (fun i h1 h2 => adW_t h1)
    have hI := nw_InH (tS := t) hP hD
    have KG : G (D, cAf, adW b1 b2 h hq ads t1 t2 t3 t4 a mm t, s.heap.size) p l e room_1 s m #[Value.ref b] below meth c (lw_Z below #[Value.ref b] s) 16 [some (.ref b), some (rf (D, cAf, adW b1 b2 h hq ads t1 t2 t3 t4 a mm t, s.heap.size) 183), some (rf (D, cAf, adW b1 b2 h hq ads t1 t2 t3 t4 a mm t, s.heap.size) 184), none] [] M0 (0 + 1 + 185 + 1 + 13) (0 + 11 + 9136 + 27 + 8439) := by
      refine g_iconst (pc := 16) E2 dL_law_16 rfl ?_
      refine g_istore_n (pc := 17) (i := 3) (ls' := lwl (D, cAf, adW b1 b2 h hq ads t1 t2 t3 t4 a mm t, s.heap.size) b 0) E2 dL_law_17 rfl (Nat.le_of_ble_eq_true rfl) rfl ?_
      exact lw_loop E2 hr hlocks hX hbl hL rfl 512 0 M0 _ _ (by decide) (by decide) (by omega) (by decide) (by decide) IV0
    exact KG H lsA locs hI hS hLs
  exact K s.heap _ [] (fun k q h => by simp at h) ⟨fun i j p q h => by simp at h, fun k q h => by simp at h⟩ va_S.rf (lv_entry_ok [Value.ref b] (Nat.le_of_ble_eq_true rfl) hc1)
