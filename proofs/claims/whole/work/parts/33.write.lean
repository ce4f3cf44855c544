/-! records as texts: lists of letters; the reference's writing -/
def dgL (v : Int) : List Int := if v ≤ 9 then [48 + v] else if v ≤ 99 then [48 + v / 10, 48 + v % 10] else [48 + v / 100, 48 + v / 10 % 10, 48 + v % 10]
theorem dgL_len (v : Int) : (dgL v).length ≤ 3 := by
  unfold dgL
  (repeat' split) <;> simp
theorem dg1 {v : Int} (h : v ≤ 9) : (dgL v).length = 1 := by unfold dgL; rw [if_pos h]; rfl
theorem dg2 {v : Int} (h : 10 ≤ v) (h2 : v ≤ 99) : (dgL v).length = 2 := by unfold dgL; rw [if_neg (by omega), if_pos h2]; rfl
/-- letter k of a list -/
def gI (L : List Int) (k : Int) : Int := L.getD k.toNat 0
theorem gI_lo {L K : List Int} {k : Int} (h0 : 0 ≤ k) (h : k < L.length) : gI (L ++ K) k = gI L k := by
  unfold gI
  rw [List.getD_eq_getElem?_getD, List.getD_eq_getElem?_getD, List.getElem?_append_left (by omega)]
theorem gI_at (L : List Int) (v : Int) : gI (L ++ [v]) (L.length : Int) = v := by
  unfold gI
  rw [List.getD_eq_getElem?_getD, Int.toNat_natCast, List.getElem?_append_right (Nat.le_refl _), Nat.sub_self]
  rfl
/-- the reference's record text is L -/
def MT (N : Mem) (L : List Int) : Prop := N 184 10 = L.length ∧ ∀ k : Int, 0 ≤ k → k < L.length → N 190 k = gI L k
def WF (M N : Mem) : Prop := (∀ i, i ≠ 184 → i ≠ 190 → N i = M i) ∧ ∀ f : Int, f ≠ 10 → N 184 f = M 184 f
theorem WF.rf (M : Mem) : WF M M := ⟨fun _ _ _ => rfl, fun _ _ => rfl⟩
theorem WF.tr {M N O : Mem} (h : WF M N) (g : WF N O) : WF M O := ⟨fun i a b => (g.1 i a b).trans (h.1 i a b), fun f a => (g.2 f a).trans (h.2 f a)⟩
theorem WF.e5 {M N : Mem} {S : Int → Int} (h : WF M N) (e : M 185 = S) : N 185 = S := (h.1 185 (by decide) (by decide)).trans e
/-- a letter more -/
theorem MT_put {N : Mem} {L : List Int} {n v n1 : Int} (h : MT N L) (e : N 184 10 = n) (e1 : n1 = n + 1) : MT (st (st N 184 10 n1) 190 n v) (L ++ [v]) ∧ WF N (st (st N 184 10 n1) 190 n v) := by
  obtain ⟨h1, h2⟩ := h
  have hn : n = L.length := e.symm.trans h1
  refine ⟨⟨?_, fun k h0 hk => ?_⟩, fun i a b => by rw [st_ne b, st_ne a], fun f a => by rw [st_ne (by decide), st_off a]⟩
  · rw [st_ne (by decide), st_self, e1, hn, List.length_append]; rfl
  · rw [List.length_append] at hk
    by_cases q : k = L.length
    · rw [hn, q, st_self, gI_at]
    · have hk2 : k < L.length := by
        have : ([v] : List Int).length = 1 := rfl
        omega
      rw [st_off (by omega), st_ne (by decide), h2 k h0 hk2, gI_lo h0 hk2]
theorem MT_0 (N : Mem) : MT (st N 184 10 0) [] := ⟨st_self _ _ _ _, fun k a b => by
  have : (([] : List Int).length : Int) = 0 := rfl
  omega⟩
/-- the record of student s -/
def wlN (S : Int → Int) (s : Int) : Nat → List Int
  | 0 => []
  | k + 1 => if mkS S s k < 0 then wlN S s k else (((wlN S s k ++ (if 0 < (wlN S s k).length then [59] else [])) ++ dgL k ++ [58]) ++ dgL (mkS S s k)) ++ (if scS S s k < agS S s k then [114] else []) ++ (if stA S (lkM S s (-1) 0) k = 2 then [99] else if stA S (lkM S s (-1) 0) k = 3 then [102] else [])
def wlS (S : Int → Int) (s : Int) : List Int := wlN S s (S 6).toNat
theorem wlN_len (S : Int → Int) (s : Int) : ∀ k : Nat, (k : Int) ≤ 8 → ((wlN S s k).length : Int) ≤ 8 * k
  | 0, _ => Int.le_refl _
  | k + 1, hk => by
    have h := wlN_len S s k (by omega)
    unfold wlN
    split
    · omega
    · have h1 : (dgL (k : Int)).length = 1 := by unfold dgL; rw [if_pos (by omega)]; rfl
      have h2 := dgL_len (mkS S s k)
      simp only [List.length_append, h1]
      have h3 : (if 0 < (wlN S s k).length then [(59 : Int)] else []).length ≤ 1 := by split <;> decide
      have h4 : (if scS S s k < agS S s k then [(114 : Int)] else []).length ≤ 1 := by split <;> decide
      have h5 : (if stA S (lkM S s (-1) 0) k = 2 then [(99 : Int)] else if stA S (lkM S s (-1) 0) k = 3 then [102] else []).length ≤ 1 := by (repeat' split) <;> decide
      have h6 : ([58] : List Int).length = 1 := rfl
      omega

theorem cv_writes11 {cx : Cx} {M : Mem} {L : List Int} {v : Int} (hL : MT M L) (hl : (L.length : Int) ≤ 77) (hv0 : 0 ≤ v) (hv1 : v ≤ 9) : Cv cx yX6_writes cX6_writes 2 1 0 0 [rf cx 184, .int (oi v)] M (fun M' => WF M M' ∧ MT M' (L ++ dgL v)) := by
  refine cv_intro cd_X6_writes (by decide +kernel) (Nat.le_of_ble_eq_true rfl) rfl (fun Pg Lc Ev s m args below meth c E hr => ?_)
  refine g_ent (ls' := [some (rf cx 184), some (.int (oi v))]) rfl ?_
  have hl1 := hL.1
  refine g_iload_n (pc := 0) E dX6_writes_0 (i := 1) rfl rfl ?_
  refine g_bipush (pc := 1) E dX6_writes_1 rfl ?_
  refine g_icmp_le (pc := 3) (tgt := 14) E dX6_writes_3 (by decide) (fun qh3 => ?_) (fun qh3 => absurd qh3 (by omega)) 
  refine g_aload_n (pc := 14) E dX6_writes_14 (i := 0) rfl rfl ?_
  refine g_getr (i := 184) (j := 190) (t := 6) (f := 9) (pc := 15) E dX6_writes_15 fl_X6_25 rfl (by decide) (by decide) rfl rfl ?_
  refine g_aload_n (pc := 18) E dX6_writes_18 (i := 0) rfl rfl ?_
  refine g_dup (pc := 19) E dX6_writes_19 rfl ?_
  refine g_geti (i := 184) (t := 6) (f := 10) (fz := 10) (pc := 20) E dX6_writes_20 fl_X6_231 rfl (by decide) (by decide) rfl rfl rfl (fun _ _ => ?_)
  refine g_dup_x1 (pc := 23) E dX6_writes_23 rfl rfl ?_
  refine g_iconst (pc := 24) E dX6_writes_24 rfl ?_
  refine g_iadd (pc := 25) E dX6_writes_25 ?_
  refine g_puti (i := 184) (t := 6) (f := 10) (fz := 10) (pc := 26) E dX6_writes_26 fl_X6_231 rfl (by decide) (by decide) rfl rfl ?_ 
  refine g_bipush (pc := 29) E dX6_writes_29 rfl ?_
  refine g_iload_n (pc := 31) E dX6_writes_31 (i := 1) rfl rfl ?_
  refine g_bipush (pc := 32) E dX6_writes_32 rfl ?_
  refine g_irem (pc := 34) E dX6_writes_34 (by omega) (by omega) (by omega) (by omega) ?_
  refine g_iadd (pc := 35) E dX6_writes_35 ?_
  refine g_iast (pc := 36) E dX6_writes_36 rfl (by omega) (by omega) ?_ 
  refine g_vret (pc := 37) E hr dX6_writes_37 ?_
  obtain ⟨hp, hf⟩ := MT_put (v := 48 + v % 10) hL rfl rfl
  refine ⟨hf, ?_⟩
  rw [show dgL v = [48 + v % 10] from by rw [dgL, if_pos (by omega), show v % 10 = v by omega]]
  exact hp

theorem cv_writes13 {cx : Cx} {M : Mem} {L : List Int} {v : Int} (hL : MT M L) (hl : (L.length : Int) ≤ 77) (hv0 : 0 ≤ v) (hv1 : v ≤ 9) : Cv cx yX6_writes cX6_writes 2 3 0 0 [rf cx 184, .int (oi v)] M (fun M' => WF M M' ∧ MT M' (L ++ dgL v)) := by
  refine cv_intro cd_X6_writes (by decide +kernel) (Nat.le_of_ble_eq_true rfl) rfl (fun Pg Lc Ev s m args below meth c E hr => ?_)
  refine g_ent (ls' := [some (rf cx 184), some (.int (oi v))]) rfl ?_
  have hl1 := hL.1
  refine g_iload_n (pc := 0) E dX6_writes_0 (i := 1) rfl rfl ?_
  refine g_bipush (pc := 1) E dX6_writes_1 rfl ?_
  refine g_icmp_le (pc := 3) (tgt := 14) E dX6_writes_3 (by decide) (fun qh3 => ?_) (fun qh3 => absurd qh3 (by omega)) 
  refine g_aload_n (pc := 14) E dX6_writes_14 (i := 0) rfl rfl ?_
  refine g_getr (i := 184) (j := 190) (t := 6) (f := 9) (pc := 15) E dX6_writes_15 fl_X6_25 rfl (by decide) (by decide) rfl rfl ?_
  refine g_aload_n (pc := 18) E dX6_writes_18 (i := 0) rfl rfl ?_
  refine g_dup (pc := 19) E dX6_writes_19 rfl ?_
  refine g_geti (i := 184) (t := 6) (f := 10) (fz := 10) (pc := 20) E dX6_writes_20 fl_X6_231 rfl (by decide) (by decide) rfl rfl rfl (fun _ _ => ?_)
  refine g_dup_x1 (pc := 23) E dX6_writes_23 rfl rfl ?_
  refine g_iconst (pc := 24) E dX6_writes_24 rfl ?_
  refine g_iadd (pc := 25) E dX6_writes_25 ?_
  refine g_puti (i := 184) (t := 6) (f := 10) (fz := 10) (pc := 26) E dX6_writes_26 fl_X6_231 rfl (by decide) (by decide) rfl rfl ?_ 
  refine g_bipush (pc := 29) E dX6_writes_29 rfl ?_
  refine g_iload_n (pc := 31) E dX6_writes_31 (i := 1) rfl rfl ?_
  refine g_bipush (pc := 32) E dX6_writes_32 rfl ?_
  refine g_irem (pc := 34) E dX6_writes_34 (by omega) (by omega) (by omega) (by omega) ?_
  refine g_iadd (pc := 35) E dX6_writes_35 ?_
  refine g_iast (pc := 36) E dX6_writes_36 rfl (by omega) (by omega) ?_ 
  refine g_vret (pc := 37) E hr dX6_writes_37 ?_
  obtain ⟨hp, hf⟩ := MT_put (v := 48 + v % 10) hL rfl rfl
  refine ⟨hf, ?_⟩
  rw [show dgL v = [48 + v % 10] from by rw [dgL, if_pos (by omega), show v % 10 = v by omega]]
  exact hp

theorem cv_writes22 {cx : Cx} {M : Mem} {L : List Int} {v : Int} (hL : MT M L) (hl : (L.length : Int) ≤ 77) (hv0 : 0 ≤ v) (hv1 : v ≤ 99) (hv2 : 10 ≤ v) : Cv cx yX6_writes cX6_writes 2 2 0 0 [rf cx 184, .int (oi v)] M (fun M' => WF M M' ∧ MT M' (L ++ dgL v)) := by
  refine cv_intro cd_X6_writes (by decide +kernel) (Nat.le_of_ble_eq_true rfl) rfl (fun Pg Lc Ev s m args below meth c E hr => ?_)
  refine g_ent (ls' := [some (rf cx 184), some (.int (oi v))]) rfl ?_
  have hl1 := hL.1
  refine g_iload_n (pc := 0) E dX6_writes_0 (i := 1) rfl rfl ?_
  refine g_bipush (pc := 1) E dX6_writes_1 rfl ?_
  refine g_icmp_le (pc := 3) (tgt := 14) E dX6_writes_3 (by decide) (fun qh3 => absurd qh3 (by omega)) (fun qh3 => ?_) 
  refine g_aload_n (pc := 6) E dX6_writes_6 (i := 0) rfl rfl ?_
  refine g_iload_n (pc := 7) E dX6_writes_7 (i := 1) rfl rfl ?_
  refine g_bipush (pc := 8) E dX6_writes_8 rfl ?_
  refine g_idiv (pc := 10) E dX6_writes_10 (by omega) (by omega) (by omega) (by omega) ?_
  refine g_callVv (pc := 11) (As := [_]) E dX6_writes_11 ml_X6_227 (cv_writes11 hL hl (by omega) (by omega)) rfl rfl rfl rfl (by decide) (by decide) rfl (Nat.le_of_ble_eq_true rfl) (by decide) (fun M11 hM11 => ?_)
  obtain ⟨hw11, hL11⟩ := hM11
  have hl2 := hL11.1
  have hlen := dg1 (show v / 10 ≤ 9 by omega)
  rw [List.length_append] at hl2
  refine g_aload_n (pc := 14) E dX6_writes_14 (i := 0) rfl rfl ?_
  refine g_getr (i := 184) (j := 190) (t := 6) (f := 9) (pc := 15) E dX6_writes_15 fl_X6_25 rfl (by decide) (by decide) rfl rfl ?_
  refine g_aload_n (pc := 18) E dX6_writes_18 (i := 0) rfl rfl ?_
  refine g_dup (pc := 19) E dX6_writes_19 rfl ?_
  refine g_geti (i := 184) (t := 6) (f := 10) (fz := 10) (pc := 20) E dX6_writes_20 fl_X6_231 rfl (by decide) (by decide) rfl rfl rfl (fun _ _ => ?_)
  refine g_dup_x1 (pc := 23) E dX6_writes_23 rfl rfl ?_
  refine g_iconst (pc := 24) E dX6_writes_24 rfl ?_
  refine g_iadd (pc := 25) E dX6_writes_25 ?_
  refine g_puti (i := 184) (t := 6) (f := 10) (fz := 10) (pc := 26) E dX6_writes_26 fl_X6_231 rfl (by decide) (by decide) rfl rfl ?_ 
  refine g_bipush (pc := 29) E dX6_writes_29 rfl ?_
  refine g_iload_n (pc := 31) E dX6_writes_31 (i := 1) rfl rfl ?_
  refine g_bipush (pc := 32) E dX6_writes_32 rfl ?_
  refine g_irem (pc := 34) E dX6_writes_34 (by omega) (by omega) (by omega) (by omega) ?_
  refine g_iadd (pc := 35) E dX6_writes_35 ?_
  refine g_iast (pc := 36) E dX6_writes_36 rfl (by omega) (by omega) ?_ 
  refine g_vret (pc := 37) E hr dX6_writes_37 ?_
  obtain ⟨hp, hf⟩ := MT_put (v := 48 + v % 10) hL11 rfl rfl
  refine ⟨hw11.tr hf, ?_⟩
  rw [show dgL v = dgL (v / 10) ++ [48 + v % 10] from by rw [dgL, if_neg (by omega), if_pos (by omega), dgL, if_pos (by omega)]; rfl, ← List.append_assoc]
  exact hp

theorem cv_writes23 {cx : Cx} {M : Mem} {L : List Int} {v : Int} (hL : MT M L) (hl : (L.length : Int) ≤ 77) (hv0 : 0 ≤ v) (hv1 : v ≤ 99) (hv2 : 10 ≤ v) : Cv cx yX6_writes cX6_writes 2 3 0 0 [rf cx 184, .int (oi v)] M (fun M' => WF M M' ∧ MT M' (L ++ dgL v)) := by
  refine cv_intro cd_X6_writes (by decide +kernel) (Nat.le_of_ble_eq_true rfl) rfl (fun Pg Lc Ev s m args below meth c E hr => ?_)
  refine g_ent (ls' := [some (rf cx 184), some (.int (oi v))]) rfl ?_
  have hl1 := hL.1
  refine g_iload_n (pc := 0) E dX6_writes_0 (i := 1) rfl rfl ?_
  refine g_bipush (pc := 1) E dX6_writes_1 rfl ?_
  refine g_icmp_le (pc := 3) (tgt := 14) E dX6_writes_3 (by decide) (fun qh3 => absurd qh3 (by omega)) (fun qh3 => ?_) 
  refine g_aload_n (pc := 6) E dX6_writes_6 (i := 0) rfl rfl ?_
  refine g_iload_n (pc := 7) E dX6_writes_7 (i := 1) rfl rfl ?_
  refine g_bipush (pc := 8) E dX6_writes_8 rfl ?_
  refine g_idiv (pc := 10) E dX6_writes_10 (by omega) (by omega) (by omega) (by omega) ?_
  refine g_callVv (pc := 11) (As := [_]) E dX6_writes_11 ml_X6_227 (cv_writes11 hL hl (by omega) (by omega)) rfl rfl rfl rfl (by decide) (by decide) rfl (Nat.le_of_ble_eq_true rfl) (by decide) (fun M11 hM11 => ?_)
  obtain ⟨hw11, hL11⟩ := hM11
  have hl2 := hL11.1
  have hlen := dg1 (show v / 10 ≤ 9 by omega)
  rw [List.length_append] at hl2
  refine g_aload_n (pc := 14) E dX6_writes_14 (i := 0) rfl rfl ?_
  refine g_getr (i := 184) (j := 190) (t := 6) (f := 9) (pc := 15) E dX6_writes_15 fl_X6_25 rfl (by decide) (by decide) rfl rfl ?_
  refine g_aload_n (pc := 18) E dX6_writes_18 (i := 0) rfl rfl ?_
  refine g_dup (pc := 19) E dX6_writes_19 rfl ?_
  refine g_geti (i := 184) (t := 6) (f := 10) (fz := 10) (pc := 20) E dX6_writes_20 fl_X6_231 rfl (by decide) (by decide) rfl rfl rfl (fun _ _ => ?_)
  refine g_dup_x1 (pc := 23) E dX6_writes_23 rfl rfl ?_
  refine g_iconst (pc := 24) E dX6_writes_24 rfl ?_
  refine g_iadd (pc := 25) E dX6_writes_25 ?_
  refine g_puti (i := 184) (t := 6) (f := 10) (fz := 10) (pc := 26) E dX6_writes_26 fl_X6_231 rfl (by decide) (by decide) rfl rfl ?_ 
  refine g_bipush (pc := 29) E dX6_writes_29 rfl ?_
  refine g_iload_n (pc := 31) E dX6_writes_31 (i := 1) rfl rfl ?_
  refine g_bipush (pc := 32) E dX6_writes_32 rfl ?_
  refine g_irem (pc := 34) E dX6_writes_34 (by omega) (by omega) (by omega) (by omega) ?_
  refine g_iadd (pc := 35) E dX6_writes_35 ?_
  refine g_iast (pc := 36) E dX6_writes_36 rfl (by omega) (by omega) ?_ 
  refine g_vret (pc := 37) E hr dX6_writes_37 ?_
  obtain ⟨hp, hf⟩ := MT_put (v := 48 + v % 10) hL11 rfl rfl
  refine ⟨hw11.tr hf, ?_⟩
  rw [show dgL v = dgL (v / 10) ++ [48 + v % 10] from by rw [dgL, if_neg (by omega), if_pos (by omega), dgL, if_pos (by omega)]; rfl, ← List.append_assoc]
  exact hp

theorem cv_writes33 {cx : Cx} {M : Mem} {L : List Int} {v : Int} (hL : MT M L) (hl : (L.length : Int) ≤ 77) (hv0 : 0 ≤ v) (hv1 : v ≤ 999) (hv2 : 100 ≤ v) : Cv cx yX6_writes cX6_writes 2 3 0 0 [rf cx 184, .int (oi v)] M (fun M' => WF M M' ∧ MT M' (L ++ dgL v)) := by
  refine cv_intro cd_X6_writes (by decide +kernel) (Nat.le_of_ble_eq_true rfl) rfl (fun Pg Lc Ev s m args below meth c E hr => ?_)
  refine g_ent (ls' := [some (rf cx 184), some (.int (oi v))]) rfl ?_
  have hl1 := hL.1
  refine g_iload_n (pc := 0) E dX6_writes_0 (i := 1) rfl rfl ?_
  refine g_bipush (pc := 1) E dX6_writes_1 rfl ?_
  refine g_icmp_le (pc := 3) (tgt := 14) E dX6_writes_3 (by decide) (fun qh3 => absurd qh3 (by omega)) (fun qh3 => ?_) 
  refine g_aload_n (pc := 6) E dX6_writes_6 (i := 0) rfl rfl ?_
  refine g_iload_n (pc := 7) E dX6_writes_7 (i := 1) rfl rfl ?_
  refine g_bipush (pc := 8) E dX6_writes_8 rfl ?_
  refine g_idiv (pc := 10) E dX6_writes_10 (by omega) (by omega) (by omega) (by omega) ?_
  refine g_callVv (pc := 11) (As := [_]) E dX6_writes_11 ml_X6_227 (cv_writes22 hL hl (by omega) (by omega) (by omega)) rfl rfl rfl rfl (by decide) (by decide) rfl (Nat.le_of_ble_eq_true rfl) (by decide) (fun M11 hM11 => ?_)
  obtain ⟨hw11, hL11⟩ := hM11
  have hl2 := hL11.1
  have hlen := dg2 (show 10 ≤ v / 10 by omega) (by omega)
  rw [List.length_append] at hl2
  refine g_aload_n (pc := 14) E dX6_writes_14 (i := 0) rfl rfl ?_
  refine g_getr (i := 184) (j := 190) (t := 6) (f := 9) (pc := 15) E dX6_writes_15 fl_X6_25 rfl (by decide) (by decide) rfl rfl ?_
  refine g_aload_n (pc := 18) E dX6_writes_18 (i := 0) rfl rfl ?_
  refine g_dup (pc := 19) E dX6_writes_19 rfl ?_
  refine g_geti (i := 184) (t := 6) (f := 10) (fz := 10) (pc := 20) E dX6_writes_20 fl_X6_231 rfl (by decide) (by decide) rfl rfl rfl (fun _ _ => ?_)
  refine g_dup_x1 (pc := 23) E dX6_writes_23 rfl rfl ?_
  refine g_iconst (pc := 24) E dX6_writes_24 rfl ?_
  refine g_iadd (pc := 25) E dX6_writes_25 ?_
  refine g_puti (i := 184) (t := 6) (f := 10) (fz := 10) (pc := 26) E dX6_writes_26 fl_X6_231 rfl (by decide) (by decide) rfl rfl ?_ 
  refine g_bipush (pc := 29) E dX6_writes_29 rfl ?_
  refine g_iload_n (pc := 31) E dX6_writes_31 (i := 1) rfl rfl ?_
  refine g_bipush (pc := 32) E dX6_writes_32 rfl ?_
  refine g_irem (pc := 34) E dX6_writes_34 (by omega) (by omega) (by omega) (by omega) ?_
  refine g_iadd (pc := 35) E dX6_writes_35 ?_
  refine g_iast (pc := 36) E dX6_writes_36 rfl (by omega) (by omega) ?_ 
  refine g_vret (pc := 37) E hr dX6_writes_37 ?_
  obtain ⟨hp, hf⟩ := MT_put (v := 48 + v % 10) hL11 rfl rfl
  refine ⟨hw11.tr hf, ?_⟩
  rw [show dgL v = dgL (v / 10) ++ [48 + v % 10] from by rw [dgL, if_neg (by omega), if_neg (by omega), dgL, if_neg (by omega), if_pos (by omega), show v / 10 / 10 = v / 100 by omega]; rfl, ← List.append_assoc]
  exact hp

theorem cv_writes {cx : Cx} {M : Mem} {L : List Int} {v : Int} (hL : MT M L) (hl : (L.length : Int) ≤ 77) (hv0 : 0 ≤ v) (hv1 : v ≤ 100) : Cv cx yX6_writes cX6_writes 2 3 0 0 [rf cx 184, .int (oi v)] M (fun M' => WF M M' ∧ MT M' (L ++ dgL v)) := by
  by_cases h1 : v ≤ 9
  · exact cv_writes13 hL hl hv0 h1
  · by_cases h2 : v ≤ 99
    · exact cv_writes23 hL hl hv0 h2 (by omega)
    · exact cv_writes33 hL hl hv0 (by omega) (by omega)
def MTb (N : Mem) (L : List Int) (b : Int) : Prop := MT N L ∧ (L.length : Int) ≤ b
theorem len_app (L K : List Int) : ((L ++ K).length : Int) = L.length + K.length := by rw [List.length_append]; rfl
theorem MTb.nil {N : Mem} {L : List Int} {b : Int} (h : MTb N L b) (b' : Int) (hb : b ≤ b') : MTb N (L ++ []) b' := by rw [List.append_nil]; exact ⟨h.1, Int.le_trans h.2 hb⟩
theorem MTb.put {N : Mem} {L : List Int} {b : Int} (h : MTb N L b) (v b' : Int) (hb : b + 1 ≤ b') : MTb (st (st N 184 10 (N 184 10 + 1)) 190 (N 184 10) v) (L ++ [v]) b' ∧ WF N (st (st N 184 10 (N 184 10 + 1)) 190 (N 184 10) v) := by
  obtain ⟨h1, h2⟩ := MT_put (v := v) h.1 rfl rfl
  refine ⟨⟨h1, ?_⟩, h2⟩
  have := h.2
  rw [len_app]
  have : (([v] : List Int).length : Int) = 1 := rfl
  omega
theorem MTb.app {N N2 : Mem} {L : List Int} {v b : Int} (h : MTb N L b) (h2 : MT N2 (L ++ dgL v)) (b' : Int) (hb : b + (dgL v).length ≤ b') : MTb N2 (L ++ dgL v) b' := by
  refine ⟨h2, ?_⟩
  have := h.2
  rw [len_app]
  omega
theorem wlN_1 {S : Int → Int} {s : Int} {k : Nat} {P Q R : List Int} (h : ¬ mkS S s k < 0) (hP : (if 0 < (wlN S s k).length then [59] else []) = P) (hQ : (if scS S s k < agS S s k then [114] else []) = Q) (hR : (if stA S (lkM S s (-1) 0) k = 2 then [99] else if stA S (lkM S s (-1) 0) k = 3 then [102] else []) = R) : wlN S s (k + 1) = (((wlN S s k ++ P) ++ dgL k ++ [58]) ++ dgL (mkS S s k)) ++ Q ++ R := by
  rw [wlN, if_neg h, hP, hQ, hR]
theorem wlN_0 {S : Int → Int} {s : Int} {k : Nat} (h : mkS S s k < 0) : wlN S s (k + 1) = wlN S s k := by rw [wlN, if_pos h]

theorem lk_mk (S : Int → Int) (s : Int) {p : Int} (h : 0 ≤ p) : lkM S s (-1) 0 p = mkS S s p := if_neg (by omega)
def WRx (M N : Mem) : Prop := (∀ i, i ≠ 184 → i ≠ 190 → i < 191 ∨ 197 < i → N i = M i) ∧ ∀ f : Int, f ≠ 10 → f < 18 ∨ 23 < f → N 184 f = M 184 f

set_option maxHeartbeats 4000000 in
theorem ct_write {cx : Cx} {M : Mem} {S : Int → Int} (e5 : M 185 = S) {sn : Int} (hV : SOK S) (hsn : -2147483648 ≤ sn ∧ sn ≤ 2147483647) : Ct cx yX6_write cX6_write 3 (some .int) 10 0 0 [rf cx 184, .int (oi sn)] M (fun rz M' => (¬ inT S sn → rz = -1 ∧ M = M') ∧ (inT S sn → rz = (wlS S sn).length ∧ MT M' (wlS S sn) ∧ WRx M M')) := by
  refine ct_intro cd_X6_write (by decide +kernel) (Nat.le_of_ble_eq_true rfl) rfl (fun Pg Lc Ev s m args below meth c E hr => ?_)
  refine g_ent (ls' := [some (rf cx 184), some (.int (oi sn)), none]) rfl ?_
  have hV0 := hV.1
  have e5M := e5
  have hf := LKf.rf M
  refine g_aload_n (pc := 0) E dX6_write_0 (i := 0) rfl rfl ?_
  refine g_iload_n (pc := 1) E dX6_write_1 (i := 1) rfl rfl ?_
  refine g_callV (pc := 2) (As := [_]) E dX6_write_2 ml_X6_168 (ct_isStudent e5 hV (by omega)) rfl rfl rfl rfl (by decide) (by decide) rfl (Nat.le_of_ble_eq_true rfl) (by decide) (fun x2 M2 hM2 => ?_)
  obtain ⟨rfl, rfl⟩ := hM2
  refine g_if_ne (pc := 5) (tgt := 10) E dX6_write_5 (by decide) (fun qh5 => ?_) (fun qh5 => ?_) (Int.le_trans (by decide) (bi_R _).1) (Int.le_trans (bi_R _).2 (by decide))
  · replace qh5 := bi_n.mp qh5
    refine g_aload_n (pc := 10) E dX6_write_10 (i := 0) rfl rfl ?_
    refine g_iload_n (pc := 11) E dX6_write_11 (i := 1) rfl rfl ?_
    refine g_iconst (pc := 12) E dX6_write_12 rfl ?_
    refine g_iconst (pc := 13) E dX6_write_13 rfl ?_
    refine g_callVv (pc := 14) (As := [_, _, _]) E dX6_write_14 ml_X6_90 (cv_looks e5 hV (by omega) (by omega) (by omega) (by omega)) rfl rfl rfl rfl (by decide) (by decide) rfl (Nat.le_of_ble_eq_true rfl) (by decide) (fun M14 hM14 => ?_)
    have hf14 := LKf.tr hf hM14.1
    have e5 : M14 185 = S := hf14.e e5M
    refine g_aload_n (pc := 17) E dX6_write_17 (i := 0) rfl rfl ?_
    refine g_iconst (pc := 18) E dX6_write_18 rfl ?_
    refine g_puti (i := 184) (t := 6) (f := 10) (fz := 10) (pc := 19) E dX6_write_19 fl_X6_231 rfl (by decide) (by decide) rfl rfl ?_ 
    have hL : MT (st M14 184 10 0) [] := MT_0 _
    have hw0 : WRx M (st M14 184 10 0) := ⟨fun i a b d => by rw [st_ne a]; exact hf14.1 i a (by omega) (by omega) (by omega) (by omega), fun f a d => by rw [st_off a]; exact hf14.2 f d⟩
    have h191 : ∀ p, 0 ≤ p → p < S 6 → (st M14 184 10 0) 191 p = mkS S sn p ∧ (st M14 184 10 0) 192 p = stA S (lkM S sn (-1) 0) p := fun p a b => by rw [st_ne (by decide), st_ne (by decide), ← lk_mk S sn a]; exact hM14.2.1 p a b
    refine g_iconst (pc := 22) E dX6_write_22 rfl ?_
    refine g_istore_n (pc := 23) E dX6_write_23 (i := 2) (ls' := [_, _, _]) rfl (Nat.le_of_ble_eq_true rfl) rfl ?_
    have LP24 : ∀ (n : Nat) (N : Mem) (x : Int), S 6 - x < (n : Int) → 0 ≤ x → x ≤ S 6 → MT N (wlN S sn x.toNat) → WRx M N → N 185 = S → (∀ p, 0 ≤ p → p < S 6 → N 191 p = mkS S sn p ∧ N 192 p = stA S (lkM S sn (-1) 0) p) → G cx Pg Lc Ev (rmD 10 0 0) s m args below meth c (MQ below (QI cx (fun rz M' => (¬ inT S sn → rz = -1 ∧ M = M') ∧ (inT S sn → rz = (wlS S sn).length ∧ MT M' (wlS S sn) ∧ WRx M M'))) args s 0 0 (cA0 cx)) 24 [some (rf cx 184), some (.int (oi sn)), some (.int (oi x))] [] (N) 0 0 := by
      intro n
      induction n with
      | zero => intro N x hn hx0 hx1 hL0 hw e5 h191; exact absurd hn (by omega)
      | succ n ih24 =>
        intro N x hn hx0 hx1 hL0 hw e5 h191
        have e5N := e5
        refine g_iload_n (pc := 24) E dX6_write_24 (i := 2) rfl rfl ?_
        refine g_aload_n (pc := 25) E dX6_write_25 (i := 0) rfl rfl ?_
        refine g_getr (i := 184) (j := 185) (t := 6) (f := 0) (pc := 26) E dX6_write_26 fl_X6_9 rfl (by decide) (by decide) rfl rfl ?_
        refine g_bipush (pc := 29) E dX6_write_29 rfl ?_
        refine g_iald (pc := 31) E dX6_write_31 rfl (by omega) (by omega) (congrFun e5 _) (fun _ _ => ?_)
        refine g_icmp_ge (pc := 32) (tgt := 187) E dX6_write_32 (by decide) (fun qh32 => ?_) (fun qh32 => ?_) 
        · refine g_aload_n (pc := 187) E dX6_write_187 (i := 0) rfl rfl ?_
          refine g_geti (i := 184) (t := 6) (f := 10) (fz := 10) (pc := 188) E dX6_write_188 fl_X6_231 rfl (by decide) (by decide) rfl rfl rfl (fun _ _ => ?_)
          refine g_iret (pc := 191) E hr dX6_write_191 ?_
          rw [show x = S 6 by omega] at hL0
          exact ⟨fun h => absurd qh5 h, fun _ => ⟨hL0.1, hL0, hw⟩⟩
        · have hxN : ((x.toNat : Nat) : Int) = x := Int.toNat_of_nonneg hx0
          have hm := mkS_R hV qh5.1 qh5.2 hx0 (show x < S 6 by omega)
          refine g_aload_n (pc := 35) E dX6_write_35 (i := 0) rfl rfl ?_
          refine g_getr (i := 184) (j := 191) (t := 6) (f := 14) (pc := 36) E dX6_write_36 fl_X6_28 rfl (by decide) (by decide) rfl rfl ?_
          refine g_iload_n (pc := 39) E dX6_write_39 (i := 2) rfl rfl ?_
          refine g_iald (pc := 40) E dX6_write_40 rfl (by omega) (by omega) (h191 x (by omega) (by omega)).1 (fun _ _ => ?_)
          refine g_if_ge (pc := 41) (tgt := 47) E dX6_write_41 (by decide) (fun qh41 => ?_) (fun qh41 => ?_) 
          · have hgR := agS_R hV qh5.1 qh5.2 hx0 (show x < S 6 by omega)
            have hcR := scS_R S sn x
            have hsR := stA_R S (lkM S sn (-1) 0) x
            have hwl := wlN_len S sn x.toNat (by omega)
            have hL : MTb N (wlN S sn x.toNat) 56 := ⟨hL0, by omega⟩
            have hF := WF.rf N
            have hl1 := hL.1.1
            refine g_aload_n (pc := 47) E dX6_write_47 (i := 0) rfl rfl ?_
            refine g_geti (i := 184) (t := 6) (f := 10) (fz := 10) (pc := 48) E dX6_write_48 fl_X6_231 rfl (by decide) (by decide) rfl rfl rfl (fun _ _ => ?_)
            refine g_if_le (pc := 51) (tgt := 72) E dX6_write_51 (by decide) (fun qh51 => ?_) (fun qh51 => ?_) 
            · replace hL := hL.nil 57 (by omega)
              have hl1 := hL.1.1
              have hl2 := hL.2
              refine g_aload_n (pc := 72) E dX6_write_72 (i := 0) rfl rfl ?_
              refine g_iload_n (pc := 73) E dX6_write_73 (i := 2) rfl rfl ?_
              refine g_callVv (pc := 74) (As := [_]) E dX6_write_74 ml_X6_227 (cv_writes hL.1 (by omega) (by omega) (by omega)) rfl rfl rfl rfl (by decide) (by decide) rfl (Nat.le_of_ble_eq_true rfl) (by decide) (fun M74 hM74 => ?_)
              replace hF := hF.tr hM74.1
              replace hL := hL.app hM74.2 58 (by rw [dg1 (by omega)]; omega)
              have hl1 := hL.1.1
              have hl2 := hL.2
              refine g_aload_n (pc := 77) E dX6_write_77 (i := 0) rfl rfl ?_
              refine g_getr (i := 184) (j := 190) (t := 6) (f := 9) (pc := 78) E dX6_write_78 fl_X6_25 rfl (by decide) (by decide) rfl rfl ?_
              refine g_aload_n (pc := 81) E dX6_write_81 (i := 0) rfl rfl ?_
              refine g_dup (pc := 82) E dX6_write_82 rfl ?_
              refine g_geti (i := 184) (t := 6) (f := 10) (fz := 10) (pc := 83) E dX6_write_83 fl_X6_231 rfl (by decide) (by decide) rfl rfl rfl (fun _ _ => ?_)
              refine g_dup_x1 (pc := 86) E dX6_write_86 rfl rfl ?_
              refine g_iconst (pc := 87) E dX6_write_87 rfl ?_
              refine g_iadd (pc := 88) E dX6_write_88 ?_
              refine g_puti (i := 184) (t := 6) (f := 10) (fz := 10) (pc := 89) E dX6_write_89 fl_X6_231 rfl (by decide) (by decide) rfl rfl ?_ 
              refine g_bipush (pc := 92) E dX6_write_92 rfl ?_
              refine g_iast (pc := 94) E dX6_write_94 rfl (by omega) (by omega) ?_ 
              obtain ⟨hL, hF2⟩ := hL.put 58 59 (by omega)
              replace hF := hF.tr hF2
              have hl1 := hL.1.1
              have hl2 := hL.2
              refine g_aload_n (pc := 95) E dX6_write_95 (i := 0) rfl rfl ?_
              refine g_aload_n (pc := 96) E dX6_write_96 (i := 0) rfl rfl ?_
              refine g_getr (i := 184) (j := 191) (t := 6) (f := 14) (pc := 97) E dX6_write_97 fl_X6_28 rfl (by decide) (by decide) rfl rfl ?_
              refine g_iload_n (pc := 100) E dX6_write_100 (i := 2) rfl rfl ?_
              refine g_iald (pc := 101) E dX6_write_101 rfl (by omega) (by omega) ((congrFun (hF.1 191 (by decide) (by decide)) x).trans (h191 x (by omega) (by omega)).1) (fun _ _ => ?_)
              refine g_callVv (pc := 102) (As := [_]) E dX6_write_102 ml_X6_227 (cv_writes hL.1 (by omega) (by omega) (by omega)) rfl rfl rfl rfl (by decide) (by decide) rfl (Nat.le_of_ble_eq_true rfl) (by decide) (fun M102 hM102 => ?_)
              replace hF := hF.tr hM102.1
              replace hL := hL.app hM102.2 62 (by have := dgL_len (mkS S sn x); omega)
              have hl1 := hL.1.1
              have hl2 := hL.2
              have e5 := hF.e5 e5N
              refine g_aload_n (pc := 105) E dX6_write_105 (i := 0) rfl rfl ?_
              refine g_iload_n (pc := 106) E dX6_write_106 (i := 1) rfl rfl ?_
              refine g_iload_n (pc := 107) E dX6_write_107 (i := 2) rfl rfl ?_
              refine g_callV (pc := 108) (As := [_, _]) E dX6_write_108 ml_X6_120 (ct_again e5 hV qh5.1 qh5.2 hx0 (by omega)) rfl rfl rfl rfl (by decide) (by decide) rfl (Nat.le_of_ble_eq_true rfl) (by decide) (fun x108 M108 hM108 => ?_)
              obtain ⟨rfl, rfl⟩ := hM108
              refine g_aload_n (pc := 111) E dX6_write_111 (i := 0) rfl rfl ?_
              refine g_iload_n (pc := 112) E dX6_write_112 (i := 1) rfl rfl ?_
              refine g_iload_n (pc := 113) E dX6_write_113 (i := 2) rfl rfl ?_
              refine g_callV (pc := 114) (As := [_, _]) E dX6_write_114 ml_X6_117 (ct_scaledOf e5 hV qh5.1 qh5.2 hx0 (by omega)) rfl rfl rfl rfl (by decide) (by decide) rfl (Nat.le_of_ble_eq_true rfl) (by decide) (fun x114 M114 hM114 => ?_)
              obtain ⟨rfl, rfl⟩ := hM114
              refine g_icmp_le (pc := 117) (tgt := 138) E dX6_write_117 (by decide) (fun qh117 => ?_) (fun qh117 => ?_) 
              · replace hL := hL.nil 63 (by omega)
                have hl1 := hL.1.1
                have hl2 := hL.2
                refine g_aload_n (pc := 138) E dX6_write_138 (i := 0) rfl rfl ?_
                refine g_getr (i := 184) (j := 192) (t := 6) (f := 15) (pc := 139) E dX6_write_139 fl_X6_31 rfl (by decide) (by decide) rfl rfl ?_
                refine g_iload_n (pc := 142) E dX6_write_142 (i := 2) rfl rfl ?_
                refine g_iald (pc := 143) E dX6_write_143 rfl (by omega) (by omega) ((congrFun (hF.1 192 (by decide) (by decide)) x).trans (h191 x (by omega) (by omega)).2) (fun _ _ => ?_)
                refine g_iconst (pc := 144) E dX6_write_144 rfl ?_
                refine g_icmp_le (pc := 145) (tgt := 181) E dX6_write_145 (by decide) (fun qh145 => ?_) (fun qh145 => ?_) 
                · replace hL := hL.nil 64 (by omega)
                  have hl1 := hL.1.1
                  have hl2 := hL.2
                  refine g_iinc (pc := 181) E dX6_write_181 (ls' := [_, _, _]) rfl rfl rfl ?_
                  refine g_goto (pc := 184) (tgt := 24) E dX6_write_184 (by decide) ?_
                  exact g_wk2 (ih24 _ (x + 1) (by omega) (by omega) (by omega) (by rw [show (x + 1).toNat = x.toNat + 1 by omega, wlN_1 (S := S) (s := sn) (k := x.toNat) (P := []) (Q := []) (R := []) (by rw [hxN]; omega) (if_neg (by omega)) (by rw [hxN]; exact if_neg (by omega)) (by rw [hxN, if_neg (by omega), if_neg (by omega)])]; rw [hxN]; exact hL.1) ⟨fun i a b d => (hF.1 i a b).trans (hw.1 i a b d), fun f a d => (hF.2 f a).trans (hw.2 f a d)⟩ (hF.e5 e5N) (fun p a b => by rw [hF.1 191 (by decide) (by decide), hF.1 192 (by decide) (by decide)]; exact h191 p a b)) ⟨rfl, rfl, rfl, trivial⟩
                · refine g_aload_n (pc := 148) E dX6_write_148 (i := 0) rfl rfl ?_
                  refine g_getr (i := 184) (j := 190) (t := 6) (f := 9) (pc := 149) E dX6_write_149 fl_X6_25 rfl (by decide) (by decide) rfl rfl ?_
                  refine g_aload_n (pc := 152) E dX6_write_152 (i := 0) rfl rfl ?_
                  refine g_dup (pc := 153) E dX6_write_153 rfl ?_
                  refine g_geti (i := 184) (t := 6) (f := 10) (fz := 10) (pc := 154) E dX6_write_154 fl_X6_231 rfl (by decide) (by decide) rfl rfl rfl (fun _ _ => ?_)
                  refine g_dup_x1 (pc := 157) E dX6_write_157 rfl rfl ?_
                  refine g_iconst (pc := 158) E dX6_write_158 rfl ?_
                  refine g_iadd (pc := 159) E dX6_write_159 ?_
                  refine g_puti (i := 184) (t := 6) (f := 10) (fz := 10) (pc := 160) E dX6_write_160 fl_X6_231 rfl (by decide) (by decide) rfl rfl ?_ 
                  refine g_aload_n (pc := 163) E dX6_write_163 (i := 0) rfl rfl ?_
                  refine g_getr (i := 184) (j := 192) (t := 6) (f := 15) (pc := 164) E dX6_write_164 fl_X6_31 rfl (by decide) (by decide) rfl rfl ?_
                  refine g_iload_n (pc := 167) E dX6_write_167 (i := 2) rfl rfl ?_
                  refine g_iald (pc := 168) E dX6_write_168 rfl (by omega) (by omega) (v := stA S (lkM S sn (-1) 0) x) (by rw [st_ne (by decide)]; exact (congrFun (hF.1 192 (by decide) (by decide)) x).trans (h191 x (by omega) (by omega)).2) (fun _ _ => ?_)
                  refine g_iconst (pc := 169) E dX6_write_169 rfl ?_
                  refine g_icmp_ne (pc := 170) (tgt := 178) E dX6_write_170 (by decide) (fun qh170 => ?_) (fun qh170 => ?_) 
                  · refine g_bipush (pc := 178) E dX6_write_178 rfl ?_
                    refine g_iast (pc := 180) E dX6_write_180 rfl (by omega) (by omega) ?_ 
                    obtain ⟨hL, hF2⟩ := hL.put 102 64 (by omega)
                    replace hF := hF.tr hF2
                    have hl1 := hL.1.1
                    have hl2 := hL.2
                    refine g_iinc (pc := 181) E dX6_write_181 (ls' := [_, _, _]) rfl rfl rfl ?_
                    refine g_goto (pc := 184) (tgt := 24) E dX6_write_184 (by decide) ?_
                    exact g_wk2 (ih24 _ (x + 1) (by omega) (by omega) (by omega) (by rw [show (x + 1).toNat = x.toNat + 1 by omega, wlN_1 (S := S) (s := sn) (k := x.toNat) (P := []) (Q := []) (R := [102]) (by rw [hxN]; omega) (if_neg (by omega)) (by rw [hxN]; exact if_neg (by omega)) (by rw [hxN, if_neg (by omega), if_pos (by omega)])]; rw [hxN]; exact hL.1) ⟨fun i a b d => (hF.1 i a b).trans (hw.1 i a b d), fun f a d => (hF.2 f a).trans (hw.2 f a d)⟩ (hF.e5 e5N) (fun p a b => by rw [hF.1 191 (by decide) (by decide), hF.1 192 (by decide) (by decide)]; exact h191 p a b)) ⟨rfl, rfl, rfl, trivial⟩
                  · refine g_bipush (pc := 173) E dX6_write_173 rfl ?_
                    refine g_goto (pc := 175) (tgt := 180) E dX6_write_175 (by decide) ?_
                    refine g_iast (pc := 180) E dX6_write_180 rfl (by omega) (by omega) ?_ 
                    obtain ⟨hL, hF2⟩ := hL.put 99 64 (by omega)
                    replace hF := hF.tr hF2
                    have hl1 := hL.1.1
                    have hl2 := hL.2
                    refine g_iinc (pc := 181) E dX6_write_181 (ls' := [_, _, _]) rfl rfl rfl ?_
                    refine g_goto (pc := 184) (tgt := 24) E dX6_write_184 (by decide) ?_
                    exact g_wk2 (ih24 _ (x + 1) (by omega) (by omega) (by omega) (by rw [show (x + 1).toNat = x.toNat + 1 by omega, wlN_1 (S := S) (s := sn) (k := x.toNat) (P := []) (Q := []) (R := [99]) (by rw [hxN]; omega) (if_neg (by omega)) (by rw [hxN]; exact if_neg (by omega)) (by rw [hxN, if_pos (by omega)])]; rw [hxN]; exact hL.1) ⟨fun i a b d => (hF.1 i a b).trans (hw.1 i a b d), fun f a d => (hF.2 f a).trans (hw.2 f a d)⟩ (hF.e5 e5N) (fun p a b => by rw [hF.1 191 (by decide) (by decide), hF.1 192 (by decide) (by decide)]; exact h191 p a b)) ⟨rfl, rfl, rfl, trivial⟩
              · refine g_aload_n (pc := 120) E dX6_write_120 (i := 0) rfl rfl ?_
                refine g_getr (i := 184) (j := 190) (t := 6) (f := 9) (pc := 121) E dX6_write_121 fl_X6_25 rfl (by decide) (by decide) rfl rfl ?_
                refine g_aload_n (pc := 124) E dX6_write_124 (i := 0) rfl rfl ?_
                refine g_dup (pc := 125) E dX6_write_125 rfl ?_
                refine g_geti (i := 184) (t := 6) (f := 10) (fz := 10) (pc := 126) E dX6_write_126 fl_X6_231 rfl (by decide) (by decide) rfl rfl rfl (fun _ _ => ?_)
                refine g_dup_x1 (pc := 129) E dX6_write_129 rfl rfl ?_
                refine g_iconst (pc := 130) E dX6_write_130 rfl ?_
                refine g_iadd (pc := 131) E dX6_write_131 ?_
                refine g_puti (i := 184) (t := 6) (f := 10) (fz := 10) (pc := 132) E dX6_write_132 fl_X6_231 rfl (by decide) (by decide) rfl rfl ?_ 
                refine g_bipush (pc := 135) E dX6_write_135 rfl ?_
                refine g_iast (pc := 137) E dX6_write_137 rfl (by omega) (by omega) ?_ 
                obtain ⟨hL, hF2⟩ := hL.put 114 63 (by omega)
                replace hF := hF.tr hF2
                have hl1 := hL.1.1
                have hl2 := hL.2
                refine g_aload_n (pc := 138) E dX6_write_138 (i := 0) rfl rfl ?_
                refine g_getr (i := 184) (j := 192) (t := 6) (f := 15) (pc := 139) E dX6_write_139 fl_X6_31 rfl (by decide) (by decide) rfl rfl ?_
                refine g_iload_n (pc := 142) E dX6_write_142 (i := 2) rfl rfl ?_
                refine g_iald (pc := 143) E dX6_write_143 rfl (by omega) (by omega) ((congrFun (hF.1 192 (by decide) (by decide)) x).trans (h191 x (by omega) (by omega)).2) (fun _ _ => ?_)
                refine g_iconst (pc := 144) E dX6_write_144 rfl ?_
                refine g_icmp_le (pc := 145) (tgt := 181) E dX6_write_145 (by decide) (fun qh145 => ?_) (fun qh145 => ?_) 
                · replace hL := hL.nil 64 (by omega)
                  have hl1 := hL.1.1
                  have hl2 := hL.2
                  refine g_iinc (pc := 181) E dX6_write_181 (ls' := [_, _, _]) rfl rfl rfl ?_
                  refine g_goto (pc := 184) (tgt := 24) E dX6_write_184 (by decide) ?_
                  exact g_wk2 (ih24 _ (x + 1) (by omega) (by omega) (by omega) (by rw [show (x + 1).toNat = x.toNat + 1 by omega, wlN_1 (S := S) (s := sn) (k := x.toNat) (P := []) (Q := [114]) (R := []) (by rw [hxN]; omega) (if_neg (by omega)) (by rw [hxN]; exact if_pos (by omega)) (by rw [hxN, if_neg (by omega), if_neg (by omega)])]; rw [hxN]; exact hL.1) ⟨fun i a b d => (hF.1 i a b).trans (hw.1 i a b d), fun f a d => (hF.2 f a).trans (hw.2 f a d)⟩ (hF.e5 e5N) (fun p a b => by rw [hF.1 191 (by decide) (by decide), hF.1 192 (by decide) (by decide)]; exact h191 p a b)) ⟨rfl, rfl, rfl, trivial⟩
                · refine g_aload_n (pc := 148) E dX6_write_148 (i := 0) rfl rfl ?_
                  refine g_getr (i := 184) (j := 190) (t := 6) (f := 9) (pc := 149) E dX6_write_149 fl_X6_25 rfl (by decide) (by decide) rfl rfl ?_
                  refine g_aload_n (pc := 152) E dX6_write_152 (i := 0) rfl rfl ?_
                  refine g_dup (pc := 153) E dX6_write_153 rfl ?_
                  refine g_geti (i := 184) (t := 6) (f := 10) (fz := 10) (pc := 154) E dX6_write_154 fl_X6_231 rfl (by decide) (by decide) rfl rfl rfl (fun _ _ => ?_)
                  refine g_dup_x1 (pc := 157) E dX6_write_157 rfl rfl ?_
                  refine g_iconst (pc := 158) E dX6_write_158 rfl ?_
                  refine g_iadd (pc := 159) E dX6_write_159 ?_
                  refine g_puti (i := 184) (t := 6) (f := 10) (fz := 10) (pc := 160) E dX6_write_160 fl_X6_231 rfl (by decide) (by decide) rfl rfl ?_ 
                  refine g_aload_n (pc := 163) E dX6_write_163 (i := 0) rfl rfl ?_
                  refine g_getr (i := 184) (j := 192) (t := 6) (f := 15) (pc := 164) E dX6_write_164 fl_X6_31 rfl (by decide) (by decide) rfl rfl ?_
                  refine g_iload_n (pc := 167) E dX6_write_167 (i := 2) rfl rfl ?_
                  refine g_iald (pc := 168) E dX6_write_168 rfl (by omega) (by omega) (v := stA S (lkM S sn (-1) 0) x) (by rw [st_ne (by decide)]; exact (congrFun (hF.1 192 (by decide) (by decide)) x).trans (h191 x (by omega) (by omega)).2) (fun _ _ => ?_)
                  refine g_iconst (pc := 169) E dX6_write_169 rfl ?_
                  refine g_icmp_ne (pc := 170) (tgt := 178) E dX6_write_170 (by decide) (fun qh170 => ?_) (fun qh170 => ?_) 
                  · refine g_bipush (pc := 178) E dX6_write_178 rfl ?_
                    refine g_iast (pc := 180) E dX6_write_180 rfl (by omega) (by omega) ?_ 
                    obtain ⟨hL, hF2⟩ := hL.put 102 64 (by omega)
                    replace hF := hF.tr hF2
                    have hl1 := hL.1.1
                    have hl2 := hL.2
                    refine g_iinc (pc := 181) E dX6_write_181 (ls' := [_, _, _]) rfl rfl rfl ?_
                    refine g_goto (pc := 184) (tgt := 24) E dX6_write_184 (by decide) ?_
                    exact g_wk2 (ih24 _ (x + 1) (by omega) (by omega) (by omega) (by rw [show (x + 1).toNat = x.toNat + 1 by omega, wlN_1 (S := S) (s := sn) (k := x.toNat) (P := []) (Q := [114]) (R := [102]) (by rw [hxN]; omega) (if_neg (by omega)) (by rw [hxN]; exact if_pos (by omega)) (by rw [hxN, if_neg (by omega), if_pos (by omega)])]; rw [hxN]; exact hL.1) ⟨fun i a b d => (hF.1 i a b).trans (hw.1 i a b d), fun f a d => (hF.2 f a).trans (hw.2 f a d)⟩ (hF.e5 e5N) (fun p a b => by rw [hF.1 191 (by decide) (by decide), hF.1 192 (by decide) (by decide)]; exact h191 p a b)) ⟨rfl, rfl, rfl, trivial⟩
                  · refine g_bipush (pc := 173) E dX6_write_173 rfl ?_
                    refine g_goto (pc := 175) (tgt := 180) E dX6_write_175 (by decide) ?_
                    refine g_iast (pc := 180) E dX6_write_180 rfl (by omega) (by omega) ?_ 
                    obtain ⟨hL, hF2⟩ := hL.put 99 64 (by omega)
                    replace hF := hF.tr hF2
                    have hl1 := hL.1.1
                    have hl2 := hL.2
                    refine g_iinc (pc := 181) E dX6_write_181 (ls' := [_, _, _]) rfl rfl rfl ?_
                    refine g_goto (pc := 184) (tgt := 24) E dX6_write_184 (by decide) ?_
                    exact g_wk2 (ih24 _ (x + 1) (by omega) (by omega) (by omega) (by rw [show (x + 1).toNat = x.toNat + 1 by omega, wlN_1 (S := S) (s := sn) (k := x.toNat) (P := []) (Q := [114]) (R := [99]) (by rw [hxN]; omega) (if_neg (by omega)) (by rw [hxN]; exact if_pos (by omega)) (by rw [hxN, if_pos (by omega)])]; rw [hxN]; exact hL.1) ⟨fun i a b d => (hF.1 i a b).trans (hw.1 i a b d), fun f a d => (hF.2 f a).trans (hw.2 f a d)⟩ (hF.e5 e5N) (fun p a b => by rw [hF.1 191 (by decide) (by decide), hF.1 192 (by decide) (by decide)]; exact h191 p a b)) ⟨rfl, rfl, rfl, trivial⟩
            · refine g_aload_n (pc := 54) E dX6_write_54 (i := 0) rfl rfl ?_
              refine g_getr (i := 184) (j := 190) (t := 6) (f := 9) (pc := 55) E dX6_write_55 fl_X6_25 rfl (by decide) (by decide) rfl rfl ?_
              refine g_aload_n (pc := 58) E dX6_write_58 (i := 0) rfl rfl ?_
              refine g_dup (pc := 59) E dX6_write_59 rfl ?_
              refine g_geti (i := 184) (t := 6) (f := 10) (fz := 10) (pc := 60) E dX6_write_60 fl_X6_231 rfl (by decide) (by decide) rfl rfl rfl (fun _ _ => ?_)
              refine g_dup_x1 (pc := 63) E dX6_write_63 rfl rfl ?_
              refine g_iconst (pc := 64) E dX6_write_64 rfl ?_
              refine g_iadd (pc := 65) E dX6_write_65 ?_
              refine g_puti (i := 184) (t := 6) (f := 10) (fz := 10) (pc := 66) E dX6_write_66 fl_X6_231 rfl (by decide) (by decide) rfl rfl ?_ 
              refine g_bipush (pc := 69) E dX6_write_69 rfl ?_
              refine g_iast (pc := 71) E dX6_write_71 rfl (by omega) (by omega) ?_ 
              obtain ⟨hL, hF2⟩ := hL.put 59 57 (by omega)
              replace hF := hF.tr hF2
              have hl1 := hL.1.1
              have hl2 := hL.2
              refine g_aload_n (pc := 72) E dX6_write_72 (i := 0) rfl rfl ?_
              refine g_iload_n (pc := 73) E dX6_write_73 (i := 2) rfl rfl ?_
              refine g_callVv (pc := 74) (As := [_]) E dX6_write_74 ml_X6_227 (cv_writes hL.1 (by omega) (by omega) (by omega)) rfl rfl rfl rfl (by decide) (by decide) rfl (Nat.le_of_ble_eq_true rfl) (by decide) (fun M74 hM74 => ?_)
              replace hF := hF.tr hM74.1
              replace hL := hL.app hM74.2 58 (by rw [dg1 (by omega)]; omega)
              have hl1 := hL.1.1
              have hl2 := hL.2
              refine g_aload_n (pc := 77) E dX6_write_77 (i := 0) rfl rfl ?_
              refine g_getr (i := 184) (j := 190) (t := 6) (f := 9) (pc := 78) E dX6_write_78 fl_X6_25 rfl (by decide) (by decide) rfl rfl ?_
              refine g_aload_n (pc := 81) E dX6_write_81 (i := 0) rfl rfl ?_
              refine g_dup (pc := 82) E dX6_write_82 rfl ?_
              refine g_geti (i := 184) (t := 6) (f := 10) (fz := 10) (pc := 83) E dX6_write_83 fl_X6_231 rfl (by decide) (by decide) rfl rfl rfl (fun _ _ => ?_)
              refine g_dup_x1 (pc := 86) E dX6_write_86 rfl rfl ?_
              refine g_iconst (pc := 87) E dX6_write_87 rfl ?_
              refine g_iadd (pc := 88) E dX6_write_88 ?_
              refine g_puti (i := 184) (t := 6) (f := 10) (fz := 10) (pc := 89) E dX6_write_89 fl_X6_231 rfl (by decide) (by decide) rfl rfl ?_ 
              refine g_bipush (pc := 92) E dX6_write_92 rfl ?_
              refine g_iast (pc := 94) E dX6_write_94 rfl (by omega) (by omega) ?_ 
              obtain ⟨hL, hF2⟩ := hL.put 58 59 (by omega)
              replace hF := hF.tr hF2
              have hl1 := hL.1.1
              have hl2 := hL.2
              refine g_aload_n (pc := 95) E dX6_write_95 (i := 0) rfl rfl ?_
              refine g_aload_n (pc := 96) E dX6_write_96 (i := 0) rfl rfl ?_
              refine g_getr (i := 184) (j := 191) (t := 6) (f := 14) (pc := 97) E dX6_write_97 fl_X6_28 rfl (by decide) (by decide) rfl rfl ?_
              refine g_iload_n (pc := 100) E dX6_write_100 (i := 2) rfl rfl ?_
              refine g_iald (pc := 101) E dX6_write_101 rfl (by omega) (by omega) ((congrFun (hF.1 191 (by decide) (by decide)) x).trans (h191 x (by omega) (by omega)).1) (fun _ _ => ?_)
              refine g_callVv (pc := 102) (As := [_]) E dX6_write_102 ml_X6_227 (cv_writes hL.1 (by omega) (by omega) (by omega)) rfl rfl rfl rfl (by decide) (by decide) rfl (Nat.le_of_ble_eq_true rfl) (by decide) (fun M102 hM102 => ?_)
              replace hF := hF.tr hM102.1
              replace hL := hL.app hM102.2 62 (by have := dgL_len (mkS S sn x); omega)
              have hl1 := hL.1.1
              have hl2 := hL.2
              have e5 := hF.e5 e5N
              refine g_aload_n (pc := 105) E dX6_write_105 (i := 0) rfl rfl ?_
              refine g_iload_n (pc := 106) E dX6_write_106 (i := 1) rfl rfl ?_
              refine g_iload_n (pc := 107) E dX6_write_107 (i := 2) rfl rfl ?_
              refine g_callV (pc := 108) (As := [_, _]) E dX6_write_108 ml_X6_120 (ct_again e5 hV qh5.1 qh5.2 hx0 (by omega)) rfl rfl rfl rfl (by decide) (by decide) rfl (Nat.le_of_ble_eq_true rfl) (by decide) (fun x108 M108 hM108 => ?_)
              obtain ⟨rfl, rfl⟩ := hM108
              refine g_aload_n (pc := 111) E dX6_write_111 (i := 0) rfl rfl ?_
              refine g_iload_n (pc := 112) E dX6_write_112 (i := 1) rfl rfl ?_
              refine g_iload_n (pc := 113) E dX6_write_113 (i := 2) rfl rfl ?_
              refine g_callV (pc := 114) (As := [_, _]) E dX6_write_114 ml_X6_117 (ct_scaledOf e5 hV qh5.1 qh5.2 hx0 (by omega)) rfl rfl rfl rfl (by decide) (by decide) rfl (Nat.le_of_ble_eq_true rfl) (by decide) (fun x114 M114 hM114 => ?_)
              obtain ⟨rfl, rfl⟩ := hM114
              refine g_icmp_le (pc := 117) (tgt := 138) E dX6_write_117 (by decide) (fun qh117 => ?_) (fun qh117 => ?_) 
              · replace hL := hL.nil 63 (by omega)
                have hl1 := hL.1.1
                have hl2 := hL.2
                refine g_aload_n (pc := 138) E dX6_write_138 (i := 0) rfl rfl ?_
                refine g_getr (i := 184) (j := 192) (t := 6) (f := 15) (pc := 139) E dX6_write_139 fl_X6_31 rfl (by decide) (by decide) rfl rfl ?_
                refine g_iload_n (pc := 142) E dX6_write_142 (i := 2) rfl rfl ?_
                refine g_iald (pc := 143) E dX6_write_143 rfl (by omega) (by omega) ((congrFun (hF.1 192 (by decide) (by decide)) x).trans (h191 x (by omega) (by omega)).2) (fun _ _ => ?_)
                refine g_iconst (pc := 144) E dX6_write_144 rfl ?_
                refine g_icmp_le (pc := 145) (tgt := 181) E dX6_write_145 (by decide) (fun qh145 => ?_) (fun qh145 => ?_) 
                · replace hL := hL.nil 64 (by omega)
                  have hl1 := hL.1.1
                  have hl2 := hL.2
                  refine g_iinc (pc := 181) E dX6_write_181 (ls' := [_, _, _]) rfl rfl rfl ?_
                  refine g_goto (pc := 184) (tgt := 24) E dX6_write_184 (by decide) ?_
                  exact g_wk2 (ih24 _ (x + 1) (by omega) (by omega) (by omega) (by rw [show (x + 1).toNat = x.toNat + 1 by omega, wlN_1 (S := S) (s := sn) (k := x.toNat) (P := [59]) (Q := []) (R := []) (by rw [hxN]; omega) (if_pos (by omega)) (by rw [hxN]; exact if_neg (by omega)) (by rw [hxN, if_neg (by omega), if_neg (by omega)])]; rw [hxN]; exact hL.1) ⟨fun i a b d => (hF.1 i a b).trans (hw.1 i a b d), fun f a d => (hF.2 f a).trans (hw.2 f a d)⟩ (hF.e5 e5N) (fun p a b => by rw [hF.1 191 (by decide) (by decide), hF.1 192 (by decide) (by decide)]; exact h191 p a b)) ⟨rfl, rfl, rfl, trivial⟩
                · refine g_aload_n (pc := 148) E dX6_write_148 (i := 0) rfl rfl ?_
                  refine g_getr (i := 184) (j := 190) (t := 6) (f := 9) (pc := 149) E dX6_write_149 fl_X6_25 rfl (by decide) (by decide) rfl rfl ?_
                  refine g_aload_n (pc := 152) E dX6_write_152 (i := 0) rfl rfl ?_
                  refine g_dup (pc := 153) E dX6_write_153 rfl ?_
                  refine g_geti (i := 184) (t := 6) (f := 10) (fz := 10) (pc := 154) E dX6_write_154 fl_X6_231 rfl (by decide) (by decide) rfl rfl rfl (fun _ _ => ?_)
                  refine g_dup_x1 (pc := 157) E dX6_write_157 rfl rfl ?_
                  refine g_iconst (pc := 158) E dX6_write_158 rfl ?_
                  refine g_iadd (pc := 159) E dX6_write_159 ?_
                  refine g_puti (i := 184) (t := 6) (f := 10) (fz := 10) (pc := 160) E dX6_write_160 fl_X6_231 rfl (by decide) (by decide) rfl rfl ?_ 
                  refine g_aload_n (pc := 163) E dX6_write_163 (i := 0) rfl rfl ?_
                  refine g_getr (i := 184) (j := 192) (t := 6) (f := 15) (pc := 164) E dX6_write_164 fl_X6_31 rfl (by decide) (by decide) rfl rfl ?_
                  refine g_iload_n (pc := 167) E dX6_write_167 (i := 2) rfl rfl ?_
                  refine g_iald (pc := 168) E dX6_write_168 rfl (by omega) (by omega) (v := stA S (lkM S sn (-1) 0) x) (by rw [st_ne (by decide)]; exact (congrFun (hF.1 192 (by decide) (by decide)) x).trans (h191 x (by omega) (by omega)).2) (fun _ _ => ?_)
                  refine g_iconst (pc := 169) E dX6_write_169 rfl ?_
                  refine g_icmp_ne (pc := 170) (tgt := 178) E dX6_write_170 (by decide) (fun qh170 => ?_) (fun qh170 => ?_) 
                  · refine g_bipush (pc := 178) E dX6_write_178 rfl ?_
                    refine g_iast (pc := 180) E dX6_write_180 rfl (by omega) (by omega) ?_ 
                    obtain ⟨hL, hF2⟩ := hL.put 102 64 (by omega)
                    replace hF := hF.tr hF2
                    have hl1 := hL.1.1
                    have hl2 := hL.2
                    refine g_iinc (pc := 181) E dX6_write_181 (ls' := [_, _, _]) rfl rfl rfl ?_
                    refine g_goto (pc := 184) (tgt := 24) E dX6_write_184 (by decide) ?_
                    exact g_wk2 (ih24 _ (x + 1) (by omega) (by omega) (by omega) (by rw [show (x + 1).toNat = x.toNat + 1 by omega, wlN_1 (S := S) (s := sn) (k := x.toNat) (P := [59]) (Q := []) (R := [102]) (by rw [hxN]; omega) (if_pos (by omega)) (by rw [hxN]; exact if_neg (by omega)) (by rw [hxN, if_neg (by omega), if_pos (by omega)])]; rw [hxN]; exact hL.1) ⟨fun i a b d => (hF.1 i a b).trans (hw.1 i a b d), fun f a d => (hF.2 f a).trans (hw.2 f a d)⟩ (hF.e5 e5N) (fun p a b => by rw [hF.1 191 (by decide) (by decide), hF.1 192 (by decide) (by decide)]; exact h191 p a b)) ⟨rfl, rfl, rfl, trivial⟩
                  · refine g_bipush (pc := 173) E dX6_write_173 rfl ?_
                    refine g_goto (pc := 175) (tgt := 180) E dX6_write_175 (by decide) ?_
                    refine g_iast (pc := 180) E dX6_write_180 rfl (by omega) (by omega) ?_ 
                    obtain ⟨hL, hF2⟩ := hL.put 99 64 (by omega)
                    replace hF := hF.tr hF2
                    have hl1 := hL.1.1
                    have hl2 := hL.2
                    refine g_iinc (pc := 181) E dX6_write_181 (ls' := [_, _, _]) rfl rfl rfl ?_
                    refine g_goto (pc := 184) (tgt := 24) E dX6_write_184 (by decide) ?_
                    exact g_wk2 (ih24 _ (x + 1) (by omega) (by omega) (by omega) (by rw [show (x + 1).toNat = x.toNat + 1 by omega, wlN_1 (S := S) (s := sn) (k := x.toNat) (P := [59]) (Q := []) (R := [99]) (by rw [hxN]; omega) (if_pos (by omega)) (by rw [hxN]; exact if_neg (by omega)) (by rw [hxN, if_pos (by omega)])]; rw [hxN]; exact hL.1) ⟨fun i a b d => (hF.1 i a b).trans (hw.1 i a b d), fun f a d => (hF.2 f a).trans (hw.2 f a d)⟩ (hF.e5 e5N) (fun p a b => by rw [hF.1 191 (by decide) (by decide), hF.1 192 (by decide) (by decide)]; exact h191 p a b)) ⟨rfl, rfl, rfl, trivial⟩
              · refine g_aload_n (pc := 120) E dX6_write_120 (i := 0) rfl rfl ?_
                refine g_getr (i := 184) (j := 190) (t := 6) (f := 9) (pc := 121) E dX6_write_121 fl_X6_25 rfl (by decide) (by decide) rfl rfl ?_
                refine g_aload_n (pc := 124) E dX6_write_124 (i := 0) rfl rfl ?_
                refine g_dup (pc := 125) E dX6_write_125 rfl ?_
                refine g_geti (i := 184) (t := 6) (f := 10) (fz := 10) (pc := 126) E dX6_write_126 fl_X6_231 rfl (by decide) (by decide) rfl rfl rfl (fun _ _ => ?_)
                refine g_dup_x1 (pc := 129) E dX6_write_129 rfl rfl ?_
                refine g_iconst (pc := 130) E dX6_write_130 rfl ?_
                refine g_iadd (pc := 131) E dX6_write_131 ?_
                refine g_puti (i := 184) (t := 6) (f := 10) (fz := 10) (pc := 132) E dX6_write_132 fl_X6_231 rfl (by decide) (by decide) rfl rfl ?_ 
                refine g_bipush (pc := 135) E dX6_write_135 rfl ?_
                refine g_iast (pc := 137) E dX6_write_137 rfl (by omega) (by omega) ?_ 
                obtain ⟨hL, hF2⟩ := hL.put 114 63 (by omega)
                replace hF := hF.tr hF2
                have hl1 := hL.1.1
                have hl2 := hL.2
                refine g_aload_n (pc := 138) E dX6_write_138 (i := 0) rfl rfl ?_
                refine g_getr (i := 184) (j := 192) (t := 6) (f := 15) (pc := 139) E dX6_write_139 fl_X6_31 rfl (by decide) (by decide) rfl rfl ?_
                refine g_iload_n (pc := 142) E dX6_write_142 (i := 2) rfl rfl ?_
                refine g_iald (pc := 143) E dX6_write_143 rfl (by omega) (by omega) ((congrFun (hF.1 192 (by decide) (by decide)) x).trans (h191 x (by omega) (by omega)).2) (fun _ _ => ?_)
                refine g_iconst (pc := 144) E dX6_write_144 rfl ?_
                refine g_icmp_le (pc := 145) (tgt := 181) E dX6_write_145 (by decide) (fun qh145 => ?_) (fun qh145 => ?_) 
                · replace hL := hL.nil 64 (by omega)
                  have hl1 := hL.1.1
                  have hl2 := hL.2
                  refine g_iinc (pc := 181) E dX6_write_181 (ls' := [_, _, _]) rfl rfl rfl ?_
                  refine g_goto (pc := 184) (tgt := 24) E dX6_write_184 (by decide) ?_
                  exact g_wk2 (ih24 _ (x + 1) (by omega) (by omega) (by omega) (by rw [show (x + 1).toNat = x.toNat + 1 by omega, wlN_1 (S := S) (s := sn) (k := x.toNat) (P := [59]) (Q := [114]) (R := []) (by rw [hxN]; omega) (if_pos (by omega)) (by rw [hxN]; exact if_pos (by omega)) (by rw [hxN, if_neg (by omega), if_neg (by omega)])]; rw [hxN]; exact hL.1) ⟨fun i a b d => (hF.1 i a b).trans (hw.1 i a b d), fun f a d => (hF.2 f a).trans (hw.2 f a d)⟩ (hF.e5 e5N) (fun p a b => by rw [hF.1 191 (by decide) (by decide), hF.1 192 (by decide) (by decide)]; exact h191 p a b)) ⟨rfl, rfl, rfl, trivial⟩
                · refine g_aload_n (pc := 148) E dX6_write_148 (i := 0) rfl rfl ?_
                  refine g_getr (i := 184) (j := 190) (t := 6) (f := 9) (pc := 149) E dX6_write_149 fl_X6_25 rfl (by decide) (by decide) rfl rfl ?_
                  refine g_aload_n (pc := 152) E dX6_write_152 (i := 0) rfl rfl ?_
                  refine g_dup (pc := 153) E dX6_write_153 rfl ?_
                  refine g_geti (i := 184) (t := 6) (f := 10) (fz := 10) (pc := 154) E dX6_write_154 fl_X6_231 rfl (by decide) (by decide) rfl rfl rfl (fun _ _ => ?_)
                  refine g_dup_x1 (pc := 157) E dX6_write_157 rfl rfl ?_
                  refine g_iconst (pc := 158) E dX6_write_158 rfl ?_
                  refine g_iadd (pc := 159) E dX6_write_159 ?_
                  refine g_puti (i := 184) (t := 6) (f := 10) (fz := 10) (pc := 160) E dX6_write_160 fl_X6_231 rfl (by decide) (by decide) rfl rfl ?_ 
                  refine g_aload_n (pc := 163) E dX6_write_163 (i := 0) rfl rfl ?_
                  refine g_getr (i := 184) (j := 192) (t := 6) (f := 15) (pc := 164) E dX6_write_164 fl_X6_31 rfl (by decide) (by decide) rfl rfl ?_
                  refine g_iload_n (pc := 167) E dX6_write_167 (i := 2) rfl rfl ?_
                  refine g_iald (pc := 168) E dX6_write_168 rfl (by omega) (by omega) (v := stA S (lkM S sn (-1) 0) x) (by rw [st_ne (by decide)]; exact (congrFun (hF.1 192 (by decide) (by decide)) x).trans (h191 x (by omega) (by omega)).2) (fun _ _ => ?_)
                  refine g_iconst (pc := 169) E dX6_write_169 rfl ?_
                  refine g_icmp_ne (pc := 170) (tgt := 178) E dX6_write_170 (by decide) (fun qh170 => ?_) (fun qh170 => ?_) 
                  · refine g_bipush (pc := 178) E dX6_write_178 rfl ?_
                    refine g_iast (pc := 180) E dX6_write_180 rfl (by omega) (by omega) ?_ 
                    obtain ⟨hL, hF2⟩ := hL.put 102 64 (by omega)
                    replace hF := hF.tr hF2
                    have hl1 := hL.1.1
                    have hl2 := hL.2
                    refine g_iinc (pc := 181) E dX6_write_181 (ls' := [_, _, _]) rfl rfl rfl ?_
                    refine g_goto (pc := 184) (tgt := 24) E dX6_write_184 (by decide) ?_
                    exact g_wk2 (ih24 _ (x + 1) (by omega) (by omega) (by omega) (by rw [show (x + 1).toNat = x.toNat + 1 by omega, wlN_1 (S := S) (s := sn) (k := x.toNat) (P := [59]) (Q := [114]) (R := [102]) (by rw [hxN]; omega) (if_pos (by omega)) (by rw [hxN]; exact if_pos (by omega)) (by rw [hxN, if_neg (by omega), if_pos (by omega)])]; rw [hxN]; exact hL.1) ⟨fun i a b d => (hF.1 i a b).trans (hw.1 i a b d), fun f a d => (hF.2 f a).trans (hw.2 f a d)⟩ (hF.e5 e5N) (fun p a b => by rw [hF.1 191 (by decide) (by decide), hF.1 192 (by decide) (by decide)]; exact h191 p a b)) ⟨rfl, rfl, rfl, trivial⟩
                  · refine g_bipush (pc := 173) E dX6_write_173 rfl ?_
                    refine g_goto (pc := 175) (tgt := 180) E dX6_write_175 (by decide) ?_
                    refine g_iast (pc := 180) E dX6_write_180 rfl (by omega) (by omega) ?_ 
                    obtain ⟨hL, hF2⟩ := hL.put 99 64 (by omega)
                    replace hF := hF.tr hF2
                    have hl1 := hL.1.1
                    have hl2 := hL.2
                    refine g_iinc (pc := 181) E dX6_write_181 (ls' := [_, _, _]) rfl rfl rfl ?_
                    refine g_goto (pc := 184) (tgt := 24) E dX6_write_184 (by decide) ?_
                    exact g_wk2 (ih24 _ (x + 1) (by omega) (by omega) (by omega) (by rw [show (x + 1).toNat = x.toNat + 1 by omega, wlN_1 (S := S) (s := sn) (k := x.toNat) (P := [59]) (Q := [114]) (R := [99]) (by rw [hxN]; omega) (if_pos (by omega)) (by rw [hxN]; exact if_pos (by omega)) (by rw [hxN, if_pos (by omega)])]; rw [hxN]; exact hL.1) ⟨fun i a b d => (hF.1 i a b).trans (hw.1 i a b d), fun f a d => (hF.2 f a).trans (hw.2 f a d)⟩ (hF.e5 e5N) (fun p a b => by rw [hF.1 191 (by decide) (by decide), hF.1 192 (by decide) (by decide)]; exact h191 p a b)) ⟨rfl, rfl, rfl, trivial⟩
          · refine g_goto (pc := 44) (tgt := 181) E dX6_write_44 (by decide) ?_
            refine g_iinc (pc := 181) E dX6_write_181 (ls' := [_, _, _]) rfl rfl rfl ?_
            refine g_goto (pc := 184) (tgt := 24) E dX6_write_184 (by decide) ?_
            exact g_wk2 (ih24 _ (x + 1) (by omega) (by omega) (by omega) (by rw [show (x + 1).toNat = x.toNat + 1 by omega, wlN_0 (by rw [hxN]; omega)]; exact hL0) hw e5 h191) ⟨rfl, rfl, rfl, trivial⟩
    exact g_wk2 (LP24 (S 6 + 1).toNat _ 0 (by omega) (by omega) (by omega) hL hw0 (by rw [st_ne (by decide)]; exact e5) h191) ⟨rfl, rfl, rfl, trivial⟩
  · replace qh5 := bi_0.mp qh5
    refine g_iconst (pc := 8) E dX6_write_8 rfl ?_
    refine g_iret (pc := 9) E hr dX6_write_9 ?_
    exact ⟨fun _ => ⟨rfl, rfl⟩, fun h => absurd h qh5⟩
