/-! the class's texts: append, written, write, account, read -/
theorem ct5_append {cx : Cx} {M : Mem} {cd : Int} (hcd : -2147483648 ≤ cd ∧ cd ≤ 2147483647) (h7b : M 177 0 ≤ 80) : Ct cx yX5_append cX5_append 2 (some .int) 6 1 170 [rf cx 183, .int (oi cd)] M (fun rz M' => if ¬ (32 ≤ cd ∧ cd ≤ 126) then rz = -2 ∧ M = M' else if M 177 0 = 80 then rz = -3 ∧ M = M' else rz = M 177 0 + 1 ∧ apM M 177 [cd] = M') := by
  refine ct_intro cd_X5_append (by decide +kernel) (Nat.le_of_ble_eq_true rfl) rfl (fun Pg Lc Ev s m args below meth c E hr => ?_)
  refine g_ent (ls' := [some (rf cx 183), some (.int (oi cd))]) rfl ?_
  refine g_iload_n (pc := 0) E dX5_append_0 (i := 1) rfl rfl ?_
  refine g_bipush (pc := 1) E dX5_append_1 rfl ?_
  refine g_bipush (pc := 3) E dX5_append_3 rfl ?_
  refine g_callS (pc := 5) (As := [_, _, _]) E dX5_append_5 ml_X5_80 (ct_isWithin (by omega) (by omega) (by omega)) rfl rfl (by decide) (by decide) rfl (Nat.le_of_ble_eq_true rfl) (by decide) (fun x5 M5 hM5 => ?_)
  obtain ⟨rfl, rfl⟩ := hM5
  refine g_if_ne (pc := 8) (tgt := 14) E dX5_append_8 (by decide) (fun qh8 => ?_) (fun qh8 => ?_) (Int.le_trans (by decide) (bi_R _).1) (Int.le_trans (bi_R _).2 (by decide))
  · replace qh8 := bi_n.mp qh8
    refine g_aload_n (pc := 14) E dX5_append_14 (i := 0) rfl rfl ?_
    refine g_getr (i := 183) (j := 176) (t := 5) (f := 6) (pc := 15) E dX5_append_15 fl_X5_47 rfl (by decide) (by decide) rfl rfl ?_
    refine g_getr (i := 176) (j := 177) (t := 1) (f := 0) (pc := 18) E dX5_append_18 fl_X5_314 rfl (by decide) (by decide) rfl rfl ?_
    refine g_sbLen (pc := 21) (i := 177) (Or.inl rfl) E dX5_append_21 ml_X5_317 (by decide) rfl (Nat.le_of_ble_eq_true rfl) (by decide) (fun hza21 hzb21 => ?_)
    refine g_bipush (pc := 24) E dX5_append_24 rfl ?_
    refine g_icmp_lt (pc := 26) (tgt := 32) E dX5_append_26 (by decide) (fun qh26 => ?_) (fun qh26 => ?_) 
    · refine g_aload_n (pc := 32) E dX5_append_32 (i := 0) rfl rfl ?_
      refine g_getr (i := 183) (j := 176) (t := 5) (f := 6) (pc := 33) E dX5_append_33 fl_X5_47 rfl (by decide) (by decide) rfl rfl ?_
      refine g_getr (i := 176) (j := 177) (t := 1) (f := 0) (pc := 36) E dX5_append_36 fl_X5_314 rfl (by decide) (by decide) rfl rfl ?_
      refine g_iload_n (pc := 39) E dX5_append_39 (i := 1) rfl rfl ?_
      refine g_i2c (pc := 40) E dX5_append_40 (by omega) (by omega) ?_
      refine g_sbC (pc := 41) (i := 177) (v := cd) (Or.inl rfl) (by omega) (by omega) (by omega) E dX5_append_41 ml_X5_320 (by decide) rfl (Nat.le_of_ble_eq_true rfl) (by omega) ?_
      refine g_pop (pc := 44) E dX5_append_44 rfl ?_
      refine g_aload_n (pc := 45) E dX5_append_45 (i := 0) rfl rfl ?_
      refine g_getr (i := 183) (j := 176) (t := 5) (f := 6) (pc := 46) E dX5_append_46 fl_X5_47 rfl (by decide) (by decide) rfl rfl ?_
      refine g_getr (i := 176) (j := 177) (t := 1) (f := 0) (pc := 49) E dX5_append_49 fl_X5_314 rfl (by decide) (by decide) rfl rfl ?_
      refine g_sbLen (pc := 52) (i := 177) (Or.inl rfl) E dX5_append_52 ml_X5_317 (by decide) rfl (Nat.le_of_ble_eq_true rfl) (by decide) (fun hya52 hyb52 => ?_)
      refine g_top (apM_0 M 177 [cd]) ?_
      refine g_widen (k' := 1) (n' := 170) (by omega) (by omega) ?_
      refine g_iret (pc := 55) E hr dX5_append_55 ?_
      rw [if_neg (by omega), if_neg (by omega)]; exact ⟨rfl, rfl⟩
    · refine g_bipush (pc := 29) E dX5_append_29 rfl ?_
      refine g_widen (k' := 1) (n' := 170) (by omega) (by omega) ?_
      refine g_iret (pc := 31) E hr dX5_append_31 ?_
      rw [if_neg (by omega), if_pos (by omega)]; exact ⟨rfl, rfl⟩
  · replace qh8 := bi_0.mp qh8
    refine g_bipush (pc := 11) E dX5_append_11 rfl ?_
    refine g_widen (k' := 1) (n' := 170) (by omega) (by omega) ?_
    refine g_iret (pc := 13) E hr dX5_append_13 ?_
    rw [if_pos (by omega)]; exact ⟨rfl, rfl⟩

theorem ct5_written {cx : Cx} {M : Mem} {i : Int} (hi : -2147483648 ≤ i ∧ i ≤ 2147483647) : Ct cx yX5_written cX5_written 2 (some .int) 5 0 0 [rf cx 183, .int (oi i)] M (fun rz M' => wrS (M 182 0) (fun k => M 182 (k + 1)) i = rz ∧ M = M') := by
  refine ct_intro cd_X5_written (by decide +kernel) (Nat.le_of_ble_eq_true rfl) rfl (fun Pg Lc Ev s m args below meth c E hr => ?_)
  refine g_ent (ls' := [some (rf cx 183), some (.int (oi i))]) rfl ?_
  refine g_iload_n (pc := 0) E dX5_written_0 (i := 1) rfl rfl ?_
  refine g_if_lt (pc := 1) (tgt := 15) E dX5_written_1 (by decide) (fun qh1 => ?_) (fun qh1 => ?_) 
  · refine g_iconst (pc := 15) E dX5_written_15 rfl ?_
    refine g_iret (pc := 16) E hr dX5_written_16 ?_
    exact ⟨if_neg (by omega), rfl⟩
  · refine g_iload_n (pc := 4) E dX5_written_4 (i := 1) rfl rfl ?_
    refine g_aload_n (pc := 5) E dX5_written_5 (i := 0) rfl rfl ?_
    refine g_getr (i := 183) (j := 182) (t := 5) (f := 7) (pc := 6) E dX5_written_6 fl_X5_54 rfl (by decide) (by decide) rfl rfl ?_
    refine g_sbLen (pc := 9) (i := 182) (Or.inr rfl) E dX5_written_9 ml_X5_317 (by decide) rfl (Nat.le_of_ble_eq_true rfl) (by decide) (fun hza9 hzb9 => ?_)
    refine g_icmp_lt (pc := 12) (tgt := 17) E dX5_written_12 (by decide) (fun qh12 => ?_) (fun qh12 => ?_) 
    · refine g_aload_n (pc := 17) E dX5_written_17 (i := 0) rfl rfl ?_
      refine g_getr (i := 183) (j := 182) (t := 5) (f := 7) (pc := 18) E dX5_written_18 fl_X5_54 rfl (by decide) (by decide) rfl rfl ?_
      refine g_iload_n (pc := 21) E dX5_written_21 (i := 1) rfl rfl ?_
      refine g_sbChar (pc := 22) (i := 182) (x := i) (Or.inr rfl) (by omega) (by omega) E dX5_written_22 ml_X5_362 (by decide) rfl (Nat.le_of_ble_eq_true rfl) (by decide) (fun hca22 hcb22 => ?_)
      refine g_iret (pc := 25) E hr dX5_written_25 ?_
      exact ⟨if_pos (by omega), rfl⟩
    · refine g_iconst (pc := 15) E dX5_written_15 rfl ?_
      refine g_iret (pc := 16) E hr dX5_written_16 ?_
      exact ⟨if_neg (by omega), rfl⟩

/-- the class's record text is L -/
def MT5 (N : Mem) (L : List Int) : Prop := N 182 0 = L.length ∧ ∀ k : Int, 0 ≤ k → k < L.length → N 182 (k + 1) = gI L k
theorem gI_hi {L K : List Int} {k : Int} (h : (L.length : Int) ≤ k) : gI (L ++ K) k = K.getD (k - L.length).toNat 0 := by
  unfold gI
  rw [List.getD_eq_getElem?_getD, List.getD_eq_getElem?_getD, List.getElem?_append_right (by omega), show k.toNat - L.length = (k - (L.length : Int)).toNat by omega]
theorem MT5.app {N : Mem} {L : List Int} (h : MT5 N L) (cs : List Int) : MT5 (apM N 182 cs) (L ++ cs) := by
  obtain ⟨h1, h2⟩ := h
  refine ⟨by rw [apM_0, h1, len_app], fun k h0 hk => ?_⟩
  rw [len_app] at hk
  by_cases q : k < L.length
  · rw [apM_old (by omega) (by omega), gI_lo h0 q]
    exact h2 k h0 q
  · rw [gI_hi (by omega)]
    have e : k + 1 = N 182 0 + (((k - (L.length : Int)).toNat : Nat) : Int) + 1 := by omega
    rw [e, apM_new (by omega) (by omega)]
theorem MT5_0 (N : Mem) : MT5 (st N 182 0 0) [] := ⟨st_self _ _ _ _, fun k a b => by
  have : (([] : List Int).length : Int) = 0 := rfl
  omega⟩
def W5 (M N : Mem) : Prop := ∀ i, i ≠ 182 → N i = M i
theorem W5.rf (M : Mem) : W5 M M := fun _ _ => rfl
theorem W5.ap {M N : Mem} (h : W5 M N) (cs : List Int) : W5 M (apM N 182 cs) := fun i hi => by rw [apM_ne hi]; exact h i hi
theorem mk_ge {S : Int → Int} {s p : Int} (h : ¬ S (57 + 3 * (8 * s + p)) = 0) : ¬ mkS S s p < 0 ∧ (scS S s p < mkS S s p ↔ scS S s p < agS S s p) := by
  have := scS_R S s p
  unfold mkS
  rw [if_neg h]
  omega
theorem mk_no {S : Int → Int} {s p : Int} (h : S (57 + 3 * (8 * s + p)) = 0) : mkS S s p < 0 := by
  unfold mkS
  rw [if_pos h]
  decide

theorem W5.v {M N : Mem} {i : Nat} {x v : Int} (h : W5 M N) (hi : i ≠ 182) (e : M i x = v) : N i x = v := by rw [h i hi]; exact e
/-- letters before, and what a paper writes -/
def wpL (S : Int → Int) (s : Int) (k : Int) (L : List Int) : List Int := (((L ++ (if 0 < L.length then [59] else [])) ++ dgL k ++ [58]) ++ dgL (mkS S s k)) ++ (if scS S s k < agS S s k then [114] else []) ++ (if stA S (lkM S s (-1) 0) k = 2 then [99] else if stA S (lkM S s (-1) 0) k = 3 then [102] else [])
theorem wpL_wl {S : Int → Int} {s : Int} {k : Nat} (h : ¬ mkS S s k < 0) : wpL S s k (wlN S s k) = wlN S s (k + 1) := (wlN_1 h rfl rfl rfl).symm

theorem cv5_writePaper {cx : Cx} {M : Mem} {S : Int → Int} (hB : BD M S) (hV : SOK S) {sn p : Int} {L : List Int} (hs0 : 0 ≤ sn) (hs1 : sn < S 7) (hp0 : 0 ≤ p) (hp1 : p < S 6) (hf : ¬ S (57 + 3 * (8 * sn + p)) = 0) (hL : MT5 M L) (hl : L.length ≤ 56) (h168 : ∀ p, 0 ≤ p → p < S 6 → M 168 p = mkS S sn p) (h169 : ∀ p, 0 ≤ p → p < S 6 → M 169 p = stA S (lkM S sn (-1) 0) p) : Cv cx yX5_writePaper cX5_writePaper 3 6 6 1020 [rf cx 183, .int (oi sn), .int (oi p)] M (fun M' => W5 M M' ∧ MT5 M' (wpL S sn p L)) := by
  refine cv_intro cd_X5_writePaper (by decide +kernel) (Nat.le_of_ble_eq_true rfl) rfl (fun Pg Lc Ev s m args below meth c E hr => ?_)
  refine g_ent (ls' := [some (rf cx 183), some (.int (oi sn)), some (.int (oi p))]) rfl ?_
  have hV0 := hV.1
  have hB0 := hB.c0
  have hB1 := hB.c1
  have hB2 := hB.c2
  have hB3 := hB.c3
  have hm := mkS_R hV hs0 hs1 hp0 hp1
  have hg := mk_ge hf
  have hst := stA_R S (lkM S sn (-1) 0) p
  have hscR := scS_R S sn p
  have hBM := hB
  have hL1 := hL.1
  have dp := dgL_len p
  have dm := dgL_len (mkS S sn p)
  have d1 : ([58] : List Int).length = 1 := rfl
  have JP87 : ∀ (N : Mem) (K : List Int), W5 M N → MT5 N K → K = (((L ++ (if 0 < L.length then [59] else [])) ++ dgL p ++ [58]) ++ dgL (mkS S sn p)) ++ (if scS S sn p < agS S sn p then [114] else []) → K.length ≤ 65 → G cx Pg Lc Ev (rmD 6 6 1020) s m args below meth c (MQ below (QV cx (fun M' => W5 M M' ∧ MT5 M' (wpL S sn p L))) args s 6 1020 (cA0 cx)) 87 [some (rf cx 183), some (.int (oi sn)), some (.int (oi p))] [] (N) 5 850 := by
    intro N K hw hK eK hl1
    have hK1 := hK.1
    refine g_aload_n (pc := 87) E dX5_writePaper_87 (i := 0) rfl rfl ?_
    refine g_getr (i := 183) (j := 167) (t := 5) (f := 4) (pc := 88) E dX5_writePaper_88 fl_X5_33 rfl (by decide) (by decide) rfl rfl ?_
    refine g_getr (i := 167) (j := 169) (t := 4) (f := 1) (pc := 91) E dX5_writePaper_91 fl_X5_133 rfl (by decide) (by decide) rfl rfl ?_
    refine g_iload_n (pc := 94) E dX5_writePaper_94 (i := 2) rfl rfl ?_
    refine g_iald (pc := 95) E dX5_writePaper_95 rfl (by omega) (by omega) (hw.v (by decide) (h169 p hp0 hp1)) (fun _ _ => ?_)
    refine g_iconst (pc := 96) E dX5_writePaper_96 rfl ?_
    refine g_icmp_ne (pc := 97) (tgt := 110) E dX5_writePaper_97 (by decide) (fun qh97 => ?_) (fun qh97 => ?_) 
    · refine g_aload_n (pc := 110) E dX5_writePaper_110 (i := 0) rfl rfl ?_
      refine g_getr (i := 183) (j := 167) (t := 5) (f := 4) (pc := 111) E dX5_writePaper_111 fl_X5_33 rfl (by decide) (by decide) rfl rfl ?_
      refine g_getr (i := 167) (j := 169) (t := 4) (f := 1) (pc := 114) E dX5_writePaper_114 fl_X5_133 rfl (by decide) (by decide) rfl rfl ?_
      refine g_iload_n (pc := 117) E dX5_writePaper_117 (i := 2) rfl rfl ?_
      refine g_iald (pc := 118) E dX5_writePaper_118 rfl (by omega) (by omega) (hw.v (by decide) (h169 p hp0 hp1)) (fun _ _ => ?_)
      refine g_iconst (pc := 119) E dX5_writePaper_119 rfl ?_
      refine g_icmp_ne (pc := 120) (tgt := 133) E dX5_writePaper_120 (by decide) (fun qh120 => ?_) (fun qh120 => ?_) 
      · refine g_widen (k' := 6) (n' := 1020) (by omega) (by omega) ?_
        refine g_vret (pc := 133) E hr dX5_writePaper_133 ?_
        exact ⟨hw, by rw [wpL, ← eK, if_neg (by omega), if_neg (by omega), List.append_nil]; exact hK⟩
      · refine g_aload_n (pc := 123) E dX5_writePaper_123 (i := 0) rfl rfl ?_
        refine g_getr (i := 183) (j := 182) (t := 5) (f := 7) (pc := 124) E dX5_writePaper_124 fl_X5_54 rfl (by decide) (by decide) rfl rfl ?_
        refine g_bipush (pc := 127) E dX5_writePaper_127 rfl ?_
        refine g_sbC (pc := 129) (i := 182) (v := 102) (Or.inr rfl) (by decide) (by decide) (by omega) E dX5_writePaper_129 ml_X5_320 (by decide) rfl (Nat.le_of_ble_eq_true rfl) (by omega) ?_
        refine g_pop (pc := 132) E dX5_writePaper_132 rfl ?_
        refine g_widen (k' := 6) (n' := 1020) (by omega) (by omega) ?_
        refine g_vret (pc := 133) E hr dX5_writePaper_133 ?_
        exact ⟨(hw.ap _), by rw [wpL, ← eK, if_neg (by omega), if_pos (by omega)]; exact hK.app _⟩
    · refine g_aload_n (pc := 100) E dX5_writePaper_100 (i := 0) rfl rfl ?_
      refine g_getr (i := 183) (j := 182) (t := 5) (f := 7) (pc := 101) E dX5_writePaper_101 fl_X5_54 rfl (by decide) (by decide) rfl rfl ?_
      refine g_bipush (pc := 104) E dX5_writePaper_104 rfl ?_
      refine g_sbC (pc := 106) (i := 182) (v := 99) (Or.inr rfl) (by decide) (by decide) (by omega) E dX5_writePaper_106 ml_X5_320 (by decide) rfl (Nat.le_of_ble_eq_true rfl) (by omega) ?_
      refine g_pop (pc := 109) E dX5_writePaper_109 rfl ?_
      refine g_aload_n (pc := 110) E dX5_writePaper_110 (i := 0) rfl rfl ?_
      refine g_getr (i := 183) (j := 167) (t := 5) (f := 4) (pc := 111) E dX5_writePaper_111 fl_X5_33 rfl (by decide) (by decide) rfl rfl ?_
      refine g_getr (i := 167) (j := 169) (t := 4) (f := 1) (pc := 114) E dX5_writePaper_114 fl_X5_133 rfl (by decide) (by decide) rfl rfl ?_
      refine g_iload_n (pc := 117) E dX5_writePaper_117 (i := 2) rfl rfl ?_
      refine g_iald (pc := 118) E dX5_writePaper_118 rfl (by omega) (by omega) ((hw.ap _).v (by decide) (h169 p hp0 hp1)) (fun _ _ => ?_)
      refine g_iconst (pc := 119) E dX5_writePaper_119 rfl ?_
      refine g_icmp_ne (pc := 120) (tgt := 133) E dX5_writePaper_120 (by decide) (fun qh120 => ?_) (fun qh120 => absurd qh120 (by omega)) 
      refine g_widen (k' := 6) (n' := 1020) (by omega) (by omega) ?_
      refine g_vret (pc := 133) E hr dX5_writePaper_133 ?_
      exact ⟨(hw.ap _), by rw [wpL, ← eK, if_pos (by omega)]; exact hK.app _⟩
  have JP20 : ∀ (N : Mem) (K : List Int), W5 M N → MT5 N K → K = L ++ (if 0 < L.length then [59] else []) → K.length ≤ 57 → G cx Pg Lc Ev (rmD 6 6 1020) s m args below meth c (MQ below (QV cx (fun M' => W5 M M' ∧ MT5 M' (wpL S sn p L))) args s 6 1020 (cA0 cx)) 20 [some (rf cx 183), some (.int (oi sn)), some (.int (oi p))] [] (N) 1 170 := by
    intro N K hw hK eK hl1
    have hK1 := hK.1
    refine g_aload_n (pc := 20) E dX5_writePaper_20 (i := 0) rfl rfl ?_
    refine g_getr (i := 183) (j := 182) (t := 5) (f := 7) (pc := 21) E dX5_writePaper_21 fl_X5_54 rfl (by decide) (by decide) rfl rfl ?_
    refine g_iload_n (pc := 24) E dX5_writePaper_24 (i := 2) rfl rfl ?_
    refine g_sbI (pc := 25) (i := 182) (v := p) (Or.inr rfl) (by omega) (by omega) (by omega) E dX5_writePaper_25 ml_X5_358 (by decide) rfl (Nat.le_of_ble_eq_true rfl) (by omega) ?_
    refine g_pop (pc := 28) E dX5_writePaper_28 rfl ?_
    refine g_aload_n (pc := 29) E dX5_writePaper_29 (i := 0) rfl rfl ?_
    refine g_getr (i := 183) (j := 182) (t := 5) (f := 7) (pc := 30) E dX5_writePaper_30 fl_X5_54 rfl (by decide) (by decide) rfl rfl ?_
    refine g_bipush (pc := 33) E dX5_writePaper_33 rfl ?_
    have q35 := apM_0 N 182 (dgL p)
    refine g_sbC (pc := 35) (i := 182) (v := 58) (Or.inr rfl) (by decide) (by decide) (by omega) E dX5_writePaper_35 ml_X5_320 (by decide) rfl (Nat.le_of_ble_eq_true rfl) (by omega) ?_
    refine g_pop (pc := 38) E dX5_writePaper_38 rfl ?_
    refine g_aload_n (pc := 39) E dX5_writePaper_39 (i := 0) rfl rfl ?_
    refine g_getr (i := 183) (j := 182) (t := 5) (f := 7) (pc := 40) E dX5_writePaper_40 fl_X5_54 rfl (by decide) (by decide) rfl rfl ?_
    refine g_aload_n (pc := 43) E dX5_writePaper_43 (i := 0) rfl rfl ?_
    refine g_getr (i := 183) (j := 167) (t := 5) (f := 4) (pc := 44) E dX5_writePaper_44 fl_X5_33 rfl (by decide) (by decide) rfl rfl ?_
    refine g_getr (i := 167) (j := 168) (t := 4) (f := 0) (pc := 47) E dX5_writePaper_47 fl_X5_361 rfl (by decide) (by decide) rfl rfl ?_
    refine g_iload_n (pc := 50) E dX5_writePaper_50 (i := 2) rfl rfl ?_
    refine g_iald (pc := 51) E dX5_writePaper_51 rfl (by omega) (by omega) (((hw.ap _).ap _).v (by decide) (h168 p hp0 hp1)) (fun _ _ => ?_)
    have q52 := apM_0 (apM N 182 (dgL p)) 182 [58]
    refine g_sbI (pc := 52) (i := 182) (v := mkS S sn p) (Or.inr rfl) (by omega) (by omega) (by omega) E dX5_writePaper_52 ml_X5_358 (by decide) rfl (Nat.le_of_ble_eq_true rfl) (by omega) ?_
    refine g_pop (pc := 55) E dX5_writePaper_55 rfl ?_
    refine g_aload_n (pc := 56) E dX5_writePaper_56 (i := 0) rfl rfl ?_
    refine g_getr (i := 183) (j := 167) (t := 5) (f := 4) (pc := 57) E dX5_writePaper_57 fl_X5_33 rfl (by decide) (by decide) rfl rfl ?_
    refine g_getr (i := 167) (j := 168) (t := 4) (f := 0) (pc := 60) E dX5_writePaper_60 fl_X5_361 rfl (by decide) (by decide) rfl rfl ?_
    refine g_iload_n (pc := 63) E dX5_writePaper_63 (i := 2) rfl rfl ?_
    refine g_iald (pc := 64) E dX5_writePaper_64 rfl (by omega) (by omega) ((((hw.ap _).ap _).ap _).v (by decide) (h168 p hp0 hp1)) (fun _ _ => ?_)
    refine g_aload_n (pc := 65) E dX5_writePaper_65 (i := 0) rfl rfl ?_
    refine g_getr (i := 183) (j := 0) (t := 5) (f := 0) (pc := 66) E dX5_writePaper_66 fl_X5_12 rfl (by decide) (by decide) rfl rfl ?_
    refine g_iload_n (pc := 69) E dX5_writePaper_69 (i := 1) rfl rfl ?_
    refine g_iload_n (pc := 70) E dX5_writePaper_70 (i := 2) rfl rfl ?_
    refine g_callV (pc := 71) (As := [_, _]) E dX5_writePaper_71 ml_X5_182 (ct_firstScaled (hBM.congr (fun i hi => (((hw.ap _).ap _).ap _) i (by omega))) hV (by omega) (by omega) (by omega) (by omega)) rfl rfl rfl rfl (by decide) (by decide) rfl (Nat.le_of_ble_eq_true rfl) (by decide) (fun x71 M71 hM71 => ?_)
    obtain ⟨rfl, rfl⟩ := hM71
    refine g_icmp_le (pc := 74) (tgt := 87) E dX5_writePaper_74 (by decide) (fun qh74 => ?_) (fun qh74 => ?_) 
    · refine g_widen (k' := 5) (n' := 850) (by decide) (by decide) ?_
      exact g_wk2 (JP87 _ _ (((hw.ap _).ap _).ap _) (((hK.app _).app _).app _) (by rw [eK, if_neg (c := scS S sn p < agS S sn p) (by omega), List.append_nil]) (by simp only [List.length_append, List.length_cons, List.length_nil]; have := dgL_len p; have := dgL_len (mkS S sn p); omega)) ⟨rfl, rfl, rfl, trivial⟩
    · refine g_aload_n (pc := 77) E dX5_writePaper_77 (i := 0) rfl rfl ?_
      refine g_getr (i := 183) (j := 182) (t := 5) (f := 7) (pc := 78) E dX5_writePaper_78 fl_X5_54 rfl (by decide) (by decide) rfl rfl ?_
      refine g_bipush (pc := 81) E dX5_writePaper_81 rfl ?_
      have q83 := apM_0 (apM (apM N 182 (dgL p)) 182 [58]) 182 (dgL (mkS S sn p))
      refine g_sbC (pc := 83) (i := 182) (v := 114) (Or.inr rfl) (by decide) (by decide) (by omega) E dX5_writePaper_83 ml_X5_320 (by decide) rfl (Nat.le_of_ble_eq_true rfl) (by omega) ?_
      refine g_pop (pc := 86) E dX5_writePaper_86 rfl ?_
      exact g_wk2 (JP87 _ _ ((((hw.ap _).ap _).ap _).ap _) ((((hK.app _).app _).app _).app _) (by rw [eK, if_pos (c := scS S sn p < agS S sn p) (by omega)]) (by simp only [List.length_append, List.length_cons, List.length_nil]; have := dgL_len p; have := dgL_len (mkS S sn p); omega)) ⟨rfl, rfl, rfl, trivial⟩
  refine g_aload_n (pc := 0) E dX5_writePaper_0 (i := 0) rfl rfl ?_
  refine g_getr (i := 183) (j := 182) (t := 5) (f := 7) (pc := 1) E dX5_writePaper_1 fl_X5_54 rfl (by decide) (by decide) rfl rfl ?_
  refine g_sbLen (pc := 4) (i := 182) (Or.inr rfl) E dX5_writePaper_4 ml_X5_317 (by decide) rfl (Nat.le_of_ble_eq_true rfl) (by decide) (fun hza4 hzb4 => ?_)
  refine g_if_le (pc := 7) (tgt := 20) E dX5_writePaper_7 (by decide) (fun qh7 => ?_) (fun qh7 => ?_) 
  · refine g_widen (k' := 1) (n' := 170) (by decide) (by decide) ?_
    exact g_wk2 (JP20 _ _ (W5.rf M) hL (by rw [if_neg (by omega), List.append_nil]) (by omega)) ⟨rfl, rfl, rfl, trivial⟩
  · refine g_aload_n (pc := 10) E dX5_writePaper_10 (i := 0) rfl rfl ?_
    refine g_getr (i := 183) (j := 182) (t := 5) (f := 7) (pc := 11) E dX5_writePaper_11 fl_X5_54 rfl (by decide) (by decide) rfl rfl ?_
    refine g_bipush (pc := 14) E dX5_writePaper_14 rfl ?_
    refine g_sbC (pc := 16) (i := 182) (v := 59) (Or.inr rfl) (by decide) (by decide) (by omega) E dX5_writePaper_16 ml_X5_320 (by decide) rfl (Nat.le_of_ble_eq_true rfl) (by omega) ?_
    refine g_pop (pc := 19) E dX5_writePaper_19 rfl ?_
    exact g_wk2 (JP20 _ _ ((W5.rf M).ap _) (hL.app _) (by rw [if_pos (by omega)]) (by simp only [List.length_append, List.length_cons, List.length_nil]; omega)) ⟨rfl, rfl, rfl, trivial⟩

theorem wpL_s {S : Int → Int} {s x : Int} (h0 : 0 ≤ x) (h : ¬ mkS S s x < 0) : wpL S s x (wlN S s x.toNat) = wlN S s (x + 1).toNat := by
  have e : ((x.toNat : Nat) : Int) = x := Int.toNat_of_nonneg h0
  rw [show (x + 1).toNat = x.toNat + 1 by omega, ← wpL_wl (by rw [e]; exact h), e]
theorem wlN_s {S : Int → Int} {s x : Int} (h0 : 0 ≤ x) (h : mkS S s x < 0) : wlN S s (x + 1).toNat = wlN S s x.toNat := by
  have e : ((x.toNat : Nat) : Int) = x := Int.toNat_of_nonneg h0
  rw [show (x + 1).toNat = x.toNat + 1 by omega, wlN_0 (by rw [e]; exact h)]

theorem ct5_write {cx : Cx} {M : Mem} {S : Int → Int} (hB : BD M S) (hV : SOK S) {sn : Int} (hsn : -2147483648 ≤ sn ∧ sn ≤ 2147483647) : Ct cx yX5_write cX5_write 3 (some .int) 7 49 8330 [rf cx 183, .int (oi sn)] M (fun rz M' => (¬ inT S sn → rz = -1 ∧ M = M') ∧ (inT S sn → rz = (wlS S sn).length ∧ MT5 M' (wlS S sn) ∧ ∀ i, i ≠ 182 → (i < 167 ∨ 175 < i) → M' i = M i)) := by
  refine ct_intro cd_X5_write (by decide +kernel) (Nat.le_of_ble_eq_true rfl) rfl (fun Pg Lc Ev s m args below meth c E hr => ?_)
  refine g_ent (ls' := [some (rf cx 183), some (.int (oi sn)), none]) rfl ?_
  have hV0 := hV.1
  have hB0 := hB.c0
  have hB1 := hB.c1
  have hB2 := hB.c2
  have hB3 := hB.c3
  refine g_aload_n (pc := 0) E dX5_write_0 (i := 0) rfl rfl ?_
  refine g_getr (i := 183) (j := 0) (t := 5) (f := 0) (pc := 1) E dX5_write_1 fl_X5_12 rfl (by decide) (by decide) rfl rfl ?_
  refine g_iload_n (pc := 4) E dX5_write_4 (i := 1) rfl rfl ?_
  refine g_callV (pc := 5) (As := [_]) E dX5_write_5 ml_X5_164 (ct_hasStudent hB hV (by omega)) rfl rfl rfl rfl (by decide) (by decide) rfl (Nat.le_of_ble_eq_true rfl) (by decide) (fun x5 M5 hM5 => ?_)
  obtain ⟨rfl, rfl⟩ := hM5
  refine g_if_ne (pc := 8) (tgt := 13) E dX5_write_8 (by decide) (fun qh8 => ?_) (fun qh8 => ?_) (Int.le_trans (by decide) (bi_R _).1) (Int.le_trans (bi_R _).2 (by decide))
  · replace qh8 := bi_n.mp qh8
    refine g_aload_n (pc := 13) E dX5_write_13 (i := 0) rfl rfl ?_
    refine g_getr (i := 183) (j := 167) (t := 5) (f := 4) (pc := 14) E dX5_write_14 fl_X5_33 rfl (by decide) (by decide) rfl rfl ?_
    refine g_aload_n (pc := 17) E dX5_write_17 (i := 0) rfl rfl ?_
    refine g_getr (i := 183) (j := 0) (t := 5) (f := 0) (pc := 18) E dX5_write_18 fl_X5_12 rfl (by decide) (by decide) rfl rfl ?_
    refine g_iload_n (pc := 21) E dX5_write_21 (i := 1) rfl rfl ?_
    refine g_callVv (pc := 22) (As := [_, _]) E dX5_write_22 ml_X5_129 (cv_assess hB hV (by omega) (by omega)) rfl rfl rfl rfl (by decide) (by decide) rfl (Nat.le_of_ble_eq_true rfl) (by decide) (fun M22 hM22 => ?_)
    have hsd := hM22
    have hB22 : BD M22 S := hsd.sc.b hB
    refine g_aload_n (pc := 25) E dX5_write_25 (i := 0) rfl rfl ?_
    refine g_getr (i := 183) (j := 182) (t := 5) (f := 7) (pc := 26) E dX5_write_26 fl_X5_54 rfl (by decide) (by decide) rfl rfl ?_
    refine g_iconst (pc := 29) E dX5_write_29 rfl ?_
    refine g_sb0 (pc := 30) (i := 182) (Or.inr rfl) E dX5_write_30 ml_X5_327 (by decide) rfl (Nat.le_of_ble_eq_true rfl) (by omega) ?_
    refine g_iconst (pc := 33) E dX5_write_33 rfl ?_
    refine g_widen (k' := 6 * (0 : Int).toNat + 1) (n' := 1020 * (0 : Int).toNat + 170) (by decide) (by decide) ?_
    refine g_istore_n (pc := 34) E dX5_write_34 (i := 2) (ls' := [_, _, _]) rfl (Nat.le_of_ble_eq_true rfl) rfl ?_
    have LP35 : ∀ (n : Nat) (N : Mem) (x : Int), S 6 - x < (n : Int) → 0 ≤ x → x ≤ S 6 → W5 M22 N → MT5 N (wlN S sn x.toNat) → G cx Pg Lc Ev (rmD 7 49 8330) s m args below meth c (MQ below (QI cx (fun rz M' => (¬ inT S sn → rz = -1 ∧ M = M') ∧ (inT S sn → rz = (wlS S sn).length ∧ MT5 M' (wlS S sn) ∧ ∀ i, i ≠ 182 → (i < 167 ∨ 175 < i) → M' i = M i))) args s 49 8330 (cA0 cx)) 35 [some (rf cx 183), some (.int (oi sn)), some (.int (oi x))] [] (N) (6 * x.toNat + 1) (1020 * x.toNat + 170) := by
      intro n
      induction n with
      | zero => intro N x hn hx0 hx1 hw hL; exact absurd hn (by omega)
      | succ n ih35 =>
        intro N x hn hx0 hx1 hw hL
        have hB : BD N S := hB22.congr (fun i hi => hw i (by omega))
        have hwl := wlN_len S sn x.toNat (by omega)
        have hB0 := hB.c0
        have hB1 := hB.c1
        have hB2 := hB.c2
        have hB3 := hB.c3
        refine g_iload_n (pc := 35) E dX5_write_35 (i := 2) rfl rfl ?_
        refine g_aload_n (pc := 36) E dX5_write_36 (i := 0) rfl rfl ?_
        refine g_getr (i := 183) (j := 0) (t := 5) (f := 0) (pc := 37) E dX5_write_37 fl_X5_12 rfl (by decide) (by decide) rfl rfl ?_
        refine g_geti (i := 0) (t := 0) (f := 1) (fz := 1) (pc := 40) E dX5_write_40 fl_X5_94 rfl (by decide) (by decide) rfl rfl hB.c1 (fun _ _ => ?_)
        refine g_icmp_ge (pc := 43) (tgt := 70) E dX5_write_43 (by decide) (fun qh43 => ?_) (fun qh43 => ?_) 
        · refine g_aload_n (pc := 70) E dX5_write_70 (i := 0) rfl rfl ?_
          refine g_getr (i := 183) (j := 182) (t := 5) (f := 7) (pc := 71) E dX5_write_71 fl_X5_54 rfl (by decide) (by decide) rfl rfl ?_
          refine g_sbLen (pc := 74) (i := 182) (Or.inr rfl) E dX5_write_74 ml_X5_317 (by decide) rfl (Nat.le_of_ble_eq_true rfl) (by omega) (fun hza74 hzb74 => ?_)
          refine g_widen (k' := 49) (n' := 8330) (by omega) (by omega) ?_
          refine g_iret (pc := 77) E hr dX5_write_77 ?_
          rw [show x = S 6 by omega] at hL
          exact ⟨fun h => absurd qh8 h, fun _ => ⟨hL.1, hL, fun i a b => (hw i a).trans (hsd.1 i (by omega))⟩⟩
        · refine g_aload_n (pc := 46) E dX5_write_46 (i := 0) rfl rfl ?_
          refine g_getr (i := 183) (j := 0) (t := 5) (f := 0) (pc := 47) E dX5_write_47 fl_X5_12 rfl (by decide) (by decide) rfl rfl ?_
          refine g_iload_n (pc := 50) E dX5_write_50 (i := 1) rfl rfl ?_
          refine g_iload_n (pc := 51) E dX5_write_51 (i := 2) rfl rfl ?_
          refine g_callV (pc := 52) (As := [_, _]) E dX5_write_52 ml_X5_167 (ct_hasFirst hB hV (by omega) (by omega) (by omega) (by omega)) rfl rfl rfl rfl (by decide) (by decide) rfl (Nat.le_of_ble_eq_true rfl) (by omega) (fun x52 M52 hM52 => ?_)
          obtain ⟨rfl, rfl⟩ := hM52
          refine g_if_eq (pc := 55) (tgt := 64) E dX5_write_55 (by decide) (fun qh55 => ?_) (fun qh55 => ?_) (Int.le_trans (by decide) (bi_R _).1) (Int.le_trans (bi_R _).2 (by decide))
          · replace qh55 := Classical.not_not.mp (bi_0.mp qh55)
            refine g_iinc (pc := 64) E dX5_write_64 (ls' := [_, _, _]) rfl rfl rfl ?_
            refine g_widen (k' := 6 * (x + 1).toNat + 1) (n' := 1020 * (x + 1).toNat + 170) (by omega) (by omega) ?_
            refine g_goto (pc := 67) (tgt := 35) E dX5_write_67 (by decide) ?_
            exact g_wk2 (ih35 N (x + 1) (by omega) (by omega) (by omega) hw (by rw [wlN_s hx0 (mk_no qh55)]; exact hL)) ⟨rfl, rfl, rfl, trivial⟩
          · replace qh55 := bi_n.mp qh55
            refine g_aload_n (pc := 58) E dX5_write_58 (i := 0) rfl rfl ?_
            refine g_iload_n (pc := 59) E dX5_write_59 (i := 1) rfl rfl ?_
            refine g_iload_n (pc := 60) E dX5_write_60 (i := 2) rfl rfl ?_
            refine g_callVv (pc := 61) (As := [_, _]) E dX5_write_61 ml_X5_354 (cv5_writePaper hB hV (by omega) (by omega) (by omega) (by omega) qh55 hL (by omega) (fun p a b => hw.v (by decide) ((hsd.2.1 p a b).trans (lk_mk S sn a))) (fun p a b => hw.v (by decide) (hsd.st p a b))) rfl rfl rfl rfl (by decide) (by decide) rfl (Nat.le_of_ble_eq_true rfl) (by omega) (fun M61 hM61 => ?_)
            have hq61 := hM61
            refine g_iinc (pc := 64) E dX5_write_64 (ls' := [_, _, _]) rfl rfl rfl ?_
            refine g_widen (k' := 6 * (x + 1).toNat + 1) (n' := 1020 * (x + 1).toNat + 170) (by omega) (by omega) ?_
            refine g_goto (pc := 67) (tgt := 35) E dX5_write_67 (by decide) ?_
            exact g_wk2 (ih35 M61 (x + 1) (by omega) (by omega) (by omega) (fun i hi => (hM61.1 i hi).trans (hw i hi)) (by rw [← wpL_s hx0 (mk_ge qh55).1]; exact hM61.2)) ⟨rfl, rfl, rfl, trivial⟩
    exact g_wk2 (LP35 (S 6 + 1).toNat _ 0 (by omega) (by omega) (by omega) (fun i hi => st_ne hi) (MT5_0 _)) ⟨rfl, rfl, rfl, trivial⟩
  · replace qh8 := bi_0.mp qh8
    refine g_iconst (pc := 11) E dX5_write_11 rfl ?_
    refine g_widen (k' := 49) (n' := 8330) (by omega) (by omega) ?_
    refine g_iret (pc := 12) E hr dX5_write_12 ?_
    exact ⟨fun _ => ⟨rfl, rfl⟩, fun h => absurd h qh8⟩

set_option maxHeartbeats 1000000 in
theorem ct5_account {cx : Cx} {M : Mem} {S : Int → Int} (hB : BD M S) (hV : SOK S) (hI : SI S) {w : Int} (hw : -2147483648 ≤ w ∧ w ≤ 2147483647) (h2 : 0 ≤ M 165 2 ∧ M 165 2 ≤ 8) : Ct cx yX5_account cX5_account 2 (some .int) 7 0 0 [rf cx 183, .int (oi w)] M (fun rz M' => acS S (M 177 0) (M 165 2) w = rz ∧ SC5 M M') := by
  refine ct_intro cd_X5_account (by decide +kernel) (Nat.le_of_ble_eq_true rfl) rfl (fun Pg Lc Ev s m args below meth c E hr => ?_)
  refine g_ent (ls' := [some (rf cx 183), some (.int (oi w))]) rfl ?_
  have hV0 := hV.1
  have hB0 := hB.c0
  have hB1 := hB.c1
  have hB2 := hB.c2
  have hB3 := hB.c3
  refine g_iload_n (pc := 0) E dX5_account_0 (i := 1) rfl rfl ?_
  refine g_bipush (pc := 1) E dX5_account_1 rfl ?_
  refine g_bipush (pc := 3) E dX5_account_3 rfl ?_
  refine g_callS (pc := 5) (As := [_, _, _]) E dX5_account_5 ml_X5_80 (ct_isWithin (by omega) (by omega) (by omega)) rfl rfl (by decide) (by decide) rfl (Nat.le_of_ble_eq_true rfl) (by decide) (fun x5 M5 hM5 => ?_)
  obtain ⟨rfl, rfl⟩ := hM5
  refine g_if_eq (pc := 8) (tgt := 24) E dX5_account_8 (by decide) (fun qh8 => ?_) (fun qh8 => ?_) (Int.le_trans (by decide) (bi_R _).1) (Int.le_trans (bi_R _).2 (by decide))
  · replace qh8 := bi_0.mp qh8
    refine g_iload_n (pc := 24) E dX5_account_24 (i := 1) rfl rfl ?_
    by_cases qs25_0 : w = 0
    · refine g_tableIn (pc := 25) (tgt := 84) (off := 59) E dX5_account_25 (by omega) (by omega) (by rw [qs25_0]; rfl) (by decide) ?_
      refine g_aload_n (pc := 84) E dX5_account_84 (i := 0) rfl rfl ?_
      refine g_getr (i := 183) (j := 0) (t := 5) (f := 0) (pc := 85) E dX5_account_85 fl_X5_12 rfl (by decide) (by decide) rfl rfl ?_
      refine g_geti (i := 0) (t := 0) (f := 0) (fz := 0) (pc := 88) E dX5_account_88 fl_X5_84 rfl (by decide) (by decide) rfl rfl hB.c0 (fun _ _ => ?_)
      refine g_iret (pc := 91) E hr dX5_account_91 ?_
      subst qs25_0
      exact ⟨rfl, SC5.rf _⟩
    by_cases qs25_1 : w = 1
    · refine g_tableIn (pc := 25) (tgt := 92) (off := 67) E dX5_account_25 (by omega) (by omega) (by rw [qs25_1]; rfl) (by decide) ?_
      refine g_aload_n (pc := 92) E dX5_account_92 (i := 0) rfl rfl ?_
      refine g_getr (i := 183) (j := 0) (t := 5) (f := 0) (pc := 93) E dX5_account_93 fl_X5_12 rfl (by decide) (by decide) rfl rfl ?_
      refine g_geti (i := 0) (t := 0) (f := 1) (fz := 1) (pc := 96) E dX5_account_96 fl_X5_94 rfl (by decide) (by decide) rfl rfl hB.c1 (fun _ _ => ?_)
      refine g_iret (pc := 99) E hr dX5_account_99 ?_
      subst qs25_1
      exact ⟨rfl, SC5.rf _⟩
    by_cases qs25_2 : w = 2
    · refine g_tableIn (pc := 25) (tgt := 100) (off := 75) E dX5_account_25 (by omega) (by omega) (by rw [qs25_2]; rfl) (by decide) ?_
      refine g_aload_n (pc := 100) E dX5_account_100 (i := 0) rfl rfl ?_
      refine g_getr (i := 183) (j := 0) (t := 5) (f := 0) (pc := 101) E dX5_account_101 fl_X5_12 rfl (by decide) (by decide) rfl rfl ?_
      refine g_geti (i := 0) (t := 0) (f := 2) (fz := 2) (pc := 104) E dX5_account_104 fl_X5_109 rfl (by decide) (by decide) rfl rfl hB.c2 (fun _ _ => ?_)
      refine g_iret (pc := 107) E hr dX5_account_107 ?_
      subst qs25_2
      exact ⟨rfl, SC5.rf _⟩
    by_cases qs25_3 : w = 3
    · refine g_tableIn (pc := 25) (tgt := 108) (off := 83) E dX5_account_25 (by omega) (by omega) (by rw [qs25_3]; rfl) (by decide) ?_
      refine g_aload_n (pc := 108) E dX5_account_108 (i := 0) rfl rfl ?_
      refine g_getr (i := 183) (j := 0) (t := 5) (f := 0) (pc := 109) E dX5_account_109 fl_X5_12 rfl (by decide) (by decide) rfl rfl ?_
      refine g_geti (i := 0) (t := 0) (f := 3) (fz := 3) (pc := 112) E dX5_account_112 fl_X5_191 rfl (by decide) (by decide) rfl rfl hB.c3 (fun _ _ => ?_)
      refine g_iret (pc := 115) E hr dX5_account_115 ?_
      subst qs25_3
      exact ⟨rfl, SC5.rf _⟩
    by_cases qs25_4 : w = 4
    · refine g_tableIn (pc := 25) (tgt := 116) (off := 91) E dX5_account_25 (by omega) (by omega) (by rw [qs25_4]; rfl) (by decide) ?_
      refine g_aload_n (pc := 116) E dX5_account_116 (i := 0) rfl rfl ?_
      refine g_getr (i := 183) (j := 0) (t := 5) (f := 0) (pc := 117) E dX5_account_117 fl_X5_12 rfl (by decide) (by decide) rfl rfl ?_
      refine g_callV (pc := 120) (As := []) E dX5_account_120 ml_X5_366 (ct_resitCount hB hV hI) rfl rfl rfl rfl (by decide) (by decide) rfl (Nat.le_of_ble_eq_true rfl) (by decide) (fun x120 M120 hM120 => ?_)
      obtain ⟨rfl, rfl⟩ := hM120
      refine g_iret (pc := 123) E hr dX5_account_123 ?_
      subst qs25_4
      exact ⟨rfl, SC5.rf _⟩
    by_cases qs25_5 : w = 5
    · refine g_tableIn (pc := 25) (tgt := 124) (off := 99) E dX5_account_25 (by omega) (by omega) (by rw [qs25_5]; rfl) (by decide) ?_
      refine g_aload_n (pc := 124) E dX5_account_124 (i := 0) rfl rfl ?_
      refine g_getr (i := 183) (j := 0) (t := 5) (f := 0) (pc := 125) E dX5_account_125 fl_X5_12 rfl (by decide) (by decide) rfl rfl ?_
      refine g_callV (pc := 128) (As := []) E dX5_account_128 ml_X5_369 (ct_absenceCount hB hV hI) rfl rfl rfl rfl (by decide) (by decide) rfl (Nat.le_of_ble_eq_true rfl) (by decide) (fun x128 M128 hM128 => ?_)
      obtain ⟨rfl, rfl⟩ := hM128
      refine g_iret (pc := 131) E hr dX5_account_131 ?_
      subst qs25_5
      exact ⟨rfl, SC5.rf _⟩
    by_cases qs25_6 : w = 6
    · refine g_tableIn (pc := 25) (tgt := 132) (off := 107) E dX5_account_25 (by omega) (by omega) (by rw [qs25_6]; rfl) (by decide) ?_
      refine g_aload_n (pc := 132) E dX5_account_132 (i := 0) rfl rfl ?_
      refine g_getr (i := 183) (j := 0) (t := 5) (f := 0) (pc := 133) E dX5_account_133 fl_X5_12 rfl (by decide) (by decide) rfl rfl ?_
      refine g_callV (pc := 136) (As := []) E dX5_account_136 ml_X5_372 (ct_markSum hB hV hI) rfl rfl rfl rfl (by decide) (by decide) rfl (Nat.le_of_ble_eq_true rfl) (by decide) (fun x136 M136 hM136 => ?_)
      obtain ⟨rfl, rfl⟩ := hM136
      refine g_iret (pc := 139) E hr dX5_account_139 ?_
      subst qs25_6
      exact ⟨rfl, SC5.rf _⟩
    by_cases qs25_7 : w = 7
    · refine g_tableIn (pc := 25) (tgt := 140) (off := 115) E dX5_account_25 (by omega) (by omega) (by rw [qs25_7]; rfl) (by decide) ?_
      refine g_aload_n (pc := 140) E dX5_account_140 (i := 0) rfl rfl ?_
      refine g_getr (i := 183) (j := 0) (t := 5) (f := 0) (pc := 141) E dX5_account_141 fl_X5_12 rfl (by decide) (by decide) rfl rfl ?_
      refine g_callV (pc := 144) (As := []) E dX5_account_144 ml_X5_375 (ct_countingCredits hB hV) rfl rfl rfl rfl (by decide) (by decide) rfl (Nat.le_of_ble_eq_true rfl) (by decide) (fun x144 M144 hM144 => ?_)
      obtain ⟨rfl, rfl⟩ := hM144
      refine g_iret (pc := 147) E hr dX5_account_147 ?_
      subst qs25_7
      exact ⟨rfl, SC5.rf _⟩
    by_cases qs25_8 : w = 8
    · refine g_tableIn (pc := 25) (tgt := 148) (off := 123) E dX5_account_25 (by omega) (by omega) (by rw [qs25_8]; rfl) (by decide) ?_
      refine g_aload_n (pc := 148) E dX5_account_148 (i := 0) rfl rfl ?_
      refine g_callV (pc := 149) (As := []) E dX5_account_149 ml_X5_378 (ct5_allPassedCredits hB hV) rfl rfl rfl rfl (by decide) (by decide) rfl (Nat.le_of_ble_eq_true rfl) (by decide) (fun x149 M149 hM149 => ?_)
      obtain ⟨rfl, hsc⟩ := hM149
      refine g_iret (pc := 152) E hr dX5_account_152 ?_
      subst qs25_8
      exact ⟨rfl, hsc⟩
    by_cases qs25_9 : w = 9
    · refine g_tableIn (pc := 25) (tgt := 153) (off := 128) E dX5_account_25 (by omega) (by omega) (by rw [qs25_9]; rfl) (by decide) ?_
      refine g_aload_n (pc := 153) E dX5_account_153 (i := 0) rfl rfl ?_
      refine g_getr (i := 183) (j := 176) (t := 5) (f := 6) (pc := 154) E dX5_account_154 fl_X5_47 rfl (by decide) (by decide) rfl rfl ?_
      refine g_getr (i := 176) (j := 177) (t := 1) (f := 0) (pc := 157) E dX5_account_157 fl_X5_314 rfl (by decide) (by decide) rfl rfl ?_
      refine g_sbLen (pc := 160) (i := 177) (Or.inl rfl) E dX5_account_160 ml_X5_317 (by decide) rfl (Nat.le_of_ble_eq_true rfl) (by decide) (fun hza160 hzb160 => ?_)
      refine g_iret (pc := 163) E hr dX5_account_163 ?_
      subst qs25_9
      exact ⟨rfl, SC5.rf _⟩
    by_cases qs25_10 : w = 10
    · refine g_tableIn (pc := 25) (tgt := 164) (off := 139) E dX5_account_25 (by omega) (by omega) (by rw [qs25_10]; rfl) (by decide) ?_
      refine g_aload_n (pc := 164) E dX5_account_164 (i := 0) rfl rfl ?_
      refine g_getr (i := 183) (j := 165) (t := 5) (f := 3) (pc := 165) E dX5_account_165 fl_X5_26 rfl (by decide) (by decide) rfl rfl ?_
      refine g_geti (i := 165) (t := 2) (f := 2) (fz := 2) (pc := 168) E dX5_account_168 fl_X5_381 rfl (by decide) (by decide) rfl rfl rfl (fun _ _ => ?_)
      refine g_iret (pc := 171) E hr dX5_account_171 ?_
      subst qs25_10
      exact ⟨rfl, SC5.rf _⟩
    refine g_tableOut (pc := 25) (tgt := 172) E dX5_account_25 (by omega) (by decide) ?_
    refine g_bipush (pc := 172) E dX5_account_172 rfl ?_
    refine g_iret (pc := 174) E hr dX5_account_174 ?_
    exact ⟨by rw [acS, if_neg (by omega), if_neg (by omega), if_neg (by omega), if_neg (by omega), if_neg (by omega), if_neg (by omega), if_neg (by omega), if_neg (by omega)], SC5.rf M⟩
  · replace qh8 := bi_n.mp qh8
    refine g_aload_n (pc := 11) E dX5_account_11 (i := 0) rfl rfl ?_
    refine g_getr (i := 183) (j := 0) (t := 5) (f := 0) (pc := 12) E dX5_account_12 fl_X5_12 rfl (by decide) (by decide) rfl rfl ?_
    refine g_getr (i := 0) (j := 1) (t := 0) (f := 4) (pc := 15) E dX5_account_15 fl_X5_72 rfl (by decide) (by decide) rfl rfl ?_
    refine g_iload_n (pc := 18) E dX5_account_18 (i := 1) rfl rfl ?_
    refine g_bipush (pc := 19) E dX5_account_19 rfl ?_
    refine g_isub (pc := 21) E dX5_account_21 ?_
    refine g_iald (q := 5) (pc := 22) E dX5_account_22 rfl (by omega) (by omega) (hB.f1 _ (by omega) (by omega)) (fun _ _ => ?_)
    refine g_iret (pc := 23) E hr dX5_account_23 ?_
    exact ⟨by rw [acS, if_neg (by omega), if_neg (by omega), if_neg (by omega), if_neg (by omega), if_neg (by omega), if_neg (by omega), if_neg (by omega), if_pos (by omega)], SC5.rf M⟩

/-- what the class's reading does -/
def RB5 (i : Nat) : Prop := i < 176 ∨ 181 < i
def sl (M : Mem) (i : Nat) : Prop := 15 ≤ i ∧ (i < 15 * ((M 165 1).toNat + 2) ∨ 15 * ((M 165 1).toNat + 2) + 15 ≤ i)
def RD5 (M : Mem) (S X : Int → Int) (tn rz : Int) (M' : Mem) : Prop := M' 177 0 = 0 ∧ ∃ c : Nat, CH X tn c ∧
  (((¬ eOK X tn (ep X tn c) ∨ (eOK X tn (ep X tn c) ∧ eE X tn (ep X tn c) < tn ∧ ¬ hereS X tn (eE X tn (ep X tn c)) = 59)) ∧ rz = -1000 - eE X tn (ep X tn c) ∧ ∀ i, RB5 i → M' i = M i) ∨
   (eOK X tn (ep X tn c) ∧ tn ≤ eE X tn (ep X tn c) ∧ ((∃ v : Nat, v ≤ c ∧ (∀ j : Nat, j < v → rsN S X tn j = 0) ∧ ¬ rsN S X tn v = 0 ∧ rz = -4 ∧ BD M' S ∧ M' 183 8 = rsN S X tn v ∧ M' 183 9 = v ∧ M' 183 10 = abE S X tn v ∧ (∀ f : Int, f ≠ 8 → f ≠ 9 → f ≠ 10 → M' 183 f = M 183 f) ∧ ∀ i, sl M i → RB5 i → i ≠ 183 → M' i = M i) ∨
     ((∀ j : Nat, j ≤ c → rsN S X tn j = 0) ∧ rz = c + 1 ∧ BD M' (apN S X tn (c + 1)) ∧ BDr (15 * ((M 165 1).toNat + 2)) M' S ∧ M' 165 1 = (M 165 1 + 1) % 9 ∧ M' 165 2 = min (M 165 2 + 1) 8 ∧ ∀ i, sl M i → RB5 i → i ≠ 165 → M' i = M i))))
theorem ek5 {X : Int → Int} {n a : Int} (h : eOK X n a) : hereS X n a = 109 ∨ hereS X n a = 114 ∨ hereS X n a = 101 ∧ eRw X n a = 0 ∨ hereS X n a = 97 ∧ eRw X n a = 0 ∨ hereS X n a = 120 ∧ eRw X n a = 0 := by
  have h1 := h.1
  by_cases q : mrS (hereS X n a)
  · unfold mrS at q; omega
  · have := eRw_n q
    unfold kdS at h1
    unfold mrS at q
    omega

theorem ct5_read {cx : Cx} {M : Mem} {S : Int → Int} (hB : BD M S) (hV : SOK S) (hI : SI S) (h1 : 0 ≤ M 165 1 ∧ M 165 1 < 9) (h2 : 0 ≤ M 165 2 ∧ M 165 2 ≤ 8) {X : Int → Int} {tn : Int} (h5 : T5 M X tn) (hT : TX X tn) : Ct cx yX5_read cX5_read 7 (some .int) 9 1 170 [rf cx 183] M (fun rz M' => RD5 M S X tn rz M') := by
  refine ct_intro cd_X5_read (by decide +kernel) (Nat.le_of_ble_eq_true rfl) rfl (fun Pg Lc Ev s m args below meth c E hr => ?_)
  refine g_ent (ls' := [some (rf cx 183), none, none, none, none, none, none]) rfl ?_
  have hV0 := hV.1
  have hB0 := hB.c0
  have hB1 := hB.c1
  have hB2 := hB.c2
  have hB3 := hB.c3
  have hT0 := hT.1
  have hT1 := hT.2.1
  have hBM := hB
  refine g_aload_n (pc := 0) E dX5_read_0 (i := 0) rfl rfl ?_
  refine g_getr (i := 183) (j := 176) (t := 5) (f := 6) (pc := 1) E dX5_read_1 fl_X5_47 rfl (by decide) (by decide) rfl rfl ?_
  refine g_callV (pc := 4) (As := []) E dX5_read_4 ml_X5_324 (ct5_parse h5 hT) rfl rfl rfl rfl (by decide) (by decide) rfl (Nat.le_of_ble_eq_true rfl) (by decide) (fun x4 M4 hM4 => ?_)
  obtain ⟨⟨hFP, kc, hC, hcase⟩, hxa, hxb⟩ := hM4
  refine g_istore_n (pc := 7) E dX5_read_7 (i := 1) (ls' := [_, _, _, _, _, _, _]) rfl (Nat.le_of_ble_eq_true rfl) rfl ?_
  refine g_aload_n (pc := 8) E dX5_read_8 (i := 0) rfl rfl ?_
  refine g_getr (i := 183) (j := 176) (t := 5) (f := 6) (pc := 9) E dX5_read_9 fl_X5_47 rfl (by decide) (by decide) rfl rfl ?_
  refine g_getr (i := 176) (j := 177) (t := 1) (f := 0) (pc := 12) E dX5_read_12 fl_X5_314 rfl (by decide) (by decide) rfl rfl ?_
  refine g_iconst (pc := 15) E dX5_read_15 rfl ?_
  refine g_sb0 (pc := 16) (i := 177) (Or.inl rfl) E dX5_read_16 ml_X5_327 (by decide) rfl (Nat.le_of_ble_eq_true rfl) (by omega) ?_
  have eM : ∀ i, i ≠ 177 → RB5 i → st M4 177 0 0 i = M i := fun i a b => by rw [st_ne a]; exact hFP i (by unfold RB5 at b; omega) (by unfold RB5 at b; omega) (by unfold RB5 at b; omega) (by unfold RB5 at b; omega) (by unfold RB5 at b; omega)
  refine g_iload_n (pc := 19) E dX5_read_19 (i := 1) rfl rfl ?_
  refine g_iconst (pc := 20) E dX5_read_20 rfl ?_
  refine g_icmp_eq (pc := 21) (tgt := 30) E dX5_read_21 (by decide) (fun qh21 => ?_) (fun qh21 => ?_) 
  · rcases hcase with ⟨hfl, hx4⟩ | ⟨hok, hend, -, hcnt, hEN⟩
    · exfalso; have := (eE_R (X := X) (ep_R hT0 kc hC).1 (ep_R hT0 kc hC).2.1).1; have := (ep_R hT0 kc hC).1; omega
    have hall : ∀ j : Nat, j ≤ kc → eOK X tn (ep X tn j) := fun j hj => by
      by_cases q : j = kc
      · rw [q]; exact hok
      · exact (hC j (by omega)).1
    have hcR := ep_R hT0 kc hC
    refine g_aload_n (pc := 30) E dX5_read_30 (i := 0) rfl rfl ?_
    refine g_getr (i := 183) (j := 165) (t := 5) (f := 3) (pc := 31) E dX5_read_31 fl_X5_26 rfl (by decide) (by decide) rfl rfl ?_
    refine g_aload_n (pc := 34) E dX5_read_34 (i := 0) rfl rfl ?_
    refine g_getr (i := 183) (j := 0) (t := 5) (f := 0) (pc := 35) E dX5_read_35 fl_X5_12 rfl (by decide) (by decide) rfl rfl ?_
    refine g_callVv (pc := 38) (As := [_]) E dX5_read_38 ml_X5_331 (cv_prepare (by rw [eM 165 (by decide) (by unfold RB5; decide)]; exact h1)) rfl rfl rfl rfl (by decide) (by decide) rfl (Nat.le_of_ble_eq_true rfl) (by decide) (fun M38 hM38 => ?_)
    rw [eM 165 (by decide) (by unfold RB5; decide)] at hM38
    have hcpy := hM38
    have hB38 : BD M38 S := hBM.congr (fun i hi => by rw [hcpy.e (by omega), eM i (by omega) (by unfold RB5; omega)])
    have hS38 : BDr (15 * ((M 165 1).toNat + 2)) M38 S := hcpy.bd hV (BDr.congr hBM (fun i _ hi => eM i (by omega) (by unfold RB5; omega)))
    refine g_iconst (pc := 41) E dX5_read_41 rfl ?_
    refine g_istore_n (pc := 42) E dX5_read_42 (i := 2) (ls' := [_, _, _, _, _, _, _]) rfl (Nat.le_of_ble_eq_true rfl) rfl ?_
    have LP43 : ∀ (n : Nat) (N : Mem) (x : Nat), (kc : Int) + 1 - x < (n : Int) → x ≤ kc + 1 → BD N (apN S X tn x) → (∀ j : Nat, j < x → rsN S X tn j = 0) → (∀ i, 15 ≤ i → N i = M38 i) → G cx Pg Lc Ev (rmD 9 1 170) s m args below meth c (MQ below (QI cx (fun rz M' => RD5 M S X tn rz M')) args s 1 170 (cA0 cx)) 43 [some (rf cx 183), some (.int (oi x4)), some (.int (oi ((x : Nat) : Int))), none, none, none, none] [] (N) (0 + 1) (0 + 170) := by
      intro n
      induction n with
      | zero => intro N x hn hx1 hB hrs hge; exact absurd hn (by omega)
      | succ n ih43 =>
        intro N x hn hx1 hB hrs hge
        have hIx : SI (apN S X tn x) := apN_SI hI x (fun j hj => ⟨hall j (by omega), hrs j hj⟩)
        have hVx := hIx.1.1
        have hrow : ∀ i, 165 ≤ i → i ≠ 177 → N i = M4 i := fun i a b => by rw [hge i (by omega), hcpy.e (Or.inr (by omega)), st_ne b]
        have e165 : N 165 = M 165 := (hrow 165 (by decide) (by decide)).trans (hFP 165 (by decide) (by decide) (by decide) (by decide) (by decide))
        have ecnt : N 176 5 = kc + 1 := (congrFun (hrow 176 (by decide) (by decide)) 5).trans hcnt
        have e177 : N 177 0 = 0 := by rw [hge 177 (by decide), hcpy.e (Or.inr (by omega)), st_self]
        refine g_iload_n (pc := 43) E dX5_read_43 (i := 2) rfl rfl ?_
        refine g_aload_n (pc := 44) E dX5_read_44 (i := 0) rfl rfl ?_
        refine g_getr (i := 183) (j := 176) (t := 5) (f := 6) (pc := 45) E dX5_read_45 fl_X5_47 rfl (by decide) (by decide) rfl rfl ?_
        refine g_geti (i := 176) (t := 1) (f := 5) (fz := 5) (pc := 48) E dX5_read_48 fl_X5_334 rfl (by decide) (by decide) rfl rfl ecnt (fun _ _ => ?_)
        refine g_icmp_ge (pc := 51) (tgt := 146) E dX5_read_51 (by decide) (fun qh51 => ?_) (fun qh51 => ?_) 
        · refine g_aload_n (pc := 146) E dX5_read_146 (i := 0) rfl rfl ?_
          refine g_getr (i := 183) (j := 165) (t := 5) (f := 3) (pc := 147) E dX5_read_147 fl_X5_26 rfl (by decide) (by decide) rfl rfl ?_
          refine g_callVv (pc := 150) (As := []) E dX5_read_150 ml_X5_351 (cv_confirm (by rw [e165]; exact h1) (by rw [e165]; exact h2)) rfl rfl rfl rfl (by decide) (by decide) rfl (Nat.le_of_ble_eq_true rfl) (by decide) (fun M150 hM150 => ?_)
          obtain rfl := hM150
          refine g_aload_n (pc := 153) E dX5_read_153 (i := 0) rfl rfl ?_
          refine g_getr (i := 183) (j := 176) (t := 5) (f := 6) (pc := 154) E dX5_read_154 fl_X5_47 rfl (by decide) (by decide) rfl rfl ?_
          refine g_geti (i := 176) (t := 1) (f := 5) (fz := 5) (pc := 157) E dX5_read_157 fl_X5_334 rfl (by decide) (by decide) rfl rfl (v := (kc : Int) + 1) (by rw [cfm, st_ne (by decide), st_ne (by decide)]; exact ecnt) (fun _ _ => ?_)
          refine g_widen (k' := 1) (n' := 170) (by omega) (by omega) ?_
          refine g_iret (pc := 160) E hr dX5_read_160 ?_
          have hsl : ∀ i, sl M i → RB5 i → M38 i = M i := fun i a b => by rw [hcpy.e a.2, eM i (by unfold RB5 at b; omega) b]
          have hx : x = kc + 1 := by omega
          subst hx
          exact ⟨by rw [cfm, st_ne (by decide), st_ne (by decide)]; exact e177, kc, hC, Or.inr ⟨hok, hend, Or.inr ⟨fun j hj => hrs j (by omega), rfl, hB.congr (fun i hi => by rw [cfm, st_ne (by omega), st_ne (by omega)]), hS38.congr (fun i a b => by rw [cfm, st_ne (by omega), st_ne (by omega)]; exact hge i (by omega)), by rw [cfm, st_off (by decide), st_self, e165], by rw [cfm, st_self, e165], fun i a b d => by rw [cfm, st_ne d, st_ne d, hge i a.1]; exact hsl i a b⟩⟩⟩
        · have hokx := hall x (by omega)
          have hxR := ep_R hT0 x (fun j hj => hC j (by omega))
          have hk0 := hEN x (by omega)
          have hk1 : N 178 (x : Int) = hereS X tn (ep X tn x) := (congrFun (hrow 178 (by decide) (by decide)) _).trans hk0.1
          have hk2 : N 179 (x : Int) = eSt X tn (ep X tn x) := (congrFun (hrow 179 (by decide) (by decide)) _).trans hk0.2.1
          have hk3 : N 180 (x : Int) = ePa X tn (ep X tn x) := (congrFun (hrow 180 (by decide) (by decide)) _).trans hk0.2.2.1
          have hk4 : N 181 (x : Int) = eRw X tn (ep X tn x) := (congrFun (hrow 181 (by decide) (by decide)) _).trans hk0.2.2.2
          have es1 : -1 ≤ eSt X tn (ep X tn x) ∧ eSt X tn (ep X tn x) ≤ 999 := nuV_R _ _ _
          have es2 : -1 ≤ ePa X tn (ep X tn x) ∧ ePa X tn (ep X tn x) ≤ 999 := nuV_R _ _ _
          have es3 := eRw_R X tn (ep X tn x)
          refine g_aload_n (pc := 54) E dX5_read_54 (i := 0) rfl rfl ?_
          refine g_getr (i := 183) (j := 176) (t := 5) (f := 6) (pc := 55) E dX5_read_55 fl_X5_47 rfl (by decide) (by decide) rfl rfl ?_
          refine g_getr (i := 176) (j := 178) (t := 1) (f := 1) (pc := 58) E dX5_read_58 fl_X5_337 rfl (by decide) (by decide) rfl rfl ?_
          refine g_iload_n (pc := 61) E dX5_read_61 (i := 2) rfl rfl ?_
          refine g_cald (pc := 62) E dX5_read_62 rfl (by omega) (by omega) hk1 (fun _ _ => ?_)
          refine g_istore_n (pc := 63) E dX5_read_63 (i := 3) (ls' := [_, _, _, _, _, _, _]) rfl (Nat.le_of_ble_eq_true rfl) rfl ?_
          refine g_aload_n (pc := 64) E dX5_read_64 (i := 0) rfl rfl ?_
          refine g_getr (i := 183) (j := 176) (t := 5) (f := 6) (pc := 65) E dX5_read_65 fl_X5_47 rfl (by decide) (by decide) rfl rfl ?_
          refine g_getr (i := 176) (j := 179) (t := 1) (f := 2) (pc := 68) E dX5_read_68 fl_X5_341 rfl (by decide) (by decide) rfl rfl ?_
          refine g_iload_n (pc := 71) E dX5_read_71 (i := 2) rfl rfl ?_
          refine g_iald (pc := 72) E dX5_read_72 rfl (by omega) (by omega) hk2 (fun _ _ => ?_)
          refine g_istore (pc := 73) E dX5_read_73 (ls' := [_, _, _, _, _, _, _]) (Nat.le_of_ble_eq_true rfl) rfl ?_
          refine g_aload_n (pc := 75) E dX5_read_75 (i := 0) rfl rfl ?_
          refine g_getr (i := 183) (j := 176) (t := 5) (f := 6) (pc := 76) E dX5_read_76 fl_X5_47 rfl (by decide) (by decide) rfl rfl ?_
          refine g_getr (i := 176) (j := 180) (t := 1) (f := 3) (pc := 79) E dX5_read_79 fl_X5_343 rfl (by decide) (by decide) rfl rfl ?_
          refine g_iload_n (pc := 82) E dX5_read_82 (i := 2) rfl rfl ?_
          refine g_iald (pc := 83) E dX5_read_83 rfl (by omega) (by omega) hk3 (fun _ _ => ?_)
          refine g_istore (pc := 84) E dX5_read_84 (ls' := [_, _, _, _, _, _, _]) (Nat.le_of_ble_eq_true rfl) rfl ?_
          refine g_aload_n (pc := 86) E dX5_read_86 (i := 0) rfl rfl ?_
          refine g_getr (i := 183) (j := 176) (t := 5) (f := 6) (pc := 87) E dX5_read_87 fl_X5_47 rfl (by decide) (by decide) rfl rfl ?_
          refine g_getr (i := 176) (j := 181) (t := 1) (f := 4) (pc := 90) E dX5_read_90 fl_X5_345 rfl (by decide) (by decide) rfl rfl ?_
          refine g_iload_n (pc := 93) E dX5_read_93 (i := 2) rfl rfl ?_
          refine g_iald (pc := 94) E dX5_read_94 rfl (by omega) (by omega) hk4 (fun _ _ => ?_)
          refine g_istore (pc := 95) E dX5_read_95 (ls' := [_, _, _, _, _, _, _]) (Nat.le_of_ble_eq_true rfl) rfl ?_
          refine g_aload_n (pc := 97) E dX5_read_97 (i := 0) rfl rfl ?_
          refine g_iload_n (pc := 98) E dX5_read_98 (i := 3) rfl rfl ?_
          refine g_iload (pc := 99) E dX5_read_99 rfl ?_
          refine g_iload (pc := 101) E dX5_read_101 rfl ?_
          refine g_iload (pc := 103) E dX5_read_103 rfl ?_
          refine g_iload_n (pc := 105) E dX5_read_105 (i := 2) rfl rfl ?_
          refine g_callV (pc := 106) (As := [_, _, _, _, _]) E dX5_read_106 ml_X5_136 (ct5_isRefused (S := apN S X tn x) (k := hereS X tn (ep X tn x)) (sn := eSt X tn (ep X tn x)) (p := ePa X tn (ep X tn x)) (raw := eRw X tn (ep X tn x)) (en := (x : Int)) hB hVx (ek5 hokx) (by omega) (by omega) (by omega) (by omega)) rfl rfl rfl rfl (by decide) (by decide) rfl (Nat.le_of_ble_eq_true rfl) (by decide) (fun x106 M106 hM106 => ?_)
          obtain ⟨rfl, rfl⟩ := hM106
          refine g_if_eq (pc := 109) (tgt := 126) E dX5_read_109 (by decide) (fun qh109 => ?_) (fun qh109 => ?_) (Int.le_trans (by decide) (bi_R _).1) (Int.le_trans (bi_R _).2 (by decide))
          · replace qh109 := Classical.not_not.mp (bi_0.mp qh109)
            refine g_mem (if_pos qh109) ?_
            refine g_aload_n (pc := 126) E dX5_read_126 (i := 0) rfl rfl ?_
            refine g_getr (i := 183) (j := 0) (t := 5) (f := 0) (pc := 127) E dX5_read_127 fl_X5_12 rfl (by decide) (by decide) rfl rfl ?_
            refine g_iload_n (pc := 130) E dX5_read_130 (i := 3) rfl rfl ?_
            refine g_iload (pc := 131) E dX5_read_131 rfl ?_
            refine g_iload (pc := 133) E dX5_read_133 rfl ?_
            refine g_iload (pc := 135) E dX5_read_135 rfl ?_
            refine g_callVv (pc := 137) (As := [_, _, _, _]) E dX5_read_137 ml_X5_140 (cv_enter (S := apN S X tn x) (k := hereS X tn (ep X tn x)) (sn := eSt X tn (ep X tn x)) (p := ePa X tn (ep X tn x)) (raw := eRw X tn (ep X tn x)) hB hIx (ek5 hokx) (eRw_0 hokx) qh109) rfl rfl rfl rfl (by decide) (by decide) rfl (Nat.le_of_ble_eq_true rfl) (by decide) (fun M137 hM137 => ?_)
            have hq137 := hM137
            refine g_iinc (pc := 140) E dX5_read_140 (ls' := [_, _, _, _, _, _, _]) rfl rfl rfl ?_
            refine g_goto (pc := 143) (tgt := 43) E dX5_read_143 (by decide) ?_
            exact g_wk2 (ih43 M137 (x + 1) (by omega) (by omega) hM137.1 (fun j hj => by by_cases q : j = x; rw [q]; exact qh109; exact hrs j (by omega)) (fun i a => (hM137.2 i a).trans (hge i a))) ⟨rfl, rfl, rfl, trivial⟩
          · replace qh109 := bi_n.mp qh109
            refine g_mem (if_neg qh109) ?_
            have e165r : rfM N (reS (apN S X tn x) (hereS X tn (ep X tn x)) (eSt X tn (ep X tn x)) (ePa X tn (ep X tn x)) (eRw X tn (ep X tn x))) x (abS (apN S X tn x) (eSt X tn (ep X tn x)) (ePa X tn (ep X tn x)) (reS (apN S X tn x) (hereS X tn (ep X tn x)) (eSt X tn (ep X tn x)) (ePa X tn (ep X tn x)) (eRw X tn (ep X tn x)))) 165 = M 165 := by rw [rfM, st_ne (by decide), st_ne (by decide), st_ne (by decide)]; exact e165
            refine g_aload_n (pc := 112) E dX5_read_112 (i := 0) rfl rfl ?_
            refine g_getr (i := 183) (j := 165) (t := 5) (f := 3) (pc := 113) E dX5_read_113 fl_X5_26 rfl (by decide) (by decide) rfl rfl ?_
            refine g_aload_n (pc := 116) E dX5_read_116 (i := 0) rfl rfl ?_
            refine g_getr (i := 183) (j := 0) (t := 5) (f := 0) (pc := 117) E dX5_read_117 fl_X5_12 rfl (by decide) (by decide) rfl rfl ?_
            refine g_callVv (pc := 120) (As := [_]) E dX5_read_120 ml_X5_348 (cv_takeBack (by rw [e165r]; exact h1)) rfl rfl rfl rfl (by decide) (by decide) rfl (Nat.le_of_ble_eq_true rfl) (by decide) (fun M120 hM120 => ?_)
            rw [e165r] at hM120
            have hc2 := hM120
            have e120 : ∀ i, 15 ≤ i → M120 i = rfM N (rsN S X tn x) x (abE S X tn x) i := fun i hi => hc2.e (Or.inr (by omega))
            refine g_bipush (pc := 123) E dX5_read_123 rfl ?_
            refine g_widen (k' := 1) (n' := 170) (by omega) (by omega) ?_
            refine g_iret (pc := 125) E hr dX5_read_125 ?_
            have hsl : ∀ i, sl M i → RB5 i → M38 i = M i := fun i a b => by rw [hcpy.e a.2, eM i (by unfold RB5 at b; omega) b]
            exact ⟨by rw [e120 177 (by decide), rfM, st_ne (by decide), st_ne (by decide), st_ne (by decide)]; exact e177, kc, hC, Or.inr ⟨hok, hend, Or.inl ⟨x, by omega, hrs, qh109, rfl, hc2.bd hV (hS38.congr (fun i a b => by rw [rfM, st_ne (by omega), st_ne (by omega), st_ne (by omega)]; exact hge i (by omega))), by rw [e120 183 (by decide)]; simp [rfM, st], by rw [e120 183 (by decide)]; simp [rfM, st], by rw [e120 183 (by decide)]; simp [rfM, st], fun f a b d => by rw [e120 183 (by decide), rfM, st_off d, st_off b, st_off a, hge 183 (by decide), hsl 183 ⟨by decide, Or.inr (by omega)⟩ (by unfold RB5; decide)], fun i a b d => by rw [e120 i a.1, rfM, st_ne d, st_ne d, st_ne d, hge i a.1]; exact hsl i a b⟩⟩⟩
    exact g_wk2 (LP43 (kc + 3) M38 0 (by omega) (by omega) hB38 (fun j hj => absurd hj (by omega)) (fun _ _ => rfl)) ⟨rfl, rfl, rfl, trivial⟩
  · rcases hcase with ⟨hfl, rfl⟩ | ⟨-, -, hm1, -⟩
    rotate_left
    · exact absurd hm1 qh21
    refine g_sipush (pc := 24) E dX5_read_24 rfl ?_
    refine g_iload_n (pc := 27) E dX5_read_27 (i := 1) rfl rfl ?_
    refine g_isub (pc := 28) E dX5_read_28 ?_
    refine g_widen (k' := 1) (n' := 170) (by omega) (by omega) ?_
    refine g_iret (pc := 29) E hr dX5_read_29 ?_
    exact ⟨st_self _ _ _ _, kc, hC, Or.inl ⟨hfl, rfl, fun i hi => eM i (by unfold RB5 at hi; omega) hi⟩⟩

