/-! entries of the reference, as calls; its text, reasons -/
def CEP (S : Int → Int) (M : Mem) (k s p raw ok rz : Int) (M' : Mem) : Prop := (reS S k s p raw = 0 → ok = rz ∧ MOP M M' S (enS S k s p raw)) ∧ (¬ reS S k s p raw = 0 → rz = -4 ∧ REF M M' S (reS S k s p raw) (abS S s p (reS S k s p raw)))
def abF (T : Int → Int) (s p : Int) : Int := if 0 < T (57 + 3 * (8 * s + p)) then 1 else 0
def abN (T : Int → Int) (s : Int) : Int := sz (abF T s) (T 6)
def exK (e : Int) : Int := if e = 1 then 101 else 97
theorem ag_en {S : Int → Int} (h : SI S) {s p raw : Int} (hr : 0 ≤ raw) (he : reS S 114 s p raw = 0) : SOK (enS S 114 s p raw) := (SI_en h (Or.inr (Or.inl rfl)) hr he).1.1

theorem ct_mark {cx : Cx} {M : Mem} {S : Int → Int} (e5 : M 185 = S) {sn p raw : Int} (hI : SI S) (hu0 : 0 ≤ M 184 2) (hu1 : M 184 2 ≤ 8) (hsn : -2147483648 ≤ sn ∧ sn ≤ 2147483647) (hp : -2147483648 ≤ p ∧ p ≤ 2147483647) (hraw : -2147483648 ≤ raw ∧ raw ≤ 2147483647) : Ct cx yX6_mark cX6_mark 4 (some .int) 4 0 0 [rf cx 184, .int (oi sn), .int (oi p), .int (oi raw)] M (fun rz M' => (raw < 0 → rz = -2 ∧ M = M') ∧ (0 ≤ raw → CEP S M 109 sn p raw (pcS S p raw) rz M')) := by
  refine ct_intro cd_X6_mark (by decide +kernel) (Nat.le_of_ble_eq_true rfl) rfl (fun Pg Lc Ev s m args below meth c E hr => ?_)
  refine g_ent (ls' := [some (rf cx 184), some (.int (oi sn)), some (.int (oi p)), some (.int (oi raw))]) rfl ?_
  have hV := hI.1.1
  have hV0 := hV.1
  have e5M := e5
  have h8 := SO_h8 hI.1 (s := sn) (p := p)
  have hex := SO_ex hI.1 (s := sn) (p := p)
  refine g_iload_n (pc := 0) E dX6_mark_0 (i := 3) rfl rfl ?_
  refine g_if_ge (pc := 1) (tgt := 7) E dX6_mark_1 (by decide) (fun qh1 => ?_) (fun qh1 => ?_) 
  · refine g_aload_n (pc := 7) E dX6_mark_7 (i := 0) rfl rfl ?_
    refine g_callVv (pc := 8) (As := []) E dX6_mark_8 ml_X6_54 cv_tries rfl rfl rfl rfl (by decide) (by decide) rfl (Nat.le_of_ble_eq_true rfl) (by decide) (fun M8 hM8 => ?_)
    obtain rfl := hM8
    have e5 : triM M 185 = S := (tri_ne (by decide)).trans e5M
    refine g_aload_n (pc := 11) E dX6_mark_11 (i := 0) rfl rfl ?_
    refine g_aload_n (pc := 12) E dX6_mark_12 (i := 0) rfl rfl ?_
    refine g_iload_n (pc := 13) E dX6_mark_13 (i := 1) rfl rfl ?_
    refine g_iload_n (pc := 14) E dX6_mark_14 (i := 2) rfl rfl ?_
    refine g_iconst (pc := 15) E dX6_mark_15 rfl ?_
    refine g_iload_n (pc := 16) E dX6_mark_16 (i := 3) rfl rfl ?_
    refine g_callV (pc := 17) (As := [_, _, _, _]) E dX6_mark_17 ml_X6_177 (ct_enters e5 (k := 109) (by omega) (by omega) (by omega) hV (Or.inl ⟨rfl, rfl⟩) (by omega) h8) rfl rfl rfl rfl (by decide) (by decide) rfl (Nat.le_of_ble_eq_true rfl) (by decide) (fun x17 M17 hM17 => ?_)
    have hre := reS_R S 109 sn p raw
    have hq := hM17.1
    have hu := ENT_u hM17
    refine g_callV (pc := 20) (As := [_]) E dX6_mark_20 ml_X6_181 (ct_isDone (by omega) (by omega) (by omega)) rfl rfl rfl rfl (by decide) (by decide) rfl (Nat.le_of_ble_eq_true rfl) (by decide) (fun x20 M20 hM20 => ?_)
    obtain ⟨rfl, rfl⟩ := hM20
    refine g_if_eq (pc := 23) (tgt := 35) E dX6_mark_23 (by decide) (fun qh23 => ?_) (fun qh23 => ?_) (Int.le_trans (by decide) (bi_R _).1) (Int.le_trans (bi_R _).2 (by decide))
    · replace qh23 := bi_0.mp qh23
      refine g_mem (if_neg qh23) ?_
      have hno := ENT_no hM17 qh23
      refine g_bipush (pc := 35) E dX6_mark_35 rfl ?_
      refine g_iret (pc := 37) E hr dX6_mark_37 ?_
      exact ⟨fun h => absurd h (by omega), fun _ => ⟨fun h => absurd (hq.symm.trans h) qh23, fun _ => ⟨rfl, by rw [hq]; exact hno⟩⟩⟩
    · replace qh23 := bi_n.mp qh23
      refine g_mem (if_pos qh23) ?_
      have hok := ENT_ok e5M hu0 hu1 hM17 qh23
      have hrs := reS_in (hq.trans qh23)
      have hVp := hV.2.2.1 p (by omega) (by omega)
      have hf2 := en_lo hI.1 (hq.trans qh23) (x := 13 + 3 * p + 2) (Or.inl (by omega)) (by omega)
      have hw1 : 0 ≤ p := by omega
      refine g_aload_n (pc := 26) E dX6_mark_26 (i := 0) rfl rfl ?_
      refine g_iload_n (pc := 27) E dX6_mark_27 (i := 2) rfl rfl ?_
      refine g_iload_n (pc := 28) E dX6_mark_28 (i := 3) rfl rfl ?_
      refine g_callV (pc := 29) (As := [_, _]) E dX6_mark_29 ml_X6_97 (ct_percent hok.1 hw1 (by omega) (by omega) (by omega) (by omega) (by omega)) rfl rfl rfl rfl (by decide) (by decide) rfl (Nat.le_of_ble_eq_true rfl) (by decide) (fun x29 M29 hM29 => ?_)
      obtain ⟨rfl, rfl⟩ := hM29
      refine g_goto (pc := 32) (tgt := 37) E dX6_mark_32 (by decide) ?_
      refine g_iret (pc := 37) E hr dX6_mark_37 ?_
      exact ⟨fun h => absurd h (by omega), fun _ => ⟨fun _ => ⟨(pcS_lo hf2).symm, hok⟩, fun h => absurd (hq.trans qh23) h⟩⟩
  · refine g_bipush (pc := 4) E dX6_mark_4 rfl ?_
    refine g_iret (pc := 6) E hr dX6_mark_6 ?_
    exact ⟨fun _ => ⟨rfl, rfl⟩, fun h => absurd h (by omega)⟩

theorem ct_resit {cx : Cx} {M : Mem} {S : Int → Int} (e5 : M 185 = S) {sn p raw : Int} (hI : SI S) (hu0 : 0 ≤ M 184 2) (hu1 : M 184 2 ≤ 8) (hsn : -2147483648 ≤ sn ∧ sn ≤ 2147483647) (hp : -2147483648 ≤ p ∧ p ≤ 2147483647) (hraw : -2147483648 ≤ raw ∧ raw ≤ 2147483647) : Ct cx yX6_resit cX6_resit 4 (some .int) 9 0 0 [rf cx 184, .int (oi sn), .int (oi p), .int (oi raw)] M (fun rz M' => (raw < 0 → rz = -2 ∧ M = M') ∧ (0 ≤ raw → CEP S M 114 sn p raw (agS (enS S 114 sn p raw) sn p) rz M')) := by
  refine ct_intro cd_X6_resit (by decide +kernel) (Nat.le_of_ble_eq_true rfl) rfl (fun Pg Lc Ev s m args below meth c E hr => ?_)
  refine g_ent (ls' := [some (rf cx 184), some (.int (oi sn)), some (.int (oi p)), some (.int (oi raw))]) rfl ?_
  have hV := hI.1.1
  have hV0 := hV.1
  have e5M := e5
  have h8 := SO_h8 hI.1 (s := sn) (p := p)
  have hex := SO_ex hI.1 (s := sn) (p := p)
  refine g_iload_n (pc := 0) E dX6_resit_0 (i := 3) rfl rfl ?_
  refine g_if_ge (pc := 1) (tgt := 7) E dX6_resit_1 (by decide) (fun qh1 => ?_) (fun qh1 => ?_) 
  · refine g_aload_n (pc := 7) E dX6_resit_7 (i := 0) rfl rfl ?_
    refine g_callVv (pc := 8) (As := []) E dX6_resit_8 ml_X6_54 cv_tries rfl rfl rfl rfl (by decide) (by decide) rfl (Nat.le_of_ble_eq_true rfl) (by decide) (fun M8 hM8 => ?_)
    obtain rfl := hM8
    have e5 : triM M 185 = S := (tri_ne (by decide)).trans e5M
    refine g_aload_n (pc := 11) E dX6_resit_11 (i := 0) rfl rfl ?_
    refine g_aload_n (pc := 12) E dX6_resit_12 (i := 0) rfl rfl ?_
    refine g_iload_n (pc := 13) E dX6_resit_13 (i := 1) rfl rfl ?_
    refine g_iload_n (pc := 14) E dX6_resit_14 (i := 2) rfl rfl ?_
    refine g_iload_n (pc := 15) E dX6_resit_15 (i := 3) rfl rfl ?_
    refine g_callV (pc := 16) (As := [_, _, _]) E dX6_resit_16 ml_X6_184 (ct_sits e5 (by omega) (by omega) (by omega) hV (by omega)) rfl rfl rfl rfl (by decide) (by decide) rfl (Nat.le_of_ble_eq_true rfl) (by decide) (fun x16 M16 hM16 => ?_)
    have hre := reS_R S 114 sn p raw
    have hq := hM16.1
    have hu := ENT_u hM16
    refine g_callV (pc := 19) (As := [_]) E dX6_resit_19 ml_X6_181 (ct_isDone (by omega) (by omega) (by omega)) rfl rfl rfl rfl (by decide) (by decide) rfl (Nat.le_of_ble_eq_true rfl) (by decide) (fun x19 M19 hM19 => ?_)
    obtain ⟨rfl, rfl⟩ := hM19
    refine g_if_eq (pc := 22) (tgt := 34) E dX6_resit_22 (by decide) (fun qh22 => ?_) (fun qh22 => ?_) (Int.le_trans (by decide) (bi_R _).1) (Int.le_trans (bi_R _).2 (by decide))
    · replace qh22 := bi_0.mp qh22
      refine g_mem (if_neg qh22) ?_
      have hno := ENT_no hM16 qh22
      refine g_bipush (pc := 34) E dX6_resit_34 rfl ?_
      refine g_iret (pc := 36) E hr dX6_resit_36 ?_
      exact ⟨fun h => absurd h (by omega), fun _ => ⟨fun h => absurd (hq.symm.trans h) qh22, fun _ => ⟨rfl, by rw [hq]; exact hno⟩⟩⟩
    · replace qh22 := bi_n.mp qh22
      refine g_mem (if_pos qh22) ?_
      have hok := ENT_ok e5M hu0 hu1 hM16 qh22
      have hrs := reS_in (hq.trans qh22)
      have hT := ag_en hI (by omega) (hq.trans qh22)
      have hf7 := en_lo hI.1 (hq.trans qh22) (x := 7) (by omega) (by omega)
      have hf6 := en_lo hI.1 (hq.trans qh22) (x := 6) (by omega) (by omega)
      refine g_aload_n (pc := 25) E dX6_resit_25 (i := 0) rfl rfl ?_
      refine g_iload_n (pc := 26) E dX6_resit_26 (i := 1) rfl rfl ?_
      refine g_iload_n (pc := 27) E dX6_resit_27 (i := 2) rfl rfl ?_
      refine g_callV (pc := 28) (As := [_, _]) E dX6_resit_28 ml_X6_120 (ct_again hok.1 hT (by omega) (by omega) (by omega) (by omega)) rfl rfl rfl rfl (by decide) (by decide) rfl (Nat.le_of_ble_eq_true rfl) (by decide) (fun x28 M28 hM28 => ?_)
      obtain ⟨rfl, rfl⟩ := hM28
      refine g_goto (pc := 31) (tgt := 36) E dX6_resit_31 (by decide) ?_
      refine g_iret (pc := 36) E hr dX6_resit_36 ?_
      exact ⟨fun h => absurd h (by omega), fun _ => ⟨fun _ => ⟨rfl, hok⟩, fun h => absurd (hq.trans qh22) h⟩⟩
  · refine g_bipush (pc := 4) E dX6_resit_4 rfl ?_
    refine g_iret (pc := 6) E hr dX6_resit_6 ?_
    exact ⟨fun _ => ⟨rfl, rfl⟩, fun h => absurd h (by omega)⟩

theorem ct_absent {cx : Cx} {M : Mem} {S : Int → Int} (e5 : M 185 = S) {sn p ex : Int} (hI : SI S) (hu0 : 0 ≤ M 184 2) (hu1 : M 184 2 ≤ 8) (hsn : -2147483648 ≤ sn ∧ sn ≤ 2147483647) (hp : -2147483648 ≤ p ∧ p ≤ 2147483647) (hex : -2147483648 ≤ ex ∧ ex ≤ 2147483647) : Ct cx yX6_absent cX6_absent 6 (some .int) 4 0 0 [rf cx 184, .int (oi sn), .int (oi p), .int (oi ex)] M (fun rz M' => (¬ (0 ≤ ex ∧ ex ≤ 1) → rz = -2 ∧ M = M') ∧ (0 ≤ ex ∧ ex ≤ 1 → CEP S M (exK ex) sn p 0 (abN (enS S (exK ex) sn p 0) sn) rz M')) := by
  refine ct_intro cd_X6_absent (by decide +kernel) (Nat.le_of_ble_eq_true rfl) rfl (fun Pg Lc Ev s m args below meth c E hr => ?_)
  refine g_ent (ls' := [some (rf cx 184), some (.int (oi sn)), some (.int (oi p)), some (.int (oi ex)), none, none]) rfl ?_
  have hV := hI.1.1
  have hV0 := hV.1
  have e5M := e5
  have h8 := SO_h8 hI.1 (s := sn) (p := p)
  have hex := SO_ex hI.1 (s := sn) (p := p)
  refine g_iload_n (pc := 0) E dX6_absent_0 (i := 3) rfl rfl ?_
  refine g_iconst (pc := 1) E dX6_absent_1 rfl ?_
  refine g_iconst (pc := 2) E dX6_absent_2 rfl ?_
  refine g_callS (pc := 3) (As := [_, _, _]) E dX6_absent_3 ml_X6_66 (ct_in (by omega) (by omega) (by omega)) rfl rfl (by decide) (by decide) rfl (Nat.le_of_ble_eq_true rfl) (by decide) (fun x3 M3 hM3 => ?_)
  obtain ⟨rfl, rfl⟩ := hM3
  refine g_if_ne (pc := 6) (tgt := 12) E dX6_absent_6 (by decide) (fun qh6 => ?_) (fun qh6 => ?_) (Int.le_trans (by decide) (bi_R _).1) (Int.le_trans (bi_R _).2 (by decide))
  · replace qh6 := bi_n.mp qh6
    refine g_aload_n (pc := 12) E dX6_absent_12 (i := 0) rfl rfl ?_
    refine g_callVv (pc := 13) (As := []) E dX6_absent_13 ml_X6_54 cv_tries rfl rfl rfl rfl (by decide) (by decide) rfl (Nat.le_of_ble_eq_true rfl) (by decide) (fun M13 hM13 => ?_)
    obtain rfl := hM13
    have e5 : triM M 185 = S := (tri_ne (by decide)).trans e5M
    have hk : (exK ex = 109 ∧ 2 + ex = 1) ∨ (exK ex = 97 ∧ 2 + ex = 2 ∧ (0 : Int) = 0) ∨ (exK ex = 101 ∧ 2 + ex = 3 ∧ (0 : Int) = 0) := by unfold exK; split <;> omega
    refine g_aload_n (pc := 16) E dX6_absent_16 (i := 0) rfl rfl ?_
    refine g_aload_n (pc := 17) E dX6_absent_17 (i := 0) rfl rfl ?_
    refine g_iload_n (pc := 18) E dX6_absent_18 (i := 1) rfl rfl ?_
    refine g_iload_n (pc := 19) E dX6_absent_19 (i := 2) rfl rfl ?_
    refine g_iconst (pc := 20) E dX6_absent_20 rfl ?_
    refine g_iload_n (pc := 21) E dX6_absent_21 (i := 3) rfl rfl ?_
    refine g_iadd (pc := 22) E dX6_absent_22 ?_
    refine g_iconst (pc := 23) E dX6_absent_23 rfl ?_
    refine g_callV (pc := 24) (As := [_, _, _, _]) E dX6_absent_24 ml_X6_177 (ct_enters e5 (k := exK ex) (by omega) (by omega) (by omega) hV hk (by omega) h8) rfl rfl rfl rfl (by decide) (by decide) rfl (Nat.le_of_ble_eq_true rfl) (by decide) (fun x24 M24 hM24 => ?_)
    have hre := reS_R S (exK ex) sn p 0
    have hq := hM24.1
    have hu := ENT_u hM24
    refine g_callV (pc := 27) (As := [_]) E dX6_absent_27 ml_X6_181 (ct_isDone (by omega) (by omega) (by omega)) rfl rfl rfl rfl (by decide) (by decide) rfl (Nat.le_of_ble_eq_true rfl) (by decide) (fun x27 M27 hM27 => ?_)
    obtain ⟨rfl, rfl⟩ := hM27
    refine g_if_ne (pc := 30) (tgt := 36) E dX6_absent_30 (by decide) (fun qh30 => ?_) (fun qh30 => ?_) (Int.le_trans (by decide) (bi_R _).1) (Int.le_trans (bi_R _).2 (by decide))
    · replace qh30 := bi_n.mp qh30
      refine g_mem (if_pos qh30) ?_
      have hok := ENT_ok e5M hu0 hu1 hM24 qh30
      have hrs := reS_in (hq.trans qh30)
      have hf6 := en_lo hI.1 (hq.trans qh30) (x := 6) (by omega) (by omega)
      have e5 := hok.1
      refine g_iconst (pc := 36) E dX6_absent_36 rfl ?_
      refine g_istore (pc := 37) E dX6_absent_37 (ls' := [_, _, _, _, _, _]) (Nat.le_of_ble_eq_true rfl) rfl ?_
      refine g_iconst (pc := 39) E dX6_absent_39 rfl ?_
      refine g_istore (pc := 40) E dX6_absent_40 (ls' := [_, _, _, _, _, _]) (Nat.le_of_ble_eq_true rfl) rfl ?_
      have LP42 : ∀ (n : Nat) (x a : Int), S 6 - x < (n : Int) → 0 ≤ x → x ≤ S 6 → a = sz (abF (enS S (exK ex) sn p 0) sn) x → G cx Pg Lc Ev (rmD 4 0 0) s m args below meth c (MQ below (QI cx (fun rz M' => (¬ (0 ≤ ex ∧ ex ≤ 1) → rz = -2 ∧ M = M') ∧ (0 ≤ ex ∧ ex ≤ 1 → CEP S M (exK ex) sn p 0 (abN (enS S (exK ex) sn p 0) sn) rz M'))) args s 0 0 (cA0 cx)) 42 [some (rf cx 184), some (.int (oi sn)), some (.int (oi p)), some (.int (oi ex)), some (.int (oi a)), some (.int (oi x))] [] (kepM M24) 0 0 := by
        intro n
        induction n with
        | zero => intro x a hn hx0 hx1 ha; exact absurd hn (by omega)
        | succ n ih42 =>
          intro x a hn hx0 hx1 ha
          have haR := sz_R (f := abF (enS S (exK ex) sn p 0) sn) (a := 0) (b := 1) hx0 (fun j _ _ => by unfold abF; split <;> omega)
          refine g_iload (pc := 42) E dX6_absent_42 rfl ?_
          refine g_aload_n (pc := 44) E dX6_absent_44 (i := 0) rfl rfl ?_
          refine g_getr (i := 184) (j := 185) (t := 6) (f := 0) (pc := 45) E dX6_absent_45 fl_X6_9 rfl (by decide) (by decide) rfl rfl ?_
          refine g_bipush (pc := 48) E dX6_absent_48 rfl ?_
          refine g_iald (pc := 50) E dX6_absent_50 rfl (by omega) (by omega) (congrFun e5 _) (fun _ _ => ?_)
          refine g_icmp_ge (pc := 51) (tgt := 77) E dX6_absent_51 (by decide) (fun qh51 => ?_) (fun qh51 => ?_) 
          · refine g_iload (pc := 77) E dX6_absent_77 rfl ?_
            refine g_iret (pc := 79) E hr dX6_absent_79 ?_
            exact ⟨fun h => absurd (show 0 ≤ ex ∧ ex ≤ 1 by omega) h, fun _ => ⟨fun _ => ⟨by rw [ha, show x = S 6 by omega, abN, hf6], hok⟩, fun h => absurd (hq.trans qh30) h⟩⟩
          · refine g_aload_n (pc := 54) E dX6_absent_54 (i := 0) rfl rfl ?_
            refine g_getr (i := 184) (j := 185) (t := 6) (f := 0) (pc := 55) E dX6_absent_55 fl_X6_9 rfl (by decide) (by decide) rfl rfl ?_
            refine g_iload_n (pc := 58) E dX6_absent_58 (i := 1) rfl rfl ?_
            refine g_iload (pc := 59) E dX6_absent_59 rfl ?_
            refine g_callS (pc := 61) (As := [_, _]) E dX6_absent_61 ml_X6_81 ct_attemptAt rfl rfl (by decide) (by decide) rfl (Nat.le_of_ble_eq_true rfl) (by decide) (fun x61 M61 hM61 => ?_)
            obtain ⟨rfl, rfl⟩ := hM61
            refine g_iald (pc := 64) E dX6_absent_64 rfl (by omega) (by omega) (congrFun e5 _) (fun _ _ => ?_)
            refine g_if_le (pc := 65) (tgt := 71) E dX6_absent_65 (by decide) (fun qh65 => ?_) (fun qh65 => ?_) 
            · refine g_iinc (pc := 71) E dX6_absent_71 (ls' := [_, _, _, _, _, _]) rfl rfl rfl ?_
              refine g_goto (pc := 74) (tgt := 42) E dX6_absent_74 (by decide) ?_
              exact g_wk2 (ih42 (x + 1) a (by omega) (by omega) (by omega) (by rw [sz_s hx0, ha, show abF (enS S (exK ex) sn p 0) sn x = 0 from if_neg (by omega)]; omega)) ⟨rfl, rfl, rfl, rfl, rfl, rfl, trivial⟩
            · refine g_iinc (pc := 68) E dX6_absent_68 (ls' := [_, _, _, _, _, _]) rfl rfl rfl ?_
              refine g_iinc (pc := 71) E dX6_absent_71 (ls' := [_, _, _, _, _, _]) rfl rfl rfl ?_
              refine g_goto (pc := 74) (tgt := 42) E dX6_absent_74 (by decide) ?_
              exact g_wk2 (ih42 (x + 1) (a + 1) (by omega) (by omega) (by omega) (by rw [sz_s hx0, ha, show abF (enS S (exK ex) sn p 0) sn x = 1 from if_pos (by omega)])) ⟨rfl, rfl, rfl, rfl, rfl, rfl, trivial⟩
      exact g_wk2 (LP42 (S 6 + 1).toNat 0 0 (by omega) (by omega) (by omega) rfl) ⟨rfl, rfl, rfl, rfl, rfl, rfl, trivial⟩
    · replace qh30 := bi_0.mp qh30
      refine g_mem (if_neg qh30) ?_
      have hno := ENT_no hM24 qh30
      refine g_bipush (pc := 33) E dX6_absent_33 rfl ?_
      refine g_iret (pc := 35) E hr dX6_absent_35 ?_
      exact ⟨fun h => absurd (show 0 ≤ ex ∧ ex ≤ 1 by omega) h, fun _ => ⟨fun h => absurd (hq.symm.trans h) qh30, fun _ => ⟨rfl, by rw [hq]; exact hno⟩⟩⟩
  · replace qh6 := bi_0.mp qh6
    refine g_bipush (pc := 9) E dX6_absent_9 rfl ?_
    refine g_iret (pc := 11) E hr dX6_absent_11 ?_
    exact ⟨fun _ => ⟨rfl, rfl⟩, fun h => absurd h (by omega)⟩

theorem ct_remove {cx : Cx} {M : Mem} {S : Int → Int} (e5 : M 185 = S) {sn p : Int} (hI : SI S) (hu0 : 0 ≤ M 184 2) (hu1 : M 184 2 ≤ 8) (hsn : -2147483648 ≤ sn ∧ sn ≤ 2147483647) (hp : -2147483648 ≤ p ∧ p ≤ 2147483647) : Ct cx yX6_remove cX6_remove 4 (some .int) 4 0 0 [rf cx 184, .int (oi sn), .int (oi p)] M (fun rz M' => CEP S M 120 sn p 0 (if 0 ≤ S (57 + 3 * (8 * sn + p) + 2) then 2 else 1) rz M') := by
  refine ct_intro cd_X6_remove (by decide +kernel) (Nat.le_of_ble_eq_true rfl) rfl (fun Pg Lc Ev s m args below meth c E hr => ?_)
  refine g_ent (ls' := [some (rf cx 184), some (.int (oi sn)), some (.int (oi p)), none]) rfl ?_
  have hV := hI.1.1
  have hV0 := hV.1
  have e5M := e5
  have h8 := SO_h8 hI.1 (s := sn) (p := p)
  have hex := SO_ex hI.1 (s := sn) (p := p)
  have JP40 : ∀ (w : Int), (0 ≤ sn ∧ sn < S 7 → 0 ≤ p ∧ p < S 6 → w = if 0 ≤ S (57 + 3 * (8 * sn + p) + 2) then 2 else 1) → G cx Pg Lc Ev (rmD 4 0 0) s m args below meth c (MQ below (QI cx (fun rz M' => CEP S M 120 sn p 0 (if 0 ≤ S (57 + 3 * (8 * sn + p) + 2) then 2 else 1) rz M')) args s 0 0 (cA0 cx)) 40 [some (rf cx 184), some (.int (oi sn)), some (.int (oi p)), none] [.int (oi w)] (triM M) 0 0 := by
    intro w hw
    have e5 : triM M 185 = S := (tri_ne (by decide)).trans e5M
    refine g_istore_n (pc := 40) E dX6_remove_40 (i := 3) (ls' := [_, _, _, _]) rfl (Nat.le_of_ble_eq_true rfl) rfl ?_
    refine g_aload_n (pc := 41) E dX6_remove_41 (i := 0) rfl rfl ?_
    refine g_aload_n (pc := 42) E dX6_remove_42 (i := 0) rfl rfl ?_
    refine g_iload_n (pc := 43) E dX6_remove_43 (i := 1) rfl rfl ?_
    refine g_iload_n (pc := 44) E dX6_remove_44 (i := 2) rfl rfl ?_
    refine g_callV (pc := 45) (As := [_, _]) E dX6_remove_45 ml_X6_187 (ct_removes e5 (by omega) (by omega) hV hex) rfl rfl rfl rfl (by decide) (by decide) rfl (Nat.le_of_ble_eq_true rfl) (by decide) (fun x45 M45 hM45 => ?_)
    have hre := reS_R S 120 sn p 0
    have hq := hM45.1
    have hu := ENT_u hM45
    refine g_callV (pc := 48) (As := [_]) E dX6_remove_48 ml_X6_181 (ct_isDone (by omega) (by omega) (by omega)) rfl rfl rfl rfl (by decide) (by decide) rfl (Nat.le_of_ble_eq_true rfl) (by decide) (fun x48 M48 hM48 => ?_)
    obtain ⟨rfl, rfl⟩ := hM48
    refine g_if_eq (pc := 51) (tgt := 58) E dX6_remove_51 (by decide) (fun qh51 => ?_) (fun qh51 => ?_) (Int.le_trans (by decide) (bi_R _).1) (Int.le_trans (bi_R _).2 (by decide))
    · replace qh51 := bi_0.mp qh51
      refine g_mem (if_neg qh51) ?_
      have hno := ENT_no hM45 qh51
      refine g_bipush (pc := 58) E dX6_remove_58 rfl ?_
      refine g_iret (pc := 60) E hr dX6_remove_60 ?_
      exact ⟨fun h => absurd (hq.symm.trans h) qh51, fun _ => ⟨rfl, by rw [hq]; exact hno⟩⟩
    · replace qh51 := bi_n.mp qh51
      refine g_mem (if_pos qh51) ?_
      have hok := ENT_ok e5M hu0 hu1 hM45 qh51
      refine g_iload_n (pc := 54) E dX6_remove_54 (i := 3) rfl rfl ?_
      refine g_goto (pc := 55) (tgt := 60) E dX6_remove_55 (by decide) ?_
      refine g_iret (pc := 60) E hr dX6_remove_60 ?_
      have hrs := reS_in (hq.trans qh51)
      exact ⟨fun _ => ⟨(hw hrs.1 hrs.2.1).symm, hok⟩, fun h => absurd (hq.trans qh51) h⟩
  refine g_aload_n (pc := 0) E dX6_remove_0 (i := 0) rfl rfl ?_
  refine g_callVv (pc := 1) (As := []) E dX6_remove_1 ml_X6_54 cv_tries rfl rfl rfl rfl (by decide) (by decide) rfl (Nat.le_of_ble_eq_true rfl) (by decide) (fun M1 hM1 => ?_)
  obtain rfl := hM1
  have e5 : triM M 185 = S := (tri_ne (by decide)).trans e5M
  refine g_aload_n (pc := 4) E dX6_remove_4 (i := 0) rfl rfl ?_
  refine g_iload_n (pc := 5) E dX6_remove_5 (i := 1) rfl rfl ?_
  refine g_callV (pc := 6) (As := [_]) E dX6_remove_6 ml_X6_168 (ct_isStudent e5 hV (by omega)) rfl rfl rfl rfl (by decide) (by decide) rfl (Nat.le_of_ble_eq_true rfl) (by decide) (fun x6 M6 hM6 => ?_)
  obtain ⟨rfl, rfl⟩ := hM6
  refine g_if_eq (pc := 9) (tgt := 39) E dX6_remove_9 (by decide) (fun qh9 => ?_) (fun qh9 => ?_) (Int.le_trans (by decide) (bi_R _).1) (Int.le_trans (bi_R _).2 (by decide))
  · replace qh9 := bi_0.mp qh9
    refine g_iconst (pc := 39) E dX6_remove_39 rfl ?_
    exact g_wk2 (JP40 _ (fun a b => absurd (show 0 ≤ sn ∧ sn < S 7 by omega) (by omega))) ⟨rfl, rfl, rfl, trivial⟩
  · replace qh9 := bi_n.mp qh9
    refine g_aload_n (pc := 12) E dX6_remove_12 (i := 0) rfl rfl ?_
    refine g_iload_n (pc := 13) E dX6_remove_13 (i := 2) rfl rfl ?_
    refine g_callV (pc := 14) (As := [_]) E dX6_remove_14 ml_X6_84 (ct_isPaper e5 hV (by omega)) rfl rfl rfl rfl (by decide) (by decide) rfl (Nat.le_of_ble_eq_true rfl) (by decide) (fun x14 M14 hM14 => ?_)
    obtain ⟨rfl, rfl⟩ := hM14
    refine g_if_eq (pc := 17) (tgt := 39) E dX6_remove_17 (by decide) (fun qh17 => ?_) (fun qh17 => ?_) (Int.le_trans (by decide) (bi_R _).1) (Int.le_trans (bi_R _).2 (by decide))
    · replace qh17 := bi_0.mp qh17
      refine g_iconst (pc := 39) E dX6_remove_39 rfl ?_
      exact g_wk2 (JP40 _ (fun a b => absurd (show 0 ≤ p ∧ p < S 6 by omega) (by omega))) ⟨rfl, rfl, rfl, trivial⟩
    · replace qh17 := bi_n.mp qh17
      have hVa := hV.2.2.2.2.1 sn p (by omega) (by omega) (by omega) (by omega)
      have hVp := hV.2.2.1 p (by omega) (by omega)
      refine g_aload_n (pc := 20) E dX6_remove_20 (i := 0) rfl rfl ?_
      refine g_getr (i := 184) (j := 185) (t := 6) (f := 0) (pc := 21) E dX6_remove_21 fl_X6_9 rfl (by decide) (by decide) rfl rfl ?_
      refine g_iload_n (pc := 24) E dX6_remove_24 (i := 1) rfl rfl ?_
      refine g_iload_n (pc := 25) E dX6_remove_25 (i := 2) rfl rfl ?_
      refine g_callS (pc := 26) (As := [_, _]) E dX6_remove_26 ml_X6_81 ct_attemptAt rfl rfl (by decide) (by decide) rfl (Nat.le_of_ble_eq_true rfl) (by decide) (fun x26 M26 hM26 => ?_)
      obtain ⟨rfl, rfl⟩ := hM26
      refine g_iconst (pc := 29) E dX6_remove_29 rfl ?_
      refine g_iadd (pc := 30) E dX6_remove_30 ?_
      refine g_iald (pc := 31) E dX6_remove_31 rfl (by omega) (by omega) (congrFun e5 _) (fun _ _ => ?_)
      refine g_if_lt (pc := 32) (tgt := 39) E dX6_remove_32 (by decide) (fun qh32 => ?_) (fun qh32 => ?_) 
      · refine g_iconst (pc := 39) E dX6_remove_39 rfl ?_
        exact g_wk2 (JP40 _ (fun a b => by rw [if_neg (by omega)])) ⟨rfl, rfl, rfl, trivial⟩
      · refine g_iconst (pc := 35) E dX6_remove_35 rfl ?_
        refine g_goto (pc := 36) (tgt := 40) E dX6_remove_36 (by decide) ?_
        exact g_wk2 (JP40 _ (fun a b => by rw [if_pos (by omega)])) ⟨rfl, rfl, rfl, trivial⟩
