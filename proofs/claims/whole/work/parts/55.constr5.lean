/-! the constructor of the class -/
/-- the cells that each constructor makes, the object first -/
def hiL (cx : Cx) (h q : Nat) (ads : Nat → Nat → Nat) : va_W := [(h, .inr (3, [.ref q, .int (oi 0), .int (oi 0)])), (q, .inl (cA cx 4, 9, .inr (.inr (.inr (.inr (slf ads 9))))))] ++ bds cx ads 9
def stL (cx : Cx) (t : Nat → Nat) : va_W := [(t 0, .inr (5, [.ref (t 1), .ref (t 2), .ref (t 3), .ref (t 4), .int (oi 0), .int (oi 0), .int (oi 0), .int (oi 0), .int (oi 0), .int (oi 0), .int (oi 0), .int (oi 0)])), (t 1, .inl (cA cx 0, 8, .inl (fun _ => 0))), (t 2, .inl (cA cx 0, 8, .inl (fun _ => 0))), (t 3, .inl (cA cx 0, 4, .inl (fun _ => 0))), (t 4, .inl (cA cx 1, 4, .inl (fun _ => 0)))]
def raL (cx : Cx) (t : Nat → Nat) : va_W := [(t 0, .inr (4, [.ref (t 1), .ref (t 2), .ref (t 3), .int (oi 0)])), (t 1, .inl (cA cx 0, 20, .inl (fun _ => 0))), (t 2, .inl (cA cx 0, 20, .inl (fun _ => 0))), (t 3, .inl (cA cx 1, 20, .inl (fun _ => 0)))]
def etL (cx : Cx) (t : Nat → Nat) : va_W := [(t 0, .inr (2, [.ref (t 1), .ref (t 3), .ref (t 4), .ref (t 5), .ref (t 6), .int (oi 0), .int (oi 0)])), (t 1, .inr (0, [.ref (t 2), .int (oi 0), .int 0, .int 0])), (t 2, .inl (cA cx 3, 16, .inl (fun _ => 0))), (t 3, .inl (cA cx 2, 20, .inl (fun _ => 0))), (t 4, .inl (cA cx 0, 20, .inl (fun _ => 0))), (t 5, .inl (cA cx 0, 20, .inl (fun _ => 0))), (t 6, .inl (cA cx 0, 20, .inl (fun _ => 0)))]
def sbL (cx : Cx) (t : Nat → Nat) : va_W := [(t 0, .inr (0, [.ref (t 1), .int (oi 0), .int 0, .int 0])), (t 1, .inl (cA cx 3, 16, .inl (fun _ => 0)))]
def x5o (a : Nat) (b1 b2 : Nat → Nat) (h : Nat) (t1 t2 t3 t4 : Nat → Nat) : Nat × va_E := (a, .inr (6, [.ref (b1 0), .ref (b2 0), .int (oi 0), .ref h, .ref (t1 0), .ref (t2 0), .ref (t3 0), .ref (t4 0), .int (oi 0), .int (oi 0), .int (oi 0)]))

theorem ck_X5 {cx : Cx} {pre : va_W} {a : Nat} : MtK cx yX5_init cX5_init 1 none 12 185 9136 [.ref a] (pre ++ [(a, .inr (6, [.null, .null, .int 0, .null, .null, .null, .null, .null, .int 0, .int 0, .int 0]))]) (QVw cx (fun w => ∃ (b1 b2 : Nat → Nat) (h hq : Nat) (ads : Nat → Nat → Nat) (t1 t2 t3 t4 : Nat → Nat), w = pre ++ (x5o a b1 b2 h t1 t2 t3 t4 :: ((((((bdL cx b1 ++ bdL cx b2) ++ hiL cx h hq ads) ++ stL cx t1) ++ raL cx t2) ++ etL cx t3) ++ sbL cx t4)))) := by
  refine mk_introK cd_X5_init (by decide +kernel) (Nat.le_of_ble_eq_true rfl) rfl (fun Pg Lc Ev s m args below meth c E hAO hr hnm => ?_)
  refine w_ent (ls' := [some (.ref a)]) rfl ?_
  refine w_ws (ws' := pre ++ ((a, .inr (6, [.null, .null, .int 0, .null, .null, .null, .null, .null, .int 0, .int 0, .int 0])) :: [])) rfl ?_
  refine w_aload_n (pc := 0) E dX5_init_0 (i := 0) rfl rfl ?_
  refine w_objI (pc := 1) E dX5_init_1 (big_at 86 (by decide +kernel) (by decide +kernel)) rfl (by decide) (Nat.le_of_ble_eq_true rfl) ?_
  refine w_aload_n (pc := 4) E dX5_init_4 (i := 0) rfl rfl ?_
  refine w_newO (pc := 5) (ci := 1) (N := 18) (fs := [.int 0, .int 0, .int 0, .int 0, .null, .null, .null, .null, .null, .null, .null, .null, .null, .null, .null, .null, .null, .null]) E dX5_init_5 clX0 (big_at 89 (by decide +kernel) (by decide +kernel)) (big_at 90 (by decide +kernel) (by decide +kernel)) (big_at 63 (by decide +kernel) (by decide +kernel)) (fun j hj => by rcases (show j = 0 ∨ j = 1 ∨ j = 2 ∨ j = 3 ∨ j = 4 ∨ j = 5 ∨ j = 6 ∨ j = 7 ∨ j = 8 ∨ j = 9 ∨ j = 10 ∨ j = 11 ∨ j = 12 ∨ j = 13 ∨ j = 14 ∨ j = 15 ∨ j = 16 ∨ j = 17 by omega) with rfl | rfl | rfl | rfl | rfl | rfl | rfl | rfl | rfl | rfl | rfl | rfl | rfl | rfl | rfl | rfl | rfl | rfl <;> rfl) (by omega) (fun n1 => ?_)
  refine w_dup (pc := 8) E dX5_init_8 rfl ?_
  refine w_callI (pc := 9) (i := 0) (ci := 0) (fs := []) (q := ("", TJ4, 0)) (As := []) E dX5_init_9 ⟨⟨by decide +kernel, by decide +kernel, by decide +kernel⟩, big_at 63 (by decide +kernel) (by decide +kernel)⟩ (big_at 91 (by decide +kernel) (by decide +kernel)) (big_at 92 (by decide +kernel) (by decide +kernel)) rfl (ck_X0 (pre := pre ++ ((a, .inr (6, [.null, .null, .int 0, .null, .null, .null, .null, .null, .int 0, .int 0, .int 0])) :: []))) rfl rfl (by decide) (Nat.le_of_ble_eq_true rfl) rfl (Nat.le_of_ble_eq_true rfl) (by omega) (fun w9 hw9 => ?_)
  obtain ⟨b1, hb1, rfl⟩ := hw9
  subst hb1
  refine w_ws (ws' := pre ++ ((a, .inr (6, [.null, .null, .int 0, .null, .null, .null, .null, .null, .int 0, .int 0, .int 0])) :: bdL cx b1)) (List.append_assoc _ _ _) ?_
  refine w_putF (pc := 12) (f := 0) (ws' := pre ++ ((a, .inr (6, [.ref (b1 0), .null, .int 0, .null, .null, .null, .null, .null, .int 0, .int 0, .int 0])) :: bdL cx b1)) E hnm dX5_init_12 clX5 (by decide) (big_at 339 (by decide +kernel) (by decide +kernel)) rfl rfl (pl_get (t := 0) rfl) rfl rfl rfl (Nat.le_of_ble_eq_true rfl) (pl_set (t := 0)) ?_
  refine w_aload_n (pc := 15) E dX5_init_15 (i := 0) rfl rfl ?_
  refine w_newO (pc := 16) (ci := 1) (N := 18) (fs := [.int 0, .int 0, .int 0, .int 0, .null, .null, .null, .null, .null, .null, .null, .null, .null, .null, .null, .null, .null, .null]) E dX5_init_16 clX0 (big_at 89 (by decide +kernel) (by decide +kernel)) (big_at 90 (by decide +kernel) (by decide +kernel)) (big_at 63 (by decide +kernel) (by decide +kernel)) (fun j hj => by rcases (show j = 0 ∨ j = 1 ∨ j = 2 ∨ j = 3 ∨ j = 4 ∨ j = 5 ∨ j = 6 ∨ j = 7 ∨ j = 8 ∨ j = 9 ∨ j = 10 ∨ j = 11 ∨ j = 12 ∨ j = 13 ∨ j = 14 ∨ j = 15 ∨ j = 16 ∨ j = 17 by omega) with rfl | rfl | rfl | rfl | rfl | rfl | rfl | rfl | rfl | rfl | rfl | rfl | rfl | rfl | rfl | rfl | rfl | rfl <;> rfl) (by omega) (fun n2 => ?_)
  refine w_dup (pc := 19) E dX5_init_19 rfl ?_
  refine w_callI (pc := 20) (i := 0) (ci := 0) (fs := []) (q := ("", TJ4, 0)) (As := []) E dX5_init_20 ⟨⟨by decide +kernel, by decide +kernel, by decide +kernel⟩, big_at 63 (by decide +kernel) (by decide +kernel)⟩ (big_at 91 (by decide +kernel) (by decide +kernel)) (big_at 92 (by decide +kernel) (by decide +kernel)) rfl (ck_X0 (pre := pre ++ ((a, .inr (6, [.ref (b1 0), .null, .int 0, .null, .null, .null, .null, .null, .int 0, .int 0, .int 0])) :: bdL cx b1))) rfl rfl (by decide) (Nat.le_of_ble_eq_true rfl) rfl (Nat.le_of_ble_eq_true rfl) (by omega) (fun w20 hw20 => ?_)
  obtain ⟨b2, hb2, rfl⟩ := hw20
  subst hb2
  refine w_ws (ws' := pre ++ ((a, .inr (6, [.ref (b1 0), .null, .int 0, .null, .null, .null, .null, .null, .int 0, .int 0, .int 0])) :: (bdL cx b1 ++ bdL cx b2))) (List.append_assoc _ _ _) ?_
  refine w_putF (pc := 23) (f := 1) (ws' := pre ++ ((a, .inr (6, [.ref (b1 0), .ref (b2 0), .int 0, .null, .null, .null, .null, .null, .int 0, .int 0, .int 0])) :: (bdL cx b1 ++ bdL cx b2))) E hnm dX5_init_23 clX5 (by decide) (big_at 340 (by decide +kernel) (by decide +kernel)) rfl rfl (pl_get (t := 0) rfl) rfl rfl rfl (Nat.le_of_ble_eq_true rfl) (pl_set (t := 0)) ?_
  refine w_aload_n (pc := 26) E dX5_init_26 (i := 0) rfl rfl ?_
  refine w_iconst (pc := 27) E dX5_init_27 rfl ?_
  refine w_put (pc := 28) (ws' := pre ++ ((a, .inr (6, [.ref (b1 0), .ref (b2 0), .int (oi 0), .null, .null, .null, .null, .null, .int 0, .int 0, .int 0])) :: (bdL cx b1 ++ bdL cx b2))) E dX5_init_28 fl_X5_19 (pl_get (t := 0) rfl) rfl rfl rfl (Nat.le_of_ble_eq_true rfl) (pl_set (t := 0)) ?_
  refine w_aload_n (pc := 31) E dX5_init_31 (i := 0) rfl rfl ?_
  refine w_newO (pc := 32) (ci := 3) (N := 3) (fs := [.null, .int 0, .int 0]) E dX5_init_32 clX2 (big_at 176 (by decide +kernel) (by decide +kernel)) (big_at 177 (by decide +kernel) (by decide +kernel)) (big_at 64 (by decide +kernel) (by decide +kernel)) (fun j hj => by rcases (show j = 0 ∨ j = 1 ∨ j = 2 by omega) with rfl | rfl | rfl <;> rfl) (by omega) (fun h => ?_)
  refine w_dup (pc := 35) E dX5_init_35 rfl ?_
  refine w_callIK (pc := 36) (As := []) E hAO dX5_init_36 ⟨⟨by decide +kernel, by decide +kernel, by decide +kernel⟩, big_at 64 (by decide +kernel) (by decide +kernel)⟩ (big_at 178 (by decide +kernel) (by decide +kernel)) (big_at 179 (by decide +kernel) (by decide +kernel)) rfl (ck_X2 (pre := pre ++ ((a, .inr (6, [.ref (b1 0), .ref (b2 0), .int (oi 0), .null, .null, .null, .null, .null, .int 0, .int 0, .int 0])) :: (bdL cx b1 ++ bdL cx b2)))) rfl rfl (by decide) (Nat.le_of_ble_eq_true rfl) rfl (Nat.le_of_ble_eq_true rfl) (by omega) (fun w36 hw36 => ?_)
  obtain ⟨hq, ads, rfl⟩ := hw36
  refine w_ws (ws' := pre ++ ((a, .inr (6, [.ref (b1 0), .ref (b2 0), .int (oi 0), .null, .null, .null, .null, .null, .int 0, .int 0, .int 0])) :: ((bdL cx b1 ++ bdL cx b2) ++ hiL cx h hq ads))) (List.append_assoc _ _ _) ?_
  refine w_putF (pc := 39) (f := 3) (ws' := pre ++ ((a, .inr (6, [.ref (b1 0), .ref (b2 0), .int (oi 0), .ref h, .null, .null, .null, .null, .int 0, .int 0, .int 0])) :: ((bdL cx b1 ++ bdL cx b2) ++ hiL cx h hq ads))) E hnm dX5_init_39 clX5 (by decide) (big_at 342 (by decide +kernel) (by decide +kernel)) rfl rfl (pl_get (t := 0) rfl) rfl rfl rfl (Nat.le_of_ble_eq_true rfl) (pl_set (t := 0)) ?_
  refine w_aload_n (pc := 42) E dX5_init_42 (i := 0) rfl rfl ?_
  refine w_newO (pc := 43) (ci := 5) (N := 12) (fs := [.null, .null, .null, .null, .int 0, .int 0, .int 0, .int 0, .int 0, .int 0, .int 0, .int 0]) E dX5_init_43 clX4 (big_at 196 (by decide +kernel) (by decide +kernel)) (big_at 197 (by decide +kernel) (by decide +kernel)) (big_at 65 (by decide +kernel) (by decide +kernel)) (fun j hj => by rcases (show j = 0 ∨ j = 1 ∨ j = 2 ∨ j = 3 ∨ j = 4 ∨ j = 5 ∨ j = 6 ∨ j = 7 ∨ j = 8 ∨ j = 9 ∨ j = 10 ∨ j = 11 by omega) with rfl | rfl | rfl | rfl | rfl | rfl | rfl | rfl | rfl | rfl | rfl | rfl <;> rfl) (by omega) (fun n4 => ?_)
  refine w_dup (pc := 46) E dX5_init_46 rfl ?_
  refine w_callIN (pc := 47) (As := []) E dX5_init_47 ⟨⟨by decide +kernel, by decide +kernel, by decide +kernel⟩, big_at 65 (by decide +kernel) (by decide +kernel)⟩ (E.2.2.2.2.2.2.1.2.1.1) (big_at 199 (by decide +kernel) (by decide +kernel)) rfl (ck_X4 (pre := pre ++ ((a, .inr (6, [.ref (b1 0), .ref (b2 0), .int (oi 0), .ref h, .null, .null, .null, .null, .int 0, .int 0, .int 0])) :: ((bdL cx b1 ++ bdL cx b2) ++ hiL cx h hq ads)))) rfl rfl (by decide) (Nat.le_of_ble_eq_true rfl) rfl (Nat.le_of_ble_eq_true rfl) (by omega) (fun w47 hw47 => ?_)
  obtain ⟨u1, u2, u3, u4, hw⟩ := hw47
  obtain ⟨t1, ht⟩ : ∃ t : Nat → Nat, t = (fun k => [n4, u1, u2, u3, u4].getD k 0) := ⟨_, rfl⟩
  have e0 : n4 = t1 0 := by subst ht; rfl
  have e1 : w47 = (pre ++ ((a, .inr (6, [.ref (b1 0), .ref (b2 0), .int (oi 0), .ref h, .null, .null, .null, .null, .int 0, .int 0, .int 0])) :: ((bdL cx b1 ++ bdL cx b2) ++ hiL cx h hq ads))) ++ stL cx t1 := by subst ht; exact hw
  clear hw ht
  subst e1
  subst e0
  refine w_ws (ws' := pre ++ ((a, .inr (6, [.ref (b1 0), .ref (b2 0), .int (oi 0), .ref h, .null, .null, .null, .null, .int 0, .int 0, .int 0])) :: (((bdL cx b1 ++ bdL cx b2) ++ hiL cx h hq ads) ++ stL cx t1))) (List.append_assoc _ _ _) ?_
  refine w_putF (pc := 50) (f := 4) (ws' := pre ++ ((a, .inr (6, [.ref (b1 0), .ref (b2 0), .int (oi 0), .ref h, .ref (t1 0), .null, .null, .null, .int 0, .int 0, .int 0])) :: (((bdL cx b1 ++ bdL cx b2) ++ hiL cx h hq ads) ++ stL cx t1))) E hnm dX5_init_50 clX5 (by decide) (big_at 343 (by decide +kernel) (by decide +kernel)) rfl rfl (pl_get (t := 0) rfl) rfl rfl rfl (Nat.le_of_ble_eq_true rfl) (pl_set (t := 0)) ?_
  refine w_aload_n (pc := 53) E dX5_init_53 (i := 0) rfl rfl ?_
  refine w_newO (pc := 54) (ci := 4) (N := 4) (fs := [.null, .null, .null, .int 0]) E dX5_init_54 clX3 (big_at 250 (by decide +kernel) (by decide +kernel)) (big_at 251 (by decide +kernel) (by decide +kernel)) (big_at 66 (by decide +kernel) (by decide +kernel)) (fun j hj => by rcases (show j = 0 ∨ j = 1 ∨ j = 2 ∨ j = 3 by omega) with rfl | rfl | rfl | rfl <;> rfl) (by omega) (fun n5 => ?_)
  refine w_dup (pc := 57) E dX5_init_57 rfl ?_
  refine w_callIN (pc := 58) (As := []) E dX5_init_58 ⟨⟨by decide +kernel, by decide +kernel, by decide +kernel⟩, big_at 66 (by decide +kernel) (by decide +kernel)⟩ (E.2.2.2.2.2.2.1.2.1.2.1) (big_at 253 (by decide +kernel) (by decide +kernel)) rfl (ck_X3 (pre := pre ++ ((a, .inr (6, [.ref (b1 0), .ref (b2 0), .int (oi 0), .ref h, .ref (t1 0), .null, .null, .null, .int 0, .int 0, .int 0])) :: (((bdL cx b1 ++ bdL cx b2) ++ hiL cx h hq ads) ++ stL cx t1)))) rfl rfl (by decide) (Nat.le_of_ble_eq_true rfl) rfl (Nat.le_of_ble_eq_true rfl) (by omega) (fun w58 hw58 => ?_)
  obtain ⟨u1, u2, u3, hw⟩ := hw58
  obtain ⟨t2, ht⟩ : ∃ t : Nat → Nat, t = (fun k => [n5, u1, u2, u3].getD k 0) := ⟨_, rfl⟩
  have e0 : n5 = t2 0 := by subst ht; rfl
  have e1 : w58 = (pre ++ ((a, .inr (6, [.ref (b1 0), .ref (b2 0), .int (oi 0), .ref h, .ref (t1 0), .null, .null, .null, .int 0, .int 0, .int 0])) :: (((bdL cx b1 ++ bdL cx b2) ++ hiL cx h hq ads) ++ stL cx t1))) ++ raL cx t2 := by subst ht; exact hw
  clear hw ht
  subst e1
  subst e0
  refine w_ws (ws' := pre ++ ((a, .inr (6, [.ref (b1 0), .ref (b2 0), .int (oi 0), .ref h, .ref (t1 0), .null, .null, .null, .int 0, .int 0, .int 0])) :: ((((bdL cx b1 ++ bdL cx b2) ++ hiL cx h hq ads) ++ stL cx t1) ++ raL cx t2))) (List.append_assoc _ _ _) ?_
  refine w_putF (pc := 61) (f := 5) (ws' := pre ++ ((a, .inr (6, [.ref (b1 0), .ref (b2 0), .int (oi 0), .ref h, .ref (t1 0), .ref (t2 0), .null, .null, .int 0, .int 0, .int 0])) :: ((((bdL cx b1 ++ bdL cx b2) ++ hiL cx h hq ads) ++ stL cx t1) ++ raL cx t2))) E hnm dX5_init_61 clX5 (by decide) (big_at 344 (by decide +kernel) (by decide +kernel)) rfl rfl (pl_get (t := 0) rfl) rfl rfl rfl (Nat.le_of_ble_eq_true rfl) (pl_set (t := 0)) ?_
  refine w_aload_n (pc := 64) E dX5_init_64 (i := 0) rfl rfl ?_
  refine w_newO (pc := 65) (ci := 2) (N := 7) (fs := [.null, .null, .null, .null, .null, .int 0, .int 0]) E dX5_init_65 clX1 (big_at 270 (by decide +kernel) (by decide +kernel)) (big_at 271 (by decide +kernel) (by decide +kernel)) (big_at 67 (by decide +kernel) (by decide +kernel)) (fun j hj => by rcases (show j = 0 ∨ j = 1 ∨ j = 2 ∨ j = 3 ∨ j = 4 ∨ j = 5 ∨ j = 6 by omega) with rfl | rfl | rfl | rfl | rfl | rfl | rfl <;> rfl) (by omega) (fun n6 => ?_)
  refine w_dup (pc := 68) E dX5_init_68 rfl ?_
  refine w_callIN (pc := 69) (As := []) E dX5_init_69 ⟨⟨by decide +kernel, by decide +kernel, by decide +kernel⟩, big_at 67 (by decide +kernel) (by decide +kernel)⟩ (E.2.2.2.2.2.2.1.2.1.2.2.1) (big_at 273 (by decide +kernel) (by decide +kernel)) rfl (ck_X1 (pre := pre ++ ((a, .inr (6, [.ref (b1 0), .ref (b2 0), .int (oi 0), .ref h, .ref (t1 0), .ref (t2 0), .null, .null, .int 0, .int 0, .int 0])) :: ((((bdL cx b1 ++ bdL cx b2) ++ hiL cx h hq ads) ++ stL cx t1) ++ raL cx t2)))) rfl rfl (by decide) (Nat.le_of_ble_eq_true rfl) rfl (Nat.le_of_ble_eq_true rfl) (by omega) (fun w69 hw69 => ?_)
  obtain ⟨u1, u2, u3, u4, u5, u6, hw⟩ := hw69
  obtain ⟨t3, ht⟩ : ∃ t : Nat → Nat, t = (fun k => [n6, u1, u2, u3, u4, u5, u6].getD k 0) := ⟨_, rfl⟩
  have e0 : n6 = t3 0 := by subst ht; rfl
  have e1 : w69 = (pre ++ ((a, .inr (6, [.ref (b1 0), .ref (b2 0), .int (oi 0), .ref h, .ref (t1 0), .ref (t2 0), .null, .null, .int 0, .int 0, .int 0])) :: ((((bdL cx b1 ++ bdL cx b2) ++ hiL cx h hq ads) ++ stL cx t1) ++ raL cx t2))) ++ etL cx t3 := by subst ht; exact hw
  clear hw ht
  subst e1
  subst e0
  refine w_ws (ws' := pre ++ ((a, .inr (6, [.ref (b1 0), .ref (b2 0), .int (oi 0), .ref h, .ref (t1 0), .ref (t2 0), .null, .null, .int 0, .int 0, .int 0])) :: (((((bdL cx b1 ++ bdL cx b2) ++ hiL cx h hq ads) ++ stL cx t1) ++ raL cx t2) ++ etL cx t3))) (List.append_assoc _ _ _) ?_
  refine w_putF (pc := 72) (f := 6) (ws' := pre ++ ((a, .inr (6, [.ref (b1 0), .ref (b2 0), .int (oi 0), .ref h, .ref (t1 0), .ref (t2 0), .ref (t3 0), .null, .int 0, .int 0, .int 0])) :: (((((bdL cx b1 ++ bdL cx b2) ++ hiL cx h hq ads) ++ stL cx t1) ++ raL cx t2) ++ etL cx t3))) E hnm dX5_init_72 clX5 (by decide) (big_at 345 (by decide +kernel) (by decide +kernel)) rfl rfl (pl_get (t := 0) rfl) rfl rfl rfl (Nat.le_of_ble_eq_true rfl) (pl_set (t := 0)) ?_
  refine w_aload_n (pc := 75) E dX5_init_75 (i := 0) rfl rfl ?_
  refine w_newO (pc := 76) (ci := 0) (N := 4) (fs := [.null, .int 0, .int 0, .int 0]) E dX5_init_76 clJ4 (big_at 337 (by decide +kernel) (by decide +kernel)) (big_at 277 (by decide +kernel) (by decide +kernel)) (big_at 69 (by decide +kernel) (by decide +kernel)) (fun j hj => by rcases (show j = 0 ∨ j = 1 ∨ j = 2 ∨ j = 3 by omega) with rfl | rfl | rfl | rfl <;> rfl) (by omega) (fun n7 => ?_)
  refine w_dup (pc := 79) E dX5_init_79 rfl ?_
  refine w_callI (pc := 80) (i := 0) (ci := 0) (fs := []) (q := ("", TJ4, 0)) (As := []) E dX5_init_80 ⟨⟨by decide +kernel, by decide +kernel, by decide +kernel⟩, big_at 69 (by decide +kernel) (by decide +kernel)⟩ (big_at 338 (by decide +kernel) (by decide +kernel)) (big_at 279 (by decide +kernel) (by decide +kernel)) rfl (ck_J4 (pre := pre ++ ((a, .inr (6, [.ref (b1 0), .ref (b2 0), .int (oi 0), .ref h, .ref (t1 0), .ref (t2 0), .ref (t3 0), .null, .int 0, .int 0, .int 0])) :: (((((bdL cx b1 ++ bdL cx b2) ++ hiL cx h hq ads) ++ stL cx t1) ++ raL cx t2) ++ etL cx t3)))) rfl rfl (by decide) (Nat.le_of_ble_eq_true rfl) rfl (Nat.le_of_ble_eq_true rfl) (by omega) (fun w80 hw80 => ?_)
  obtain ⟨u1, hw⟩ := hw80
  obtain ⟨t4, ht⟩ : ∃ t : Nat → Nat, t = (fun k => [n7, u1].getD k 0) := ⟨_, rfl⟩
  have e0 : n7 = t4 0 := by subst ht; rfl
  have e1 : w80 = (pre ++ ((a, .inr (6, [.ref (b1 0), .ref (b2 0), .int (oi 0), .ref h, .ref (t1 0), .ref (t2 0), .ref (t3 0), .null, .int 0, .int 0, .int 0])) :: (((((bdL cx b1 ++ bdL cx b2) ++ hiL cx h hq ads) ++ stL cx t1) ++ raL cx t2) ++ etL cx t3))) ++ sbL cx t4 := by subst ht; exact hw
  clear hw ht
  subst e1
  subst e0
  refine w_ws (ws' := pre ++ ((a, .inr (6, [.ref (b1 0), .ref (b2 0), .int (oi 0), .ref h, .ref (t1 0), .ref (t2 0), .ref (t3 0), .null, .int 0, .int 0, .int 0])) :: ((((((bdL cx b1 ++ bdL cx b2) ++ hiL cx h hq ads) ++ stL cx t1) ++ raL cx t2) ++ etL cx t3) ++ sbL cx t4))) (List.append_assoc _ _ _) ?_
  refine w_putF (pc := 83) (f := 7) (ws' := pre ++ ((a, .inr (6, [.ref (b1 0), .ref (b2 0), .int (oi 0), .ref h, .ref (t1 0), .ref (t2 0), .ref (t3 0), .ref (t4 0), .int 0, .int 0, .int 0])) :: ((((((bdL cx b1 ++ bdL cx b2) ++ hiL cx h hq ads) ++ stL cx t1) ++ raL cx t2) ++ etL cx t3) ++ sbL cx t4))) E hnm dX5_init_83 clX5 (by decide) (big_at 346 (by decide +kernel) (by decide +kernel)) rfl rfl (pl_get (t := 0) rfl) rfl rfl rfl (Nat.le_of_ble_eq_true rfl) (pl_set (t := 0)) ?_
  refine w_aload_n (pc := 86) E dX5_init_86 (i := 0) rfl rfl ?_
  refine w_iconst (pc := 87) E dX5_init_87 rfl ?_
  refine w_put (pc := 88) (ws' := pre ++ ((a, .inr (6, [.ref (b1 0), .ref (b2 0), .int (oi 0), .ref h, .ref (t1 0), .ref (t2 0), .ref (t3 0), .ref (t4 0), .int (oi 0), .int 0, .int 0])) :: ((((((bdL cx b1 ++ bdL cx b2) ++ hiL cx h hq ads) ++ stL cx t1) ++ raL cx t2) ++ etL cx t3) ++ sbL cx t4))) E dX5_init_88 fl_X5_58 (pl_get (t := 0) rfl) rfl rfl rfl (Nat.le_of_ble_eq_true rfl) (pl_set (t := 0)) ?_
  refine w_aload_n (pc := 91) E dX5_init_91 (i := 0) rfl rfl ?_
  refine w_iconst (pc := 92) E dX5_init_92 rfl ?_
  refine w_put (pc := 93) (ws' := pre ++ ((a, .inr (6, [.ref (b1 0), .ref (b2 0), .int (oi 0), .ref h, .ref (t1 0), .ref (t2 0), .ref (t3 0), .ref (t4 0), .int (oi 0), .int (oi 0), .int 0])) :: ((((((bdL cx b1 ++ bdL cx b2) ++ hiL cx h hq ads) ++ stL cx t1) ++ raL cx t2) ++ etL cx t3) ++ sbL cx t4))) E dX5_init_93 fl_X5_62 (pl_get (t := 0) rfl) rfl rfl rfl (Nat.le_of_ble_eq_true rfl) (pl_set (t := 0)) ?_
  refine w_aload_n (pc := 96) E dX5_init_96 (i := 0) rfl rfl ?_
  refine w_iconst (pc := 97) E dX5_init_97 rfl ?_
  refine w_put (pc := 98) (ws' := pre ++ ((a, .inr (6, [.ref (b1 0), .ref (b2 0), .int (oi 0), .ref h, .ref (t1 0), .ref (t2 0), .ref (t3 0), .ref (t4 0), .int (oi 0), .int (oi 0), .int (oi 0)])) :: ((((((bdL cx b1 ++ bdL cx b2) ++ hiL cx h hq ads) ++ stL cx t1) ++ raL cx t2) ++ etL cx t3) ++ sbL cx t4))) E dX5_init_98 fl_X5_65 (pl_get (t := 0) rfl) rfl rfl rfl (Nat.le_of_ble_eq_true rfl) (pl_set (t := 0)) ?_
  refine w_widen (k' := 185) (n' := 9136) (by omega) (by omega) ?_
  refine w_vret (pc := 101) E hr dX5_init_101 ?_
  exact ⟨b1, b2, h, hq, ads, t1, t2, t3, t4, rfl⟩

