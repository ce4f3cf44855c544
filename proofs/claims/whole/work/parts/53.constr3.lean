/-! the constructors of the text, the history, the class -/
theorem ck_X1 {cx : Cx} {pre : va_W} {a : Nat} : MtW cx yX1_init cX1_init 1 none 4 6 120 [.ref a] (pre ++ [(a, .inr (2, [.null, .null, .null, .null, .null, .int 0, .int 0]))]) (QVw cx (fun w => ∃ q1 q2 q3 q4 q5 q6 : Nat, w = pre ++ [(a, .inr (2, [.ref q1, .ref q3, .ref q4, .ref q5, .ref q6, .int (oi 0), .int (oi 0)])), (q1, .inr (0, [.ref q2, .int (oi 0), .int 0, .int 0])), (q2, .inl (cA cx 3, 16, .inl (fun _ => 0))), (q3, .inl (cA cx 2, 20, .inl (fun _ => 0))), (q4, .inl (cA cx 0, 20, .inl (fun _ => 0))), (q5, .inl (cA cx 0, 20, .inl (fun _ => 0))), (q6, .inl (cA cx 0, 20, .inl (fun _ => 0)))])) := by
  refine mk_intro cd_X1_init (by decide +kernel) (Nat.le_of_ble_eq_true rfl) rfl (fun Pg Lc Ev s m args below meth c E hr hnm => ?_)
  refine w_ent (ls' := [some (.ref a)]) rfl ?_
  refine w_aload_n (pc := 0) E dX1_init_0 (i := 0) rfl rfl ?_
  refine w_objI (pc := 1) E dX1_init_1 (big_at 275 (by decide +kernel) (by decide +kernel)) rfl (by decide) (Nat.le_of_ble_eq_true rfl) ?_
  refine w_aload_n (pc := 4) E dX1_init_4 (i := 0) rfl rfl ?_
  refine w_newO (pc := 5) (ci := 0) (N := 4) (fs := [.null, .int 0, .int 0, .int 0]) E dX1_init_5 clJ4 (big_at 276 (by decide +kernel) (by decide +kernel)) (big_at 277 (by decide +kernel) (by decide +kernel)) (big_at 69 (by decide +kernel) (by decide +kernel)) (fun j hj => by rcases (show j = 0 ∨ j = 1 ∨ j = 2 ∨ j = 3 by omega) with rfl | rfl | rfl | rfl <;> rfl) (by omega) (fun n5 => ?_)
  refine w_dup (pc := 8) E dX1_init_8 rfl ?_
  refine w_callI (pc := 9) (i := 0) (ci := 0) (fs := []) (q := ("", TJ4, 0)) (As := []) E dX1_init_9 ⟨⟨by decide +kernel, by decide +kernel, by decide +kernel⟩, big_at 69 (by decide +kernel) (by decide +kernel)⟩ (big_at 278 (by decide +kernel) (by decide +kernel)) (big_at 279 (by decide +kernel) (by decide +kernel)) rfl (ck_J4 (pre := pre ++ [(a, .inr (2, [.null, .null, .null, .null, .null, .int 0, .int 0]))])) rfl rfl (by decide) (Nat.le_of_ble_eq_true rfl) rfl (Nat.le_of_ble_eq_true rfl) (by omega) (fun w9 hw9 => ?_)
  obtain ⟨b9, rfl⟩ := hw9
  refine w_ws (ws' := pre ++ [(a, .inr (2, [.null, .null, .null, .null, .null, .int 0, .int 0])), (n5, .inr (0, [.ref b9, .int (oi 0), .int 0, .int 0])), (b9, .inl (cA cx 3, 16, .inl (fun _ => 0)))]) (List.append_assoc _ _ _) ?_
  refine w_putF (pc := 12) (f := 0) (ws' := pre ++ [(a, .inr (2, [.ref n5, .null, .null, .null, .null, .int 0, .int 0])), (n5, .inr (0, [.ref b9, .int (oi 0), .int 0, .int 0])), (b9, .inl (cA cx 3, 16, .inl (fun _ => 0)))]) E hnm dX1_init_12 clX1 (by decide) (big_at 308 (by decide +kernel) (by decide +kernel)) rfl rfl (pl_get (t := 0) rfl) rfl rfl rfl (Nat.le_of_ble_eq_true rfl) (pl_set (t := 0)) ?_
  refine w_aload_n (pc := 15) E dX1_init_15 (i := 0) rfl rfl ?_
  refine w_bipush (pc := 16) E dX1_init_16 rfl ?_
  refine w_new_char (pc := 18) (N := 20) E dX1_init_18 rfl (by decide) (by omega) (fun q18 => ?_)
  refine w_ws (ws' := pre ++ [(a, .inr (2, [.ref n5, .null, .null, .null, .null, .int 0, .int 0])), (n5, .inr (0, [.ref b9, .int (oi 0), .int 0, .int 0])), (b9, .inl (cA cx 3, 16, .inl (fun _ => 0))), (q18, .inl (cA cx 2, 20, .inl (fun _ => 0)))]) (List.append_assoc _ _ _) ?_
  refine w_putF (pc := 20) (f := 1) (ws' := pre ++ [(a, .inr (2, [.ref n5, .ref q18, .null, .null, .null, .int 0, .int 0])), (n5, .inr (0, [.ref b9, .int (oi 0), .int 0, .int 0])), (b9, .inl (cA cx 3, 16, .inl (fun _ => 0))), (q18, .inl (cA cx 2, 20, .inl (fun _ => 0)))]) E hnm dX1_init_20 clX1 (by decide) (big_at 310 (by decide +kernel) (by decide +kernel)) rfl rfl (pl_get (t := 0) rfl) rfl rfl rfl (Nat.le_of_ble_eq_true rfl) (pl_set (t := 0)) ?_
  refine w_aload_n (pc := 23) E dX1_init_23 (i := 0) rfl rfl ?_
  refine w_bipush (pc := 24) E dX1_init_24 rfl ?_
  refine w_new_int (pc := 26) (N := 20) E dX1_init_26 rfl (by decide) (by omega) (fun q26 => ?_)
  refine w_ws (ws' := pre ++ [(a, .inr (2, [.ref n5, .ref q18, .null, .null, .null, .int 0, .int 0])), (n5, .inr (0, [.ref b9, .int (oi 0), .int 0, .int 0])), (b9, .inl (cA cx 3, 16, .inl (fun _ => 0))), (q18, .inl (cA cx 2, 20, .inl (fun _ => 0))), (q26, .inl (cA cx 0, 20, .inl (fun _ => 0)))]) (List.append_assoc _ _ _) ?_
  refine w_putF (pc := 28) (f := 2) (ws' := pre ++ [(a, .inr (2, [.ref n5, .ref q18, .ref q26, .null, .null, .int 0, .int 0])), (n5, .inr (0, [.ref b9, .int (oi 0), .int 0, .int 0])), (b9, .inl (cA cx 3, 16, .inl (fun _ => 0))), (q18, .inl (cA cx 2, 20, .inl (fun _ => 0))), (q26, .inl (cA cx 0, 20, .inl (fun _ => 0)))]) E hnm dX1_init_28 clX1 (by decide) (big_at 312 (by decide +kernel) (by decide +kernel)) rfl rfl (pl_get (t := 0) rfl) rfl rfl rfl (Nat.le_of_ble_eq_true rfl) (pl_set (t := 0)) ?_
  refine w_aload_n (pc := 31) E dX1_init_31 (i := 0) rfl rfl ?_
  refine w_bipush (pc := 32) E dX1_init_32 rfl ?_
  refine w_new_int (pc := 34) (N := 20) E dX1_init_34 rfl (by decide) (by omega) (fun q34 => ?_)
  refine w_ws (ws' := pre ++ [(a, .inr (2, [.ref n5, .ref q18, .ref q26, .null, .null, .int 0, .int 0])), (n5, .inr (0, [.ref b9, .int (oi 0), .int 0, .int 0])), (b9, .inl (cA cx 3, 16, .inl (fun _ => 0))), (q18, .inl (cA cx 2, 20, .inl (fun _ => 0))), (q26, .inl (cA cx 0, 20, .inl (fun _ => 0))), (q34, .inl (cA cx 0, 20, .inl (fun _ => 0)))]) (List.append_assoc _ _ _) ?_
  refine w_putF (pc := 36) (f := 3) (ws' := pre ++ [(a, .inr (2, [.ref n5, .ref q18, .ref q26, .ref q34, .null, .int 0, .int 0])), (n5, .inr (0, [.ref b9, .int (oi 0), .int 0, .int 0])), (b9, .inl (cA cx 3, 16, .inl (fun _ => 0))), (q18, .inl (cA cx 2, 20, .inl (fun _ => 0))), (q26, .inl (cA cx 0, 20, .inl (fun _ => 0))), (q34, .inl (cA cx 0, 20, .inl (fun _ => 0)))]) E hnm dX1_init_36 clX1 (by decide) (big_at 314 (by decide +kernel) (by decide +kernel)) rfl rfl (pl_get (t := 0) rfl) rfl rfl rfl (Nat.le_of_ble_eq_true rfl) (pl_set (t := 0)) ?_
  refine w_aload_n (pc := 39) E dX1_init_39 (i := 0) rfl rfl ?_
  refine w_bipush (pc := 40) E dX1_init_40 rfl ?_
  refine w_new_int (pc := 42) (N := 20) E dX1_init_42 rfl (by decide) (by omega) (fun q42 => ?_)
  refine w_ws (ws' := pre ++ [(a, .inr (2, [.ref n5, .ref q18, .ref q26, .ref q34, .null, .int 0, .int 0])), (n5, .inr (0, [.ref b9, .int (oi 0), .int 0, .int 0])), (b9, .inl (cA cx 3, 16, .inl (fun _ => 0))), (q18, .inl (cA cx 2, 20, .inl (fun _ => 0))), (q26, .inl (cA cx 0, 20, .inl (fun _ => 0))), (q34, .inl (cA cx 0, 20, .inl (fun _ => 0))), (q42, .inl (cA cx 0, 20, .inl (fun _ => 0)))]) (List.append_assoc _ _ _) ?_
  refine w_putF (pc := 44) (f := 4) (ws' := pre ++ [(a, .inr (2, [.ref n5, .ref q18, .ref q26, .ref q34, .ref q42, .int 0, .int 0])), (n5, .inr (0, [.ref b9, .int (oi 0), .int 0, .int 0])), (b9, .inl (cA cx 3, 16, .inl (fun _ => 0))), (q18, .inl (cA cx 2, 20, .inl (fun _ => 0))), (q26, .inl (cA cx 0, 20, .inl (fun _ => 0))), (q34, .inl (cA cx 0, 20, .inl (fun _ => 0))), (q42, .inl (cA cx 0, 20, .inl (fun _ => 0)))]) E hnm dX1_init_44 clX1 (by decide) (big_at 316 (by decide +kernel) (by decide +kernel)) rfl rfl (pl_get (t := 0) rfl) rfl rfl rfl (Nat.le_of_ble_eq_true rfl) (pl_set (t := 0)) ?_
  refine w_aload_n (pc := 47) E dX1_init_47 (i := 0) rfl rfl ?_
  refine w_iconst (pc := 48) E dX1_init_48 rfl ?_
  refine w_put (pc := 49) (ws' := pre ++ [(a, .inr (2, [.ref n5, .ref q18, .ref q26, .ref q34, .ref q42, .int (oi 0), .int 0])), (n5, .inr (0, [.ref b9, .int (oi 0), .int 0, .int 0])), (b9, .inl (cA cx 3, 16, .inl (fun _ => 0))), (q18, .inl (cA cx 2, 20, .inl (fun _ => 0))), (q26, .inl (cA cx 0, 20, .inl (fun _ => 0))), (q34, .inl (cA cx 0, 20, .inl (fun _ => 0))), (q42, .inl (cA cx 0, 20, .inl (fun _ => 0)))]) E dX1_init_49 fl_X1_32 (pl_get (t := 0) rfl) rfl rfl rfl (Nat.le_of_ble_eq_true rfl) (pl_set (t := 0)) ?_
  refine w_aload_n (pc := 52) E dX1_init_52 (i := 0) rfl rfl ?_
  refine w_iconst (pc := 53) E dX1_init_53 rfl ?_
  refine w_put (pc := 54) (ws' := pre ++ [(a, .inr (2, [.ref n5, .ref q18, .ref q26, .ref q34, .ref q42, .int (oi 0), .int (oi 0)])), (n5, .inr (0, [.ref b9, .int (oi 0), .int 0, .int 0])), (b9, .inl (cA cx 3, 16, .inl (fun _ => 0))), (q18, .inl (cA cx 2, 20, .inl (fun _ => 0))), (q26, .inl (cA cx 0, 20, .inl (fun _ => 0))), (q34, .inl (cA cx 0, 20, .inl (fun _ => 0))), (q42, .inl (cA cx 0, 20, .inl (fun _ => 0)))]) E dX1_init_54 fl_X1_36 (pl_get (t := 0) rfl) rfl rfl rfl (Nat.le_of_ble_eq_true rfl) (pl_set (t := 0)) ?_
  refine w_widen (k' := 6) (n' := 120) (by omega) (by omega) ?_
  refine w_vret (pc := 57) E hr dX1_init_57 ?_
  exact ⟨n5, b9, q18, q26, q34, q42, rfl⟩

