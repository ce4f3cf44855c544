/-! the constructors -/
theorem pl_get {pre L : va_W} {t : Nat} {e : Nat × va_E} (h : L[t]? = some e) : (pre ++ L)[pre.length + t]? = some e := by
  rw [List.getElem?_append_right (by omega), Nat.add_sub_cancel_left]
  exact h
theorem pl_set {pre L : va_W} {t : Nat} {e : Nat × va_E} : (pre ++ L).set (pre.length + t) e = pre ++ L.set t e := by
  rw [List.set_append_right _ _ (by omega), Nat.add_sub_cancel_left]

theorem ck_X3 {cx : Cx} {pre : va_W} {a : Nat} : MtW cx yX3_init cX3_init 1 none 2 3 60 [.ref a] (pre ++ [(a, .inr (4, [.null, .null, .null, .int 0]))]) (QVw cx (fun w => ∃ q1 q2 q3 : Nat, w = pre ++ [(a, .inr (4, [.ref q1, .ref q2, .ref q3, .int (oi 0)])), (q1, .inl (cA cx 0, 20, .inl (fun _ => 0))), (q2, .inl (cA cx 0, 20, .inl (fun _ => 0))), (q3, .inl (cA cx 1, 20, .inl (fun _ => 0)))])) := by
  refine mk_intro cd_X3_init (by decide +kernel) (Nat.le_of_ble_eq_true rfl) rfl (fun Pg Lc Ev s m args below meth c E hr hnm => ?_)
  refine w_ent (ls' := [some (.ref a)]) rfl ?_
  refine w_aload_n (pc := 0) E dX3_init_0 (i := 0) rfl rfl ?_
  refine w_objI (pc := 1) E dX3_init_1 (big_at 255 (by decide +kernel) (by decide +kernel)) rfl (by decide) (Nat.le_of_ble_eq_true rfl) ?_
  refine w_aload_n (pc := 4) E dX3_init_4 (i := 0) rfl rfl ?_
  refine w_bipush (pc := 5) E dX3_init_5 rfl ?_
  refine w_new_int (pc := 7) (N := 20) E dX3_init_7 rfl (by decide) (by omega) (fun q7 => ?_)
  refine w_ws (ws' := pre ++ [(a, .inr (4, [.null, .null, .null, .int 0])), (q7, .inl (cA cx 0, 20, .inl (fun _ => 0)))]) (List.append_assoc _ _ _) ?_
  refine w_putF (pc := 9) (f := 0) (ws' := pre ++ [(a, .inr (4, [.ref q7, .null, .null, .int 0])), (q7, .inl (cA cx 0, 20, .inl (fun _ => 0)))]) E hnm dX3_init_9 clX3 (by decide) (big_at 256 (by decide +kernel) (by decide +kernel)) rfl rfl (pl_get (t := 0) rfl) rfl rfl rfl (Nat.le_of_ble_eq_true rfl) (pl_set (t := 0)) ?_
  refine w_aload_n (pc := 12) E dX3_init_12 (i := 0) rfl rfl ?_
  refine w_bipush (pc := 13) E dX3_init_13 rfl ?_
  refine w_new_int (pc := 15) (N := 20) E dX3_init_15 rfl (by decide) (by omega) (fun q15 => ?_)
  refine w_ws (ws' := pre ++ [(a, .inr (4, [.ref q7, .null, .null, .int 0])), (q7, .inl (cA cx 0, 20, .inl (fun _ => 0))), (q15, .inl (cA cx 0, 20, .inl (fun _ => 0)))]) (List.append_assoc _ _ _) ?_
  refine w_putF (pc := 17) (f := 1) (ws' := pre ++ [(a, .inr (4, [.ref q7, .ref q15, .null, .int 0])), (q7, .inl (cA cx 0, 20, .inl (fun _ => 0))), (q15, .inl (cA cx 0, 20, .inl (fun _ => 0)))]) E hnm dX3_init_17 clX3 (by decide) (big_at 258 (by decide +kernel) (by decide +kernel)) rfl rfl (pl_get (t := 0) rfl) rfl rfl rfl (Nat.le_of_ble_eq_true rfl) (pl_set (t := 0)) ?_
  refine w_aload_n (pc := 20) E dX3_init_20 (i := 0) rfl rfl ?_
  refine w_bipush (pc := 21) E dX3_init_21 rfl ?_
  refine w_new_boolean (pc := 23) (N := 20) E dX3_init_23 rfl (by decide) (by omega) (fun q23 => ?_)
  refine w_ws (ws' := pre ++ [(a, .inr (4, [.ref q7, .ref q15, .null, .int 0])), (q7, .inl (cA cx 0, 20, .inl (fun _ => 0))), (q15, .inl (cA cx 0, 20, .inl (fun _ => 0))), (q23, .inl (cA cx 1, 20, .inl (fun _ => 0)))]) (List.append_assoc _ _ _) ?_
  refine w_putF (pc := 25) (f := 2) (ws' := pre ++ [(a, .inr (4, [.ref q7, .ref q15, .ref q23, .int 0])), (q7, .inl (cA cx 0, 20, .inl (fun _ => 0))), (q15, .inl (cA cx 0, 20, .inl (fun _ => 0))), (q23, .inl (cA cx 1, 20, .inl (fun _ => 0)))]) E hnm dX3_init_25 clX3 (by decide) (big_at 259 (by decide +kernel) (by decide +kernel)) rfl rfl (pl_get (t := 0) rfl) rfl rfl rfl (Nat.le_of_ble_eq_true rfl) (pl_set (t := 0)) ?_
  refine w_aload_n (pc := 28) E dX3_init_28 (i := 0) rfl rfl ?_
  refine w_iconst (pc := 29) E dX3_init_29 rfl ?_
  refine w_put (pc := 30) (ws' := pre ++ [(a, .inr (4, [.ref q7, .ref q15, .ref q23, .int (oi 0)])), (q7, .inl (cA cx 0, 20, .inl (fun _ => 0))), (q15, .inl (cA cx 0, 20, .inl (fun _ => 0))), (q23, .inl (cA cx 1, 20, .inl (fun _ => 0)))]) E dX3_init_30 fl_X3_22 (pl_get (t := 0) rfl) rfl rfl rfl (Nat.le_of_ble_eq_true rfl) (pl_set (t := 0)) ?_
  refine w_widen (k' := 3) (n' := 60) (by omega) (by omega) ?_
  refine w_vret (pc := 33) E hr dX3_init_33 ?_
  exact ⟨q7, q15, q23, rfl⟩

theorem ck_X4 {cx : Cx} {pre : va_W} {a : Nat} : MtW cx yX4_init cX4_init 1 none 2 4 24 [.ref a] (pre ++ [(a, .inr (5, [.null, .null, .null, .null, .int 0, .int 0, .int 0, .int 0, .int 0, .int 0, .int 0, .int 0]))]) (QVw cx (fun w => ∃ q1 q2 q3 q4 : Nat, w = pre ++ [(a, .inr (5, [.ref q1, .ref q2, .ref q3, .ref q4, .int (oi 0), .int (oi 0), .int (oi 0), .int (oi 0), .int (oi 0), .int (oi 0), .int (oi 0), .int (oi 0)])), (q1, .inl (cA cx 0, 8, .inl (fun _ => 0))), (q2, .inl (cA cx 0, 8, .inl (fun _ => 0))), (q3, .inl (cA cx 0, 4, .inl (fun _ => 0))), (q4, .inl (cA cx 1, 4, .inl (fun _ => 0)))])) := by
  refine mk_intro cd_X4_init (by decide +kernel) (Nat.le_of_ble_eq_true rfl) rfl (fun Pg Lc Ev s m args below meth c E hr hnm => ?_)
  refine w_ent (ls' := [some (.ref a)]) rfl ?_
  refine w_aload_n (pc := 0) E dX4_init_0 (i := 0) rfl rfl ?_
  refine w_objI (pc := 1) E dX4_init_1 (big_at 201 (by decide +kernel) (by decide +kernel)) rfl (by decide) (Nat.le_of_ble_eq_true rfl) ?_
  refine w_aload_n (pc := 4) E dX4_init_4 (i := 0) rfl rfl ?_
  refine w_bipush (pc := 5) E dX4_init_5 rfl ?_
  refine w_new_int (pc := 7) (N := 8) E dX4_init_7 rfl (by decide) (by omega) (fun q7 => ?_)
  refine w_ws (ws' := pre ++ [(a, .inr (5, [.null, .null, .null, .null, .int 0, .int 0, .int 0, .int 0, .int 0, .int 0, .int 0, .int 0])), (q7, .inl (cA cx 0, 8, .inl (fun _ => 0)))]) (List.append_assoc _ _ _) ?_
  refine w_putF (pc := 9) (f := 0) (ws' := pre ++ [(a, .inr (5, [.ref q7, .null, .null, .null, .int 0, .int 0, .int 0, .int 0, .int 0, .int 0, .int 0, .int 0])), (q7, .inl (cA cx 0, 8, .inl (fun _ => 0)))]) E hnm dX4_init_9 clX4 (by decide) (big_at 202 (by decide +kernel) (by decide +kernel)) rfl rfl (pl_get (t := 0) rfl) rfl rfl rfl (Nat.le_of_ble_eq_true rfl) (pl_set (t := 0)) ?_
  refine w_aload_n (pc := 12) E dX4_init_12 (i := 0) rfl rfl ?_
  refine w_bipush (pc := 13) E dX4_init_13 rfl ?_
  refine w_new_int (pc := 15) (N := 8) E dX4_init_15 rfl (by decide) (by omega) (fun q15 => ?_)
  refine w_ws (ws' := pre ++ [(a, .inr (5, [.ref q7, .null, .null, .null, .int 0, .int 0, .int 0, .int 0, .int 0, .int 0, .int 0, .int 0])), (q7, .inl (cA cx 0, 8, .inl (fun _ => 0))), (q15, .inl (cA cx 0, 8, .inl (fun _ => 0)))]) (List.append_assoc _ _ _) ?_
  refine w_putF (pc := 17) (f := 1) (ws' := pre ++ [(a, .inr (5, [.ref q7, .ref q15, .null, .null, .int 0, .int 0, .int 0, .int 0, .int 0, .int 0, .int 0, .int 0])), (q7, .inl (cA cx 0, 8, .inl (fun _ => 0))), (q15, .inl (cA cx 0, 8, .inl (fun _ => 0)))]) E hnm dX4_init_17 clX4 (by decide) (big_at 204 (by decide +kernel) (by decide +kernel)) rfl rfl (pl_get (t := 0) rfl) rfl rfl rfl (Nat.le_of_ble_eq_true rfl) (pl_set (t := 0)) ?_
  refine w_aload_n (pc := 20) E dX4_init_20 (i := 0) rfl rfl ?_
  refine w_iconst (pc := 21) E dX4_init_21 rfl ?_
  refine w_new_int (pc := 22) (N := 4) E dX4_init_22 rfl (by decide) (by omega) (fun q22 => ?_)
  refine w_ws (ws' := pre ++ [(a, .inr (5, [.ref q7, .ref q15, .null, .null, .int 0, .int 0, .int 0, .int 0, .int 0, .int 0, .int 0, .int 0])), (q7, .inl (cA cx 0, 8, .inl (fun _ => 0))), (q15, .inl (cA cx 0, 8, .inl (fun _ => 0))), (q22, .inl (cA cx 0, 4, .inl (fun _ => 0)))]) (List.append_assoc _ _ _) ?_
  refine w_putF (pc := 24) (f := 2) (ws' := pre ++ [(a, .inr (5, [.ref q7, .ref q15, .ref q22, .null, .int 0, .int 0, .int 0, .int 0, .int 0, .int 0, .int 0, .int 0])), (q7, .inl (cA cx 0, 8, .inl (fun _ => 0))), (q15, .inl (cA cx 0, 8, .inl (fun _ => 0))), (q22, .inl (cA cx 0, 4, .inl (fun _ => 0)))]) E hnm dX4_init_24 clX4 (by decide) (big_at 206 (by decide +kernel) (by decide +kernel)) rfl rfl (pl_get (t := 0) rfl) rfl rfl rfl (Nat.le_of_ble_eq_true rfl) (pl_set (t := 0)) ?_
  refine w_aload_n (pc := 27) E dX4_init_27 (i := 0) rfl rfl ?_
  refine w_iconst (pc := 28) E dX4_init_28 rfl ?_
  refine w_new_boolean (pc := 29) (N := 4) E dX4_init_29 rfl (by decide) (by omega) (fun q29 => ?_)
  refine w_ws (ws' := pre ++ [(a, .inr (5, [.ref q7, .ref q15, .ref q22, .null, .int 0, .int 0, .int 0, .int 0, .int 0, .int 0, .int 0, .int 0])), (q7, .inl (cA cx 0, 8, .inl (fun _ => 0))), (q15, .inl (cA cx 0, 8, .inl (fun _ => 0))), (q22, .inl (cA cx 0, 4, .inl (fun _ => 0))), (q29, .inl (cA cx 1, 4, .inl (fun _ => 0)))]) (List.append_assoc _ _ _) ?_
  refine w_putF (pc := 31) (f := 3) (ws' := pre ++ [(a, .inr (5, [.ref q7, .ref q15, .ref q22, .ref q29, .int 0, .int 0, .int 0, .int 0, .int 0, .int 0, .int 0, .int 0])), (q7, .inl (cA cx 0, 8, .inl (fun _ => 0))), (q15, .inl (cA cx 0, 8, .inl (fun _ => 0))), (q22, .inl (cA cx 0, 4, .inl (fun _ => 0))), (q29, .inl (cA cx 1, 4, .inl (fun _ => 0)))]) E hnm dX4_init_31 clX4 (by decide) (big_at 208 (by decide +kernel) (by decide +kernel)) rfl rfl (pl_get (t := 0) rfl) rfl rfl rfl (Nat.le_of_ble_eq_true rfl) (pl_set (t := 0)) ?_
  refine w_aload_n (pc := 34) E dX4_init_34 (i := 0) rfl rfl ?_
  refine w_iconst (pc := 35) E dX4_init_35 rfl ?_
  refine w_put (pc := 36) (ws' := pre ++ [(a, .inr (5, [.ref q7, .ref q15, .ref q22, .ref q29, .int (oi 0), .int 0, .int 0, .int 0, .int 0, .int 0, .int 0, .int 0])), (q7, .inl (cA cx 0, 8, .inl (fun _ => 0))), (q15, .inl (cA cx 0, 8, .inl (fun _ => 0))), (q22, .inl (cA cx 0, 4, .inl (fun _ => 0))), (q29, .inl (cA cx 1, 4, .inl (fun _ => 0)))]) E dX4_init_36 fl_X4_25 (pl_get (t := 0) rfl) rfl rfl rfl (Nat.le_of_ble_eq_true rfl) (pl_set (t := 0)) ?_
  refine w_aload_n (pc := 39) E dX4_init_39 (i := 0) rfl rfl ?_
  refine w_iconst (pc := 40) E dX4_init_40 rfl ?_
  refine w_put (pc := 41) (ws' := pre ++ [(a, .inr (5, [.ref q7, .ref q15, .ref q22, .ref q29, .int (oi 0), .int (oi 0), .int 0, .int 0, .int 0, .int 0, .int 0, .int 0])), (q7, .inl (cA cx 0, 8, .inl (fun _ => 0))), (q15, .inl (cA cx 0, 8, .inl (fun _ => 0))), (q22, .inl (cA cx 0, 4, .inl (fun _ => 0))), (q29, .inl (cA cx 1, 4, .inl (fun _ => 0)))]) E dX4_init_41 fl_X4_29 (pl_get (t := 0) rfl) rfl rfl rfl (Nat.le_of_ble_eq_true rfl) (pl_set (t := 0)) ?_
  refine w_aload_n (pc := 44) E dX4_init_44 (i := 0) rfl rfl ?_
  refine w_iconst (pc := 45) E dX4_init_45 rfl ?_
  refine w_put (pc := 46) (ws' := pre ++ [(a, .inr (5, [.ref q7, .ref q15, .ref q22, .ref q29, .int (oi 0), .int (oi 0), .int (oi 0), .int 0, .int 0, .int 0, .int 0, .int 0])), (q7, .inl (cA cx 0, 8, .inl (fun _ => 0))), (q15, .inl (cA cx 0, 8, .inl (fun _ => 0))), (q22, .inl (cA cx 0, 4, .inl (fun _ => 0))), (q29, .inl (cA cx 1, 4, .inl (fun _ => 0)))]) E dX4_init_46 fl_X4_32 (pl_get (t := 0) rfl) rfl rfl rfl (Nat.le_of_ble_eq_true rfl) (pl_set (t := 0)) ?_
  refine w_aload_n (pc := 49) E dX4_init_49 (i := 0) rfl rfl ?_
  refine w_iconst (pc := 50) E dX4_init_50 rfl ?_
  refine w_put (pc := 51) (ws' := pre ++ [(a, .inr (5, [.ref q7, .ref q15, .ref q22, .ref q29, .int (oi 0), .int (oi 0), .int (oi 0), .int (oi 0), .int 0, .int 0, .int 0, .int 0])), (q7, .inl (cA cx 0, 8, .inl (fun _ => 0))), (q15, .inl (cA cx 0, 8, .inl (fun _ => 0))), (q22, .inl (cA cx 0, 4, .inl (fun _ => 0))), (q29, .inl (cA cx 1, 4, .inl (fun _ => 0)))]) E dX4_init_51 fl_X4_35 (pl_get (t := 0) rfl) rfl rfl rfl (Nat.le_of_ble_eq_true rfl) (pl_set (t := 0)) ?_
  refine w_aload_n (pc := 54) E dX4_init_54 (i := 0) rfl rfl ?_
  refine w_iconst (pc := 55) E dX4_init_55 rfl ?_
  refine w_put (pc := 56) (ws' := pre ++ [(a, .inr (5, [.ref q7, .ref q15, .ref q22, .ref q29, .int (oi 0), .int (oi 0), .int (oi 0), .int (oi 0), .int (oi 0), .int 0, .int 0, .int 0])), (q7, .inl (cA cx 0, 8, .inl (fun _ => 0))), (q15, .inl (cA cx 0, 8, .inl (fun _ => 0))), (q22, .inl (cA cx 0, 4, .inl (fun _ => 0))), (q29, .inl (cA cx 1, 4, .inl (fun _ => 0)))]) E dX4_init_56 fl_X4_39 (pl_get (t := 0) rfl) rfl rfl rfl (Nat.le_of_ble_eq_true rfl) (pl_set (t := 0)) ?_
  refine w_aload_n (pc := 59) E dX4_init_59 (i := 0) rfl rfl ?_
  refine w_iconst (pc := 60) E dX4_init_60 rfl ?_
  refine w_put (pc := 61) (ws' := pre ++ [(a, .inr (5, [.ref q7, .ref q15, .ref q22, .ref q29, .int (oi 0), .int (oi 0), .int (oi 0), .int (oi 0), .int (oi 0), .int (oi 0), .int 0, .int 0])), (q7, .inl (cA cx 0, 8, .inl (fun _ => 0))), (q15, .inl (cA cx 0, 8, .inl (fun _ => 0))), (q22, .inl (cA cx 0, 4, .inl (fun _ => 0))), (q29, .inl (cA cx 1, 4, .inl (fun _ => 0)))]) E dX4_init_61 fl_X4_42 (pl_get (t := 0) rfl) rfl rfl rfl (Nat.le_of_ble_eq_true rfl) (pl_set (t := 0)) ?_
  refine w_aload_n (pc := 64) E dX4_init_64 (i := 0) rfl rfl ?_
  refine w_iconst (pc := 65) E dX4_init_65 rfl ?_
  refine w_put (pc := 66) (ws' := pre ++ [(a, .inr (5, [.ref q7, .ref q15, .ref q22, .ref q29, .int (oi 0), .int (oi 0), .int (oi 0), .int (oi 0), .int (oi 0), .int (oi 0), .int (oi 0), .int 0])), (q7, .inl (cA cx 0, 8, .inl (fun _ => 0))), (q15, .inl (cA cx 0, 8, .inl (fun _ => 0))), (q22, .inl (cA cx 0, 4, .inl (fun _ => 0))), (q29, .inl (cA cx 1, 4, .inl (fun _ => 0)))]) E dX4_init_66 fl_X4_45 (pl_get (t := 0) rfl) rfl rfl rfl (Nat.le_of_ble_eq_true rfl) (pl_set (t := 0)) ?_
  refine w_aload_n (pc := 69) E dX4_init_69 (i := 0) rfl rfl ?_
  refine w_iconst (pc := 70) E dX4_init_70 rfl ?_
  refine w_put (pc := 71) (ws' := pre ++ [(a, .inr (5, [.ref q7, .ref q15, .ref q22, .ref q29, .int (oi 0), .int (oi 0), .int (oi 0), .int (oi 0), .int (oi 0), .int (oi 0), .int (oi 0), .int (oi 0)])), (q7, .inl (cA cx 0, 8, .inl (fun _ => 0))), (q15, .inl (cA cx 0, 8, .inl (fun _ => 0))), (q22, .inl (cA cx 0, 4, .inl (fun _ => 0))), (q29, .inl (cA cx 1, 4, .inl (fun _ => 0)))]) E dX4_init_71 fl_X4_48 (pl_get (t := 0) rfl) rfl rfl rfl (Nat.le_of_ble_eq_true rfl) (pl_set (t := 0)) ?_
  refine w_widen (k' := 4) (n' := 24) (by omega) (by omega) ?_
  refine w_vret (pc := 74) E hr dX4_init_74 ?_
  exact ⟨q7, q15, q22, q29, rfl⟩

