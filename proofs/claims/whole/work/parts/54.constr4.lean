/-! the constructor of the history -/
/-- x boards -/
def bds (cx : Cx) (ads : Nat → Nat → Nat) : Nat → va_W
  | 0 => []
  | k + 1 => bds cx ads k ++ bdL cx (ads k)
theorem bds_c {cx : Cx} {f g : Nat → Nat → Nat} : ∀ k : Nat, (∀ t, t < k → f t = g t) → bds cx f k = bds cx g k
  | 0, _ => rfl
  | k + 1, h => by
    show bds cx f k ++ bdL cx (f k) = bds cx g k ++ bdL cx (g k)
    rw [bds_c k (fun t ht => h t (by omega)), h k (by omega)]
def bvs (ad : Nat → Nat) : List Value := [.int (oi 0), .int (oi 0), .int (oi 0), .int (oi 0), .ref (ad 1), .ref (ad 2), .ref (ad 3), .ref (ad 4), .ref (ad 5), .ref (ad 6), .ref (ad 7), .ref (ad 8), .ref (ad 9), .ref (ad 10), .ref (ad 11), .ref (ad 12), .ref (ad 13), .ref (ad 14)]
def slf (ads : Nat → Nat → Nat) (x : Nat) : Nat → Option Nat := fun j => if j < x then some (ads j 0) else none
theorem slf_0 (ads : Nat → Nat → Nat) : slf ads 0 = fun _ => none := by funext j; unfold slf; rw [if_neg (by omega)]
theorem slf_s {ads ad2 : Nat → Nat → Nat} {x v : Nat} (h : ∀ t, t < x → ad2 t = ads t) (hv : ad2 x 0 = v) : va_up (slf ads x) x (some v) = slf ad2 (x + 1) := by
  funext j
  unfold va_up slf
  by_cases q : j = x
  · rw [if_pos q, if_pos (by omega), q, hv]
  · rw [if_neg q]
    by_cases q2 : j < x
    · rw [if_pos q2, if_pos (by omega), h j q2]
    · rw [if_neg q2, if_neg (by omega)]

section GQ
variable {cx : Cx} {y : MethodName} {cc : ByteArray} {nL d uc us : Nat} {p : Program} {l : Launch} {e : Env} {R : Room} {s : State} {m : MethodId} {args : Array Value} {below : List Frame} {meth : Method} {c : Code} {Q : State → Prop} {pc : Nat} {ls : List (Option Value)} {sk : List Value} {ws : va_W} {k n : Nat}
theorem w_alenQ {a i N : Nat} {f : Nat → Option Nat} {z : Int} (E : En cx y cc nL d uc us p R s m args meth c) (hd : decode cc pc = .ok (.arraylength, 1)) (hi : ws[i]? = some (a, .inl (cA cx 4, N, .inr (.inr (.inr (.inr f)))))) (hz : (N : Int) = z)
    (kk : GW cx p l e R s m args below meth c Q (pc + 1) ls (.int (oi z) :: sk) ws k n) : GW cx p l e R s m args below meth c Q pc ls (.ref a :: sk) ws k n := by
  subst hz
  intro H lsA locs hP hD hS hL
  exact va_alen E.1 E.2.1 E.2.2.2.2.2.1 hP i 4 hi rfl (oi_nat N).symm hd (kk H lsA locs hP hD hS hL)
end GQ
theorem ck_X2 {cx : Cx} {pre : va_W} {a : Nat} : MtK cx yX2_init cX2_init 2 none 3 136 7272 [.ref a] (pre ++ [(a, .inr (3, [.null, .int 0, .int 0]))]) (QVw cx (fun w => ∃ (q1 : Nat) (ads : Nat → Nat → Nat), w = pre ++ ([(a, .inr (3, [.ref q1, .int (oi 0), .int (oi 0)])), (q1, .inl (cA cx 4, 9, .inr (.inr (.inr (.inr (slf ads 9))))))] ++ bds cx ads 9))) := by
  refine mk_introK cd_X2_init (by decide +kernel) (Nat.le_of_ble_eq_true rfl) rfl (fun Pg Lc Ev s m args below meth c E hAO hr hnm => ?_)
  refine w_ent (ls' := [some (.ref a), none]) rfl ?_
  refine w_aload_n (pc := 0) E dX2_init_0 (i := 0) rfl rfl ?_
  refine w_objI (pc := 1) E dX2_init_1 (big_at 181 (by decide +kernel) (by decide +kernel)) rfl (by decide) (Nat.le_of_ble_eq_true rfl) ?_
  refine w_aload_n (pc := 4) E dX2_init_4 (i := 0) rfl rfl ?_
  refine w_bipush (pc := 5) E dX2_init_5 rfl ?_
  refine w_newQ (pc := 7) (N := 9) E dX2_init_7 hAO (big_at 182 (by decide +kernel) (by decide +kernel)) rfl (by decide) (by omega) (fun q7 => ?_)
  refine w_ws (ws' := pre ++ [(a, .inr (3, [.null, .int 0, .int 0])), (q7, .inl (cA cx 4, 9, .inr (.inr (.inr (.inr (fun _ => none))))))]) (List.append_assoc _ _ _) ?_
  refine w_putF (pc := 10) (f := 0) (ws' := pre ++ [(a, .inr (3, [.ref q7, .int 0, .int 0])), (q7, .inl (cA cx 4, 9, .inr (.inr (.inr (.inr (fun _ => none))))))]) E hnm dX2_init_10 clX2 (by decide) (big_at 185 (by decide +kernel) (by decide +kernel)) rfl rfl (pl_get (t := 0) rfl) rfl rfl rfl (Nat.le_of_ble_eq_true rfl) (pl_set (t := 0)) ?_
  refine w_aload_n (pc := 13) E dX2_init_13 (i := 0) rfl rfl ?_
  refine w_iconst (pc := 14) E dX2_init_14 rfl ?_
  refine w_put (pc := 15) (ws' := pre ++ [(a, .inr (3, [.ref q7, .int (oi 0), .int 0])), (q7, .inl (cA cx 4, 9, .inr (.inr (.inr (.inr (fun _ => none))))))]) E dX2_init_15 fl_X2_17 (pl_get (t := 0) rfl) rfl rfl rfl (Nat.le_of_ble_eq_true rfl) (pl_set (t := 0)) ?_
  refine w_aload_n (pc := 18) E dX2_init_18 (i := 0) rfl rfl ?_
  refine w_iconst (pc := 19) E dX2_init_19 rfl ?_
  refine w_put (pc := 20) (ws' := pre ++ [(a, .inr (3, [.ref q7, .int (oi 0), .int (oi 0)])), (q7, .inl (cA cx 4, 9, .inr (.inr (.inr (.inr (fun _ => none))))))]) E dX2_init_20 fl_X2_21 (pl_get (t := 0) rfl) rfl rfl rfl (Nat.le_of_ble_eq_true rfl) (pl_set (t := 0)) ?_
  refine w_iconst (pc := 23) E dX2_init_23 rfl ?_
  refine w_istore_n (pc := 24) E dX2_init_24 (i := 1) (ls' := [_, _]) rfl (Nat.le_of_ble_eq_true rfl) rfl ?_
  have LP : ∀ (n : Nat) (x : Nat) (ads : Nat → Nat → Nat), 9 - (x : Int) < (n : Int) → x ≤ 9 → GW cx Pg Lc Ev (rmD 3 136 7272) s m args below meth c (MQ below (QVw cx (fun w => ∃ (q1 : Nat) (ads : Nat → Nat → Nat), w = pre ++ ([(a, .inr (3, [.ref q1, .int (oi 0), .int (oi 0)])), (q1, .inl (cA cx 4, 9, .inr (.inr (.inr (.inr (slf ads 9))))))] ++ bds cx ads 9))) args s 136 7272 (cA0 cx)) 25 [some (.ref a), some (.int (oi (x : Int)))] [] (pre ++ ([(a, .inr (3, [.ref q7, .int (oi 0), .int (oi 0)])), (q7, .inl (cA cx 4, 9, .inr (.inr (.inr (.inr (slf ads x))))))] ++ bds cx ads x)) (1 + 15 * x) (9 + 807 * x) := by
    intro n
    induction n with
    | zero => intro x ads hn h1; exact absurd hn (by omega)
    | succ n ih =>
      intro x ads hn h1
      refine w_iload_n (pc := 25) E dX2_init_25 (i := 1) rfl rfl ?_
      refine w_aload_n (pc := 26) E dX2_init_26 (i := 0) rfl rfl ?_
      refine w_get (pc := 27) E dX2_init_27 fl_X2_11 (pl_get (t := 0) rfl) rfl ?_
      refine w_alenQ (pc := 30) E dX2_init_30 (pl_get (t := 1) rfl) rfl ?_
      refine w_icmp_ge (pc := 31) (tgt := 53) E dX2_init_31 (by decide) (fun qh => ?_) (fun qh => ?_)
      · have hx : x = 9 := by omega
        subst hx
        refine w_widen (k' := 136) (n' := 7272) (by omega) (by omega) ?_
        refine w_vret (pc := 53) E hr dX2_init_53 ?_
        exact ⟨q7, ads, rfl⟩
      · refine w_aload_n (pc := 34) E dX2_init_34 (i := 0) rfl rfl ?_
        refine w_get (pc := 35) E dX2_init_35 fl_X2_11 (pl_get (t := 0) rfl) rfl ?_
        refine w_iload_n (pc := 38) E dX2_init_38 (i := 1) rfl rfl ?_
        refine w_newO (pc := 39) (ci := 1) (N := 18) (fs := [.int 0, .int 0, .int 0, .int 0, .null, .null, .null, .null, .null, .null, .null, .null, .null, .null, .null, .null, .null, .null]) E dX2_init_39 clX0 (big_at 182 (by decide +kernel) (by decide +kernel)) (big_at 90 (by decide +kernel) (by decide +kernel)) (big_at 63 (by decide +kernel) (by decide +kernel)) (fun j hj => by rcases (show j = 0 ∨ j = 1 ∨ j = 2 ∨ j = 3 ∨ j = 4 ∨ j = 5 ∨ j = 6 ∨ j = 7 ∨ j = 8 ∨ j = 9 ∨ j = 10 ∨ j = 11 ∨ j = 12 ∨ j = 13 ∨ j = 14 ∨ j = 15 ∨ j = 16 ∨ j = 17 by omega) with rfl | rfl | rfl | rfl | rfl | rfl | rfl | rfl | rfl | rfl | rfl | rfl | rfl | rfl | rfl | rfl | rfl | rfl <;> rfl) (by omega) (fun q39 => ?_)
        refine w_dup (pc := 42) E dX2_init_42 rfl ?_
        refine w_callI (pc := 43) (i := 0) (ci := 0) (fs := []) (q := ("", TJ4, 0)) (As := []) E dX2_init_43 ⟨⟨by decide +kernel, by decide +kernel, by decide +kernel⟩, big_at 63 (by decide +kernel) (by decide +kernel)⟩ (big_at 184 (by decide +kernel) (by decide +kernel)) (big_at 92 (by decide +kernel) (by decide +kernel)) rfl (ck_X0 (pre := pre ++ ([(a, .inr (3, [.ref q7, .int (oi 0), .int (oi 0)])), (q7, .inl (cA cx 4, 9, .inr (.inr (.inr (.inr (slf ads x))))))] ++ bds cx ads x))) rfl rfl (by decide) (Nat.le_of_ble_eq_true rfl) rfl (Nat.le_of_ble_eq_true rfl) (by omega) (fun w43 hw43 => ?_)
        obtain ⟨ad, had, rfl⟩ := hw43
        have hN : ∀ t, t < x → (fun t => if t = x then ad else ads t) t = ads t := fun t ht => if_neg (by omega)
        have hX : (fun t => if t = x then ad else ads t) x = ad := if_pos rfl
        refine w_ws (ws' := pre ++ ([(a, .inr (3, [.ref q7, .int (oi 0), .int (oi 0)])), (q7, .inl (cA cx 4, 9, .inr (.inr (.inr (.inr (slf ads x))))))] ++ bds cx (fun t => if t = x then ad else ads t) (x + 1))) ?_ ?_
        · show (pre ++ (_ ++ bds cx ads x)) ++ bdL cx ad = _
          rw [List.append_assoc, List.append_assoc]
          show _ = pre ++ (_ ++ (bds cx _ x ++ bdL cx _))
          rw [bds_c x hN, hX]
        have hj : ([(a, .inr (3, [.ref q7, .int (oi 0), .int (oi 0)])), (q7, .inl (cA cx 4, 9, .inr (.inr (.inr (.inr (slf ads x))))))] ++ bds cx (fun t => if t = x then ad else ads t) (x + 1))[2 + (bds cx ads x).length]? = some (q39, .inr (1, bvs ad)) := by
          rw [List.getElem?_append_right (Nat.le_add_right 2 _)]
          show (bds cx _ x ++ bdL cx _)[2 + (bds cx ads x).length - 2]? = _
          rw [bds_c x hN, hX, Nat.add_sub_cancel_left, List.getElem?_append_right (Nat.le_refl _), Nat.sub_self, ← had]
          rfl
        refine w_aast (pc := 46) (vs := bvs ad) (j := pre.length + (2 + (bds cx ads x).length)) (ws' := pre ++ ([(a, .inr (3, [.ref q7, .int (oi 0), .int (oi 0)])), (q7, .inl (cA cx 4, 9, .inr (.inr (.inr (.inr (slf (fun t => if t = x then ad else ads t) (x + 1)))))))] ++ bds cx (fun t => if t = x then ad else ads t) (x + 1))) E dX2_init_46 (pl_get (t := 1) rfl) (pl_get hj) (by omega) (by omega) (by decide) (by rw [pl_set, Int.toNat_natCast, slf_s hN (v := q39) ((congrFun hX 0).trans had)]; rfl) ?_
        refine w_iinc (pc := 47) E dX2_init_47 (ls' := [_, _]) rfl rfl rfl ?_
        refine w_goto (pc := 50) (tgt := 25) E dX2_init_50 (by decide) ?_
        refine w_widen (k' := 1 + 15 * (x + 1)) (n' := 9 + 807 * (x + 1)) (by omega) (by omega) ?_
        exact ih (x + 1) _ (by omega) (by omega)
  refine w_ws (ws' := pre ++ ([(a, .inr (3, [.ref q7, .int (oi 0), .int (oi 0)])), (q7, .inl (cA cx 4, 9, .inr (.inr (.inr (.inr (slf (fun _ _ => 0) 0))))))] ++ bds cx (fun _ _ => 0) 0)) (by rw [slf_0]; rfl) ?_
  exact LP 10 0 (fun _ _ => 0) (by omega) (by omega)

