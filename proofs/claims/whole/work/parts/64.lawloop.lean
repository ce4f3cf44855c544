/-! the law: its loop -/
section LWL
variable {cx : Cx} {p : Program} {l : Launch} {e : Env} {s : State} {m : MethodId} {below : List Frame} {meth : Method} {c : Code}
variable {b L : Nat} {xs : Nat → Int32} {M : Mem} {k n : Nat}
theorem lw_end (E : En cx yL_law cL_law 4 100 600000 7302250 p room_1 s m #[Value.ref b] meth c) (hr : meth.sig.returnType = ret) (hlocks : meth.locks = false) (hh : cx.2.2.2 = s.heap.size) {ls : List (Option Value)} (h1 : k ≤ 600000) (h2 : n ≤ 7302250) : G cx p l e room_1 s m #[Value.ref b] below meth c (lw_Z below #[Value.ref b] s) 1178 ls [] M k n := by
  intro H lsA locs hI hS hL
  refine lv_iconst (v := 1) E.1 E.2.1 dL_law_1178 rfl ?_
  refine va_forget (fun q hq => Nat.le_trans (Nat.le_of_eq hh.symm) (hS.2.2 q hq)) ?_
  refine W.widen (k := 600000) (n := 7302250) h1 h2 ?_
  exact lw_ret E.1 E.2.1 hr hlocks dL_law_1179
set_option maxRecDepth 100000 in
theorem lw_loop (E : En cx yL_law cL_law 4 100 600000 7302250 p room_1 s m #[Value.ref b] meth c) (hr : meth.sig.returnType = ret) (hlocks : meth.locks = false) (hX : va_X b L xs s s.heap) (hbb : b < cx.2.2.2) (hL : L ≤ 2560) (hh : cx.2.2.2 = s.heap.size) : ∀ (t : Nat) (i : Int) (M : Mem) (k n : Nat), 0 ≤ i → i ≤ 2565 → (L : Int) - i ≤ 5 * t + 4 → k + 49 * t ≤ 600000 → n + 8330 * t ≤ 7302250 → IV M → G cx p l e room_1 s m #[Value.ref b] below meth c (lw_Z below #[Value.ref b] s) 18 (lwl cx b i) [] M k n := by
  intro t
  induction t with
  | zero => ?_
  | succ t ih => ?_
  all_goals
    intro i M k n h0 hi hf hk hn h
    refine g_iload_n (pc := 18) E dL_law_18 (i := 3) rfl rfl ?_
    refine g_aload_n (pc := 19) E dL_law_19 (i := 0) rfl rfl ?_
    refine lw_len (pc := 20) E hX hbb dL_law_20 ?_
    refine g_iconst (pc := 21) E dL_law_21 rfl ?_
    refine g_isub (pc := 22) E dL_law_22 ?_
    refine g_icmp_gt (pc := 23) (tgt := 1178) E dL_law_23 rfl (fun hq => lw_end E hr hlocks hh (by omega) (by omega)) (fun hq => ?_)
  · exact absurd hf (by omega)
  · refine g_aload_n (pc := 26) E dL_law_26 (i := 0) rfl rfl ?_
    refine g_iload_n (pc := 27) E dL_law_27 (i := 3) rfl rfl ?_
    refine lw_xld (pc := 28) E hX hbb hL dL_law_28 h0 (by omega) ?_
    refine g_bipush (pc := 29) E dL_law_29 rfl ?_
    refine lw_iand (pc := 31) E dL_law_31 (fun a a0 a1 => ?_)
    have kk : ∀ O, IV O → G cx p l e room_1 s m #[Value.ref b] below meth c (lw_Z below #[Value.ref b] s) 1172 (lwl cx b i) [] O (k + 49) (n + 8330) := fun O hO => lw_back E (ih (i + 5) O (k + 49) (n + 8330) (by omega) (by omega) (by omega) (by omega) (by omega) hO)
    have hr2 : k + 49 ≤ 600000 ∧ n + 8330 ≤ 7302250 := ⟨by omega, Nat.le_trans (Nat.add_le_add_left (Nat.le_mul_of_pos_right 8330 (Nat.succ_pos t)) n) hn⟩
    have h5 : i + 5 ≤ L := by omega
    rcases (show a = 0 ∨ a = 1 ∨ a = 2 ∨ a = 3 ∨ a = 4 ∨ a = 5 ∨ a = 6 ∨ a = 7 ∨ a = 8 ∨ a = 9 ∨ a = 10 ∨ a = 11 ∨ a = 12 ∨ a = 13 ∨ a = 14 ∨ a = 15 ∨ a = 16 ∨ a = 17 ∨ a = 18 ∨ a = 19 ∨ a = 20 ∨ a = 21 ∨ a = 22 ∨ a = 23 ∨ a = 24 ∨ a = 25 ∨ a = 26 ∨ a = 27 ∨ a = 28 ∨ a = 29 ∨ a = 30 ∨ a = 31 by omega) with rfl | rfl | rfl | rfl | rfl | rfl | rfl | rfl | rfl | rfl | rfl | rfl | rfl | rfl | rfl | rfl | rfl | rfl | rfl | rfl | rfl | rfl | rfl | rfl | rfl | rfl | rfl | rfl | rfl | rfl | rfl | rfl
    · exact g_tableIn (pc := 32) (tgt := 176) (off := 144) E dL_law_32 (by decide) (by decide) (by decide) (by decide) (lw_c0 E hX hbb hL h0 h5 h hr2 kk) (by decide) (by decide)
    · exact g_tableIn (pc := 32) (tgt := 209) (off := 177) E dL_law_32 (by decide) (by decide) (by decide) (by decide) (lw_c1 E hX hbb hL h0 h5 h hr2 kk) (by decide) (by decide)
    · exact g_tableIn (pc := 32) (tgt := 232) (off := 200) E dL_law_32 (by decide) (by decide) (by decide) (by decide) (lw_c2 E hX hbb hL h0 h5 h hr2 kk) (by decide) (by decide)
    · exact g_tableIn (pc := 32) (tgt := 275) (off := 243) E dL_law_32 (by decide) (by decide) (by decide) (by decide) (lw_c3 E hX hbb hL h0 h5 h hr2 kk) (by decide) (by decide)
    · exact g_tableIn (pc := 32) (tgt := 298) (off := 266) E dL_law_32 (by decide) (by decide) (by decide) (by decide) (lw_c4 E hX hbb hL h0 h5 h hr2 kk) (by decide) (by decide)
    · exact g_tableIn (pc := 32) (tgt := 331) (off := 299) E dL_law_32 (by decide) (by decide) (by decide) (by decide) (lw_c5 E hX hbb hL h0 h5 h hr2 kk) (by decide) (by decide)
    · exact g_tableIn (pc := 32) (tgt := 374) (off := 342) E dL_law_32 (by decide) (by decide) (by decide) (by decide) (lw_c6 E hX hbb hL h0 h5 h hr2 kk) (by decide) (by decide)
    · exact g_tableIn (pc := 32) (tgt := 417) (off := 385) E dL_law_32 (by decide) (by decide) (by decide) (by decide) (lw_c7 E hX hbb hL h0 h5 h hr2 kk) (by decide) (by decide)
    · exact g_tableIn (pc := 32) (tgt := 460) (off := 428) E dL_law_32 (by decide) (by decide) (by decide) (by decide) (lw_c8 E hX hbb hL h0 h5 h hr2 kk) (by decide) (by decide)
    · exact g_tableIn (pc := 32) (tgt := 493) (off := 461) E dL_law_32 (by decide) (by decide) (by decide) (by decide) (lw_c9 E hX hbb hL h0 h5 h hr2 kk) (by decide) (by decide)
    · exact g_tableIn (pc := 32) (tgt := 536) (off := 504) E dL_law_32 (by decide) (by decide) (by decide) (by decide) (lw_c10 E hX hbb hL h0 h5 h hr2 kk) (by decide) (by decide)
    · exact g_tableIn (pc := 32) (tgt := 569) (off := 537) E dL_law_32 (by decide) (by decide) (by decide) (by decide) (lw_c11 E hX hbb hL h0 h5 h hr2 kk) (by decide) (by decide)
    · exact g_tableIn (pc := 32) (tgt := 622) (off := 590) E dL_law_32 (by decide) (by decide) (by decide) (by decide) (lw_c12 E hX hbb hL h0 h5 h hr2 kk) (by decide) (by decide)
    · exact g_tableIn (pc := 32) (tgt := 665) (off := 633) E dL_law_32 (by decide) (by decide) (by decide) (by decide) (lw_c13 E hX hbb hL h0 h5 h hr2 kk) (by decide) (by decide)
    · exact g_tableIn (pc := 32) (tgt := 708) (off := 676) E dL_law_32 (by decide) (by decide) (by decide) (by decide) (lw_c14 E hX hbb hL h0 h5 h hr2 kk) (by decide) (by decide)
    · exact g_tableIn (pc := 32) (tgt := 751) (off := 719) E dL_law_32 (by decide) (by decide) (by decide) (by decide) (lw_c15 E hX hbb hL h0 h5 h hr2 kk) (by decide) (by decide)
    · exact g_tableIn (pc := 32) (tgt := 784) (off := 752) E dL_law_32 (by decide) (by decide) (by decide) (by decide) (lw_c16 E hX hbb hL h0 h5 h hr2 kk) (by decide) (by decide)
    · exact g_tableIn (pc := 32) (tgt := 807) (off := 775) E dL_law_32 (by decide) (by decide) (by decide) (by decide) (lw_c17 E hX hbb hL h0 h5 h hr2 kk) (by decide) (by decide)
    · exact g_tableIn (pc := 32) (tgt := 840) (off := 808) E dL_law_32 (by decide) (by decide) (by decide) (by decide) (lw_c18 E hX hbb hL h0 h5 h hr2 kk) (by decide) (by decide)
    · exact g_tableIn (pc := 32) (tgt := 863) (off := 831) E dL_law_32 (by decide) (by decide) (by decide) (by decide) (lw_c19 E hX hbb hL h0 h5 h hr2 kk) (by decide) (by decide)
    · exact g_tableIn (pc := 32) (tgt := 896) (off := 864) E dL_law_32 (by decide) (by decide) (by decide) (by decide) (lw_c20 E hX hbb hL h0 h5 h hr2 kk) (by decide) (by decide)
    · exact g_tableIn (pc := 32) (tgt := 939) (off := 907) E dL_law_32 (by decide) (by decide) (by decide) (by decide) (lw_c21 E hX hbb hL h0 h5 h hr2 kk) (by decide) (by decide)
    · exact g_tableIn (pc := 32) (tgt := 972) (off := 940) E dL_law_32 (by decide) (by decide) (by decide) (by decide) (lw_c22 E hX hbb hL h0 h5 h hr2 kk) (by decide) (by decide)
    · exact g_tableIn (pc := 32) (tgt := 1005) (off := 973) E dL_law_32 (by decide) (by decide) (by decide) (by decide) (lw_c23 E hX hbb hL h0 h5 h hr2 kk) (by decide) (by decide)
    · exact g_tableIn (pc := 32) (tgt := 1028) (off := 996) E dL_law_32 (by decide) (by decide) (by decide) (by decide) (lw_c24 E hX hbb hL h0 h5 h hr2 kk) (by decide) (by decide)
    · exact g_tableIn (pc := 32) (tgt := 1041) (off := 1009) E dL_law_32 (by decide) (by decide) (by decide) (by decide) (lw_c25 E hX hbb hL h0 h5 h hr2 kk) (by decide) (by decide)
    · exact g_tableIn (pc := 32) (tgt := 1064) (off := 1032) E dL_law_32 (by decide) (by decide) (by decide) (by decide) (lw_c26 E hX hbb hL h0 h5 h hr2 kk) (by decide) (by decide)
    · exact g_tableIn (pc := 32) (tgt := 1087) (off := 1055) E dL_law_32 (by decide) (by decide) (by decide) (by decide) (lw_c27 E hX hbb hL h0 h5 h hr2 kk) (by decide) (by decide)
    · exact g_tableIn (pc := 32) (tgt := 1110) (off := 1078) E dL_law_32 (by decide) (by decide) (by decide) (by decide) (lw_c28 E hX hbb hL h0 h5 h hr2 kk) (by decide) (by decide)
    · exact g_tableIn (pc := 32) (tgt := 1133) (off := 1101) E dL_law_32 (by decide) (by decide) (by decide) (by decide) (lw_c29 E hX hbb hL h0 h5 h hr2 kk) (by decide) (by decide)
    · exact g_tableIn (pc := 32) (tgt := 1146) (off := 1114) E dL_law_32 (by decide) (by decide) (by decide) (by decide) (lw_c30 E hX hbb hL h0 h5 h hr2 kk) (by decide) (by decide)
    · exact g_tableIn (pc := 32) (tgt := 1159) (off := 1127) E dL_law_32 (by decide) (by decide) (by decide) (by decide) (lw_c31 E hX hbb hL h0 h5 h hr2 kk) (by decide) (by decide)
end LWL
