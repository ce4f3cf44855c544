/-! the law's body: its rows -/
abbrev lwl (cx : Cx) (b : Nat) (i : Int) : List (Option Value) := [some (.ref b), some (rf cx 183), some (rf cx 184), some (.int (oi i))]
def xv (xs : Nat → Int32) (j : Int) : Int := (xs j.toNat).toInt
theorem xv_R (xs : Nat → Int32) (j : Int) : -2147483648 ≤ xv xs j ∧ xv xs j ≤ 2147483647 := inR_toInt _
theorem lw_and (z : Int32) : ∃ a : Int, 0 ≤ a ∧ a ≤ 31 ∧ z &&& oi 31 = oi a := by
  have h1 : (z &&& oi 31).toBitVec.toNat ≤ 31 := by
    rw [Int32.toBitVec_and, BitVec.toNat_and]
    exact Nat.le_trans Nat.and_le_right (by decide)
  have h2 : (z &&& oi 31).toInt = ((z &&& oi 31).toBitVec.toNat : Int) := BitVec.toInt_eq_toNat_of_lt (by omega)
  exact ⟨(z &&& oi 31).toInt, by omega, by omega, (oi_self _).symm⟩
section LWR
variable {cx : Cx} {d uc us : Nat} {p : Program} {l : Launch} {e : Env} {R : Room} {s : State} {m : MethodId} {args : Array Value} {below : List Frame} {meth : Method} {c : Code} {Q : State → Prop}
variable {b L : Nat} {xs : Nat → Int32} {pc : Nat} {ls : List (Option Value)} {sk : List Value} {M : Mem} {k n : Nat}
theorem g_inR (kk : (∀ i j, inR (M i j)) → G cx p l e R s m args below meth c Q pc ls sk M k n) : G cx p l e R s m args below meth c Q pc ls sk M k n := by
  intro H lsA locs hI hS hL
  obtain ⟨hid, hP, hD, hM⟩ := id hI
  exact kk hM.1 H lsA locs hI hS hL
theorem lw_xld (E : En cx yL_law cL_law 4 d uc us p R s m args meth c) (hX : va_X b L xs s s.heap) (hbb : b < cx.2.2.2) (hL : L ≤ 2560) (hd : decode cL_law pc = .ok (.iaload, 1)) {x : Int} (h0 : 0 ≤ x) (h1 : x < L) (kk : G cx p l e R s m args below meth c Q (pc + 1) ls (.int (oi (xv xs x)) :: sk) M k n) : G cx p l e R s m args below meth c Q pc ls (.int (oi x) :: .ref b :: sk) M k n := by
  intro H lsA locs hI hS hL2
  refine va_sld E.1 E.2.1 hX (Nat.lt_of_lt_of_le hbb E.2.2.2.2.2.2.2.1) (Nat.not_le.mpr hbb) hS (oi_in h0 h1 (by omega)) hd ?_
  rw [oi_clamp h0 (inR_of (by omega) (by omega))]
  have g := kk H lsA locs hI hS hL2
  unfold xv at g
  rw [oi_self] at g
  exact g
theorem lw_arg (E : En cx yL_law cL_law 4 d uc us p R s m args meth c) (hX : va_X b L xs s s.heap) (hbb : b < cx.2.2.2) (hL : L ≤ 2560) {i j : Int} (h0 : 0 ≤ i + j) (h1 : i + j < L) (d0 : decode cL_law pc = .ok (.aload_n 0, 1)) (d1 : decode cL_law (pc + 1) = .ok (.iload_n 3, 1)) (d2 : decode cL_law (pc + 2) = .ok (.iconst j, 1)) (d3 : decode cL_law (pc + 3) = .ok (.iadd, 1)) (d4 : decode cL_law (pc + 4) = .ok (.iaload, 1)) (kk : G cx p l e R s m args below meth c Q (pc + 5) (lwl cx b i) (.int (oi (xv xs (i + j))) :: sk) M k n) : G cx p l e R s m args below meth c Q pc (lwl cx b i) sk M k n := by
  refine g_aload_n E d0 (i := 0) rfl rfl ?_
  refine g_iload_n (pc := pc + 1) E d1 (i := 3) rfl rfl ?_
  refine g_iconst (pc := pc + 2) E d2 rfl ?_
  refine g_iadd (pc := pc + 3) E d3 ?_
  exact lw_xld (pc := pc + 4) E hX hbb hL d4 h0 h1 kk
theorem lw_same (E : En cx yL_law cL_law 4 d uc us p R s m args meth c) {x : Int} {off : Int} {tgt : Nat} (hd : decode cL_law pc = .ok (.if_icmp .eq off, 3)) (ht : (pc : Int) + off = (tgt : Int)) (kk : G cx p l e R s m args below meth c Q tgt ls sk M k n) : G cx p l e R s m args below meth c Q pc ls (.int (oi x) :: .int (oi x) :: sk) M k n := by
  intro H lsA locs hI hS hL
  exact lv_icmp_eq E.1 E.2.1 hd ht (fun _ => kk H lsA locs hI hS hL) (fun h => absurd rfl h)
theorem lw_iand (E : En cx yL_law cL_law 4 d uc us p R s m args meth c) {x : Int} (hd : decode cL_law pc = .ok (.iand, 1)) (kk : ∀ a : Int, 0 ≤ a → a ≤ 31 → G cx p l e R s m args below meth c Q (pc + 1) ls (.int (oi a) :: sk) M k n) : G cx p l e R s m args below meth c Q pc ls (.int (oi 31) :: .int (oi x) :: sk) M k n := by
  intro H lsA locs hI hS hL
  obtain ⟨a, a0, a1, ea⟩ := lw_and (oi x)
  refine lv_iand E.1 E.2.1 hd ?_
  rw [ea]
  exact kk a a0 a1 H lsA locs hI hS hL
theorem lw_len (E : En cx yL_law cL_law 4 d uc us p R s m args meth c) (hX : va_X b L xs s s.heap) (hbb : b < cx.2.2.2) (hd : decode cL_law pc = .ok (.arraylength, 1)) (kk : G cx p l e R s m args below meth c Q (pc + 1) ls (.int (oi L) :: sk) M k n) : G cx p l e R s m args below meth c Q pc ls (.ref b :: sk) M k n := by
  intro H lsA locs hI hS hL2
  refine va_slen E.1 E.2.1 hX (Nat.lt_of_lt_of_le hbb E.2.2.2.2.2.2.2.1) (Nat.not_le.mpr hbb) hS hd ?_
  have g := kk H lsA locs hI hS hL2
  rw [oi_nat] at g
  exact g
theorem lw_back (E : En cx yL_law cL_law 4 d uc us p R s m args meth c) {i : Int} (kk : G cx p l e R s m args below meth c Q 18 (lwl cx b (i + 5)) [] M k n) : G cx p l e R s m args below meth c Q 1172 (lwl cx b i) [] M k n := by
  refine g_iinc (pc := 1172) E dL_law_1172 (x := i) (v := i + 5) rfl rfl rfl ?_
  exact g_goto (pc := 1175) (tgt := 18) E dL_law_1175 rfl kk
end LWR
