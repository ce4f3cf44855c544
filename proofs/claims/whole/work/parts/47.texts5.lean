/-! the texts of the world: the JDK's methods on its StringBuilders, and on the one String -/
def jj (i : Nat) : Nat := if i = 177 then 198 else 199
theorem wl_len (cx : Cx) (M : Mem) (hid : Hid) : (wl cx M hid).length = 200 := by simp [wl]
theorem wl_198 (cx : Cx) (M : Mem) (hid : Hid) : (wl cx M hid)[198]? = some (hrow cx hid 177) := by
  unfold wl
  rw [List.getElem?_append_right (by simp)]
  simp
theorem wl_199 (cx : Cx) (M : Mem) (hid : Hid) : (wl cx M hid)[199]? = some (hrow cx hid 182) := by
  unfold wl
  rw [List.getElem?_append_right (by simp)]
  simp
theorem wl_jj (cx : Cx) (M : Mem) (hid : Hid) {i : Nat} (hi : i = 177 ∨ i = 182) : (wl cx M hid)[jj i]? = some (hrow cx hid i) := by
  rcases hi with rfl | rfl
  · exact wl_198 cx M hid
  · exact wl_199 cx M hid
theorem entR_sb (cx : Cx) (hid : Hid) {i : Nat} (hi : i = 177 ∨ i = 182) (r : Int → Int) : entR cx hid i r = .inr (0, sbF (hid.1 i) (hid.2.2.2 i) (r 0)) := by
  rcases hi with rfl | rfl <;> rfl
theorem ok_sb {M : Mem} {hid : Hid} (h : MemOK M hid) {i : Nat} (hi : i = 177 ∨ i = 182) : SBok M hid i := by
  rcases hi with rfl | rfl
  · exact h.2.1
  · exact h.2.2
theorem wl_sb (cx : Cx) {M : Mem} {hid : Hid} (h : MemOK M hid) {i : Nat} (hi : i = 177 ∨ i = 182) : SBw cx (wl cx M hid) i (jj i) (cad cx i) (hid.1 i) (hid.2.1 i) (hid.2.2.1 i) (hid.2.2.2 i) (M i 0) := by
  have hs := ok_sb h hi
  refine ⟨?_, wl_jj cx M hid hi, hs.1, hs.2.1, hs.2.2.1, hs.2.2.2.1⟩
  rw [wl_get (by omega), entR_sb cx hid hi]
def Sub (ws w : va_W) : Prop := ∃ g : Nat → Nat, (∀ k q, ws[k]? = some q → w[g k]? = some q) ∧ ∀ k k', k < ws.length → k' < ws.length → g k = g k' → k = k'
theorem Sub.P {D : va_G} {cl : List vw_C} {H : Heap} {ws w : va_W} (h : Sub ws w) (hP : va_P D cl w H) : va_P D cl ws H := by
  obtain ⟨g, h1, h2⟩ := h
  exact fun k q hk => hP (g k) q (h1 k q hk)
theorem Sub.D {A : Nat → Prop} {ws w : va_W} (h : Sub ws w) (hD : va_D A w) : va_D A ws := by
  obtain ⟨g, h1, h2⟩ := h
  exact ⟨fun i j p q hi hj e => h2 i j (List.getElem?_eq_some_iff.mp hi).1 (List.getElem?_eq_some_iff.mp hj).1 (hD.1 (g i) (g j) p q (h1 i p hi) (h1 j q hj) e), fun k q hk => hD.2 (g k) q (h1 k q hk)⟩
def hidU (hid : Hid) (i q' N' : Nat) (f' : Nat → Int32) (ml' : Int32) : Hid := (fun k => if k = i then q' else hid.1 k, fun k => if k = i then N' else hid.2.1 k, fun k => if k = i then f' else hid.2.2.1 k, fun k => if k = i then ml' else hid.2.2.2 k)
theorem entR_off {cx : Cx} {hid : Hid} {i q' N' : Nat} {f' : Nat → Int32} {ml' : Int32} {k : Nat} (h : k ≠ i) (r : Int → Int) : entR cx (hidU hid i q' N' f' ml') k r = entR cx hid k r := by
  unfold entR
  simp only [hidU, if_neg h]
theorem wl_sub {cx : Cx} {M M' : Mem} {hid : Hid} {w : va_W} {i j' q' N' : Nat} {f' : Nat → Int32} {ml' : Int32} {z' : Int} (hi : i = 177 ∨ i = 182) (hs : SBw cx w i j' (cad cx i) q' N' f' ml' z') (hF : FR (wl cx M hid) w i (jj i) j') (hM : ∀ k, k ≠ i → M' k = M k) (hz : M' i 0 = z') : Sub (wl cx M' (hidU hid i q' N' f' ml')) w := by
  have hj : jj i = 198 ∨ jj i = 199 := by rcases hi with rfl | rfl <;> simp [jj]
  have hF2 := hF.2
  rw [wl_len] at hF2
  refine ⟨fun k => if k = jj i then j' else k, fun k q hk => ?_, fun k k' h1 h2 e => ?_⟩
  · have hk2 : k < 200 := by have := (List.getElem?_eq_some_iff.mp hk).1; rwa [wl_len] at this
    by_cases e : k = jj i
    · simp only [if_pos e]
      subst e
      rw [wl_jj cx M' _ hi] at hk
      cases hk
      have := hs.2.1
      simp only [hrow, hidU, if_true]
      exact this
    · simp only [if_neg e]
      by_cases e2 : k = i
      · subst e2
        rw [wl_get (by omega), entR_sb cx _ hi] at hk
        cases hk
        have := hs.1
        simp only [hidU, if_true, hz]
        exact this
      · by_cases e3 : k < 198
        · rw [wl_get e3, entR_off e2, hM k e2] at hk
          cases hk
          exact hF.1 k _ e2 e (wl_get e3)
        · have e4 : (k = 198 ∧ i = 182) ∨ (k = 199 ∧ i = 177) := by
            rcases hi with rfl | rfl
            · right; have : jj 177 = 198 := rfl; omega
            · left; have : jj 182 = 199 := rfl; omega
          rcases e4 with ⟨rfl, rfl⟩ | ⟨rfl, rfl⟩
          · rw [wl_198] at hk
            cases hk
            exact hF.1 198 _ e2 e (wl_198 cx M hid)
          · rw [wl_199] at hk
            cases hk
            exact hF.1 199 _ e2 e (wl_199 cx M hid)
  · rw [wl_len] at h1 h2
    simp only at e
    split at e <;> split at e <;> omega
theorem InH_sb {cx : Cx} {M M' : Mem} {hid : Hid} {w : va_W} {i j' q' N' : Nat} {f' : Nat → Int32} {ml' : Int32} {z' : Int} {H : Heap} (hi : i = 177 ∨ i = 182) (hok : MemOK M hid) (hP : va_P cx.1 vwCl w H) (hD : va_D (cA0 cx) w) (hs : SBw cx w i j' (cad cx i) q' N' f' ml' z') (hF : FR (wl cx M hid) w i (jj i) j') (hM : ∀ k, k ≠ i → M' k = M k) (hz : M' i 0 = z') (hR : ∀ y, inR (M' i y))
    (hl : ∀ j : Nat, (j : Int) < z' → 0 ≤ M' i (j + 1) ∧ M' i (j + 1) < 128 ∧ f' j = oi (M' i (j + 1))) : InH cx M' H := by
  have hsub := wl_sub hi hs hF hM hz
  refine ⟨_, hsub.P hP, hsub.D hD, fun a y => ?_, ?_⟩
  · by_cases e : a = i
    · rw [e]; exact hR y
    · rw [hM a e]; exact hok.1 a y
  · have hnew : SBok M' (hidU hid i q' N' f' ml') i := by
      unfold SBok
      simp only [hidU, if_true]
      exact ⟨by rw [hz]; exact hs.2.2.1, by rw [hz]; exact hs.2.2.2.1, hs.2.2.2.2.1, hs.2.2.2.2.2, fun j hj => hl j (by rw [← hz]; exact hj)⟩
    have hold : ∀ k, k ≠ i → SBok M hid k → SBok M' (hidU hid i q' N' f' ml') k := fun k hk h => by
      unfold SBok at h ⊢
      simp only [hidU, if_neg hk]
      rw [hM k hk]
      exact h
    rcases hi with rfl | rfl
    · exact ⟨hnew, hold 182 (by decide) hok.2.2⟩
    · exact ⟨hold 177 (by decide) hok.2.1, hnew⟩
/-- letters cs written behind the text i -/
def apM (M : Mem) (i : Nat) (cs : List Int) : Mem := fun a => if a = i then (fun y => if y = 0 then M i 0 + cs.length else if M i 0 < y ∧ y ≤ M i 0 + cs.length then cs.getD (y - M i 0 - 1).toNat 0 else M i y) else M a
theorem apM_ne {M : Mem} {i a : Nat} {cs : List Int} (h : a ≠ i) : apM M i cs a = M a := if_neg h
theorem apM_row (M : Mem) (i : Nat) (cs : List Int) : apM M i cs i = fun y => if y = 0 then M i 0 + cs.length else if M i 0 < y ∧ y ≤ M i 0 + cs.length then cs.getD (y - M i 0 - 1).toNat 0 else M i y := if_pos rfl
theorem apM_0 (M : Mem) (i : Nat) (cs : List Int) : apM M i cs i 0 = M i 0 + cs.length := by rw [apM_row]; rfl
theorem apM_old {M : Mem} {i : Nat} {cs : List Int} {y : Int} (h0 : 0 < y) (h1 : y ≤ M i 0) : apM M i cs i y = M i y := by
  rw [apM_row]; simp only
  rw [if_neg (by omega), if_neg (by omega)]
theorem apM_new {M : Mem} {i : Nat} {cs : List Int} {t : Nat} (h0 : 0 ≤ M i 0) (h : t < cs.length) : apM M i cs i (M i 0 + t + 1) = cs.getD t 0 := by
  rw [apM_row]; simp only
  rw [if_neg (by omega), if_pos (by omega), show (M i 0 + (t : Int) + 1 - M i 0 - 1).toNat = t by omega]
section GSB
variable {cx : Cx} {y : MethodName} {cc : ByteArray} {nL d uc us : Nat} {p : Program} {l : Launch} {e : Env} {R : Room} {s : State} {m : MethodId} {args : Array Value} {below : List Frame} {meth : Method} {c : Code} {Q : State → Prop} {pc : Nat} {ls : List (Option Value)} {sk : List Value} {M : Mem} {k n idx : Nat}
theorem g_sbLen {i : Nat} (hi : i = 177 ∨ i = 182) (E : En cx y cc nL d uc us p R s m args meth c) (hd : decode cc pc = .ok (.invokevirtual idx, 3)) (hm : MLv y.cls idx yJ4_length_8abf5 0) (hdp : 2 < d) (hls : ls.length = nL) (hcat : (sk.map fun v => v.category).sum ≤ 8) (hr : k ≤ uc ∧ n ≤ us)
    (kk : 0 ≤ M i 0 → M i 0 ≤ 400 → G cx p l e R s m args below meth c Q (pc + 3) ls (.int (oi (M i 0)) :: sk) M k n) : G cx p l e R s m args below meth c Q pc ls (rf cx i :: sk) M k n := by
  intro H lsA locs hI hS hL
  obtain ⟨hid, hP, hD, hok⟩ := hI
  have hs := wl_sb cx hok hi
  refine goW_i hS hL (runW_V (As := []) (q := ("java/lang/StringBuilder", TJ4, 4)) E hP hD hS hL hd hm.1 hm.2.1 hm.2.2.1 hs.1 rfl (E.2.2.2.2.1 _ hm.2.2.2) (cw_J4_length hs) rfl hdp (by decide) hls hcat hr) (fun x w hw => ?_)
  obtain ⟨rfl, rfl⟩ := hw
  intro H1 lsA1 locs1 hP1 hD1 hS1 hL1
  exact kk hs.2.2.1 (Int.le_trans hs.2.2.2.1 (by have := hs.2.2.2.2.1; omega)) H1 lsA1 locs1 ⟨hid, hP1, hD1, hok⟩ hS1 hL1
theorem g_sbChar {i : Nat} {x : Int} (hi : i = 177 ∨ i = 182) (h0 : 0 ≤ x) (h1 : x < M i 0) (E : En cx y cc nL d uc us p R s m args meth c) (hd : decode cc pc = .ok (.invokevirtual idx, 3)) (hm : MLv y.cls idx yJ4_charAt_5068e 1) (hdp : 4 < d) (hls : ls.length = nL) (hcat : (sk.map fun v => v.category).sum ≤ 8) (hr : k ≤ uc ∧ n ≤ us)
    (kk : 0 ≤ M i (x + 1) → M i (x + 1) < 128 → G cx p l e R s m args below meth c Q (pc + 3) ls (.int (oi (M i (x + 1))) :: sk) M k n) : G cx p l e R s m args below meth c Q pc ls (.int (oi x) :: rf cx i :: sk) M k n := by
  intro H lsA locs hI hS hL
  obtain ⟨hid, hP, hD, hok⟩ := hI
  have hs := wl_sb cx hok hi
  have hc := (ok_sb hok hi).2.2.2.2 x.toNat (by omega)
  rw [show ((x.toNat : Nat) : Int) = x by omega] at hc
  refine goW_i hS hL (runW_V (As := [.int (oi x)]) (q := ("java/lang/StringBuilder", TJ4, 4)) E hP hD hS hL hd hm.1 hm.2.1 hm.2.2.1 hs.1 rfl (E.2.2.2.2.1 _ hm.2.2.2) (cw_J4_charAt hs h0 h1 hc.2.2 hc.1 hc.2.1) rfl hdp (by decide) hls hcat hr) (fun v w hw => ?_)
  obtain ⟨rfl, rfl⟩ := hw
  intro H1 lsA1 locs1 hP1 hD1 hS1 hL1
  exact kk hc.1 hc.2.1 H1 lsA1 locs1 ⟨hid, hP1, hD1, hok⟩ hS1 hL1
theorem g_sbApp {i : Nat} {v : Int} {cs : List Int} {y2 : MethodName} {cc2 : ByteArray} {nL2 d2 : Nat} {rt2 : Option FieldType} (hi : i = 177 ∨ i = 182) (hcs : ∀ t : Nat, t < cs.length → 0 ≤ cs.getD t 0 ∧ cs.getD t 0 < 128) (hlen : cs.length ≤ 3) (hz : M i 0 ≤ 81) (E : En cx y cc nL d uc us p R s m args meth c) (hd : decode cc pc = .ok (.invokevirtual idx, 3)) (hm : MLv y.cls idx y2 1) (hcl : y2.cls = "java/lang/StringBuilder")
    (hC : ∀ {ws : va_W} {j a q N : Nat} {f : Nat → Int32} {ml : Int32}, SBw cx ws i j a q N f ml (M i 0) → MtW cx y2 cc2 nL2 rt2 d2 1 170 [.ref a, .int (oi v)] ws (QRw cx (fun u w => ApP cx ws i j a f ml (M i 0) cs u w))) (hnl : nL2 ≤ 45) (hdp : d2 < d) (hls : ls.length = nL) (hcat : (sk.map fun v => v.category).sum ≤ 8) (hr : k + 1 ≤ uc ∧ n + 170 ≤ us)
    (kk : G cx p l e R s m args below meth c Q (pc + 3) ls (rf cx i :: sk) (apM M i cs) (k + 1) (n + 170)) : G cx p l e R s m args below meth c Q pc ls (.int (oi v) :: rf cx i :: sk) M k n := by
  intro H lsA locs hI hS hL
  obtain ⟨hid, hP, hD, hok⟩ := hI
  have hs := wl_sb cx hok hi
  have hs0 := hs.2.2.1
  have hsel := E.2.2.2.2.1 _ hm.2.2.2
  rw [hcl] at hsel
  refine goW_r hS hL (runW_V (As := [.int (oi v)]) (q := ("java/lang/StringBuilder", TJ4, 4)) E hP hD hS hL hd hm.1 hm.2.1 hm.2.2.1 hs.1 rfl hsel (hC hs) rfl hdp hnl hls hcat hr) (fun u w hw => ?_)
  obtain ⟨rfl, j', q', N', f', h1, h2, h3, h4⟩ := hw
  intro H1 lsA1 locs1 hP1 hD1 hS1 hL1
  have hlet := (ok_sb hok hi).2.2.2.2
  refine kk H1 lsA1 locs1 (InH_sb hi hok hP1 hD1 h1 h2 (fun a ha => apM_ne ha) (apM_0 M i cs) (fun t => ?_) (fun t ht => ?_)) hS1 hL1
  · rw [apM_row]
    simp only
    split
    · exact inR_of (by omega) (by omega)
    · split
      · by_cases hlt : (t - M i 0 - 1).toNat < cs.length
        · have := hcs _ hlt
          exact inR_of (by omega) (by omega)
        · rw [List.getD_eq_getElem?_getD, List.getElem?_eq_none (by omega)]; exact inR_of (by decide) (by decide)
      · exact hok.1 i t
  · by_cases hlt : (t : Int) < M i 0
    · rw [apM_old (by omega) (by omega), h3 t hlt]
      exact hlet t hlt
    · have e : (t : Int) + 1 = M i 0 + ((t - (M i 0).toNat : Nat) : Int) + 1 := by omega
      have hlt2 : t - (M i 0).toNat < cs.length := by omega
      have g := h4 _ hlt2
      rw [show (M i 0).toNat + (t - (M i 0).toNat) = t by omega] at g
      rw [e, apM_new hs0 hlt2, g]
      exact ⟨(hcs _ hlt2).1, (hcs _ hlt2).2, rfl⟩
theorem g_sbC {i : Nat} {v : Int} (hi : i = 177 ∨ i = 182) (h0 : 0 ≤ v) (h1 : v < 128) (hz : M i 0 ≤ 81) (E : En cx y cc nL d uc us p R s m args meth c) (hd : decode cc pc = .ok (.invokevirtual idx, 3)) (hm : MLv y.cls idx yJ4_append_cf468 1) (hdp : 5 < d) (hls : ls.length = nL) (hcat : (sk.map fun v => v.category).sum ≤ 8) (hr : k + 1 ≤ uc ∧ n + 170 ≤ us)
    (kk : G cx p l e R s m args below meth c Q (pc + 3) ls (rf cx i :: sk) (apM M i [v]) (k + 1) (n + 170)) : G cx p l e R s m args below meth c Q pc ls (.int (oi v) :: rf cx i :: sk) M k n :=
  g_sbApp hi (fun t ht => by have : t = 0 := by simpa using ht
                             subst this
                             exact ⟨h0, h1⟩) (by simp) hz E hd hm rfl (fun hs => cw_J4_appendC hs h0 h1 (by omega)) (by decide) hdp hls hcat hr kk
theorem dg_val {v : Int} (h0 : 0 ≤ v) (h1 : v ≤ 100) : ∀ t : Nat, t < (dgL v).length → 0 ≤ (dgL v).getD t 0 ∧ (dgL v).getD t 0 < 128 := by
  by_cases g1 : v ≤ 9
  · rw [dg_1 g1]
    intro t ht
    have : t = 0 := by simpa using ht
    subst this
    exact ⟨by show 0 ≤ 48 + v; omega, by show 48 + v < 128; omega⟩
  · by_cases g2 : v ≤ 99
    · rw [dg_2 (by omega) g2]
      intro t ht
      have : t = 0 ∨ t = 1 := by simp at ht; omega
      rcases this with rfl | rfl
      · exact ⟨by show 0 ≤ 48 + v / 10; omega, by show 48 + v / 10 < 128; omega⟩
      · exact ⟨by show 0 ≤ 48 + v % 10; omega, by show 48 + v % 10 < 128; omega⟩
    · have e : v = 100 := by omega
      subst e
      rw [dg_100]
      decide
theorem g_sbI {i : Nat} {v : Int} (hi : i = 177 ∨ i = 182) (h0 : 0 ≤ v) (h1 : v ≤ 100) (hz : M i 0 ≤ 81) (E : En cx y cc nL d uc us p R s m args meth c) (hd : decode cc pc = .ok (.invokevirtual idx, 3)) (hm : MLv y.cls idx yJ4_append_bf812 1) (hdp : 5 < d) (hls : ls.length = nL) (hcat : (sk.map fun v => v.category).sum ≤ 8) (hr : k + 1 ≤ uc ∧ n + 170 ≤ us)
    (kk : G cx p l e R s m args below meth c Q (pc + 3) ls (rf cx i :: sk) (apM M i (dgL v)) (k + 1) (n + 170)) : G cx p l e R s m args below meth c Q pc ls (.int (oi v) :: rf cx i :: sk) M k n :=
  g_sbApp hi (dg_val h0 h1) (dg_len v).2 hz E hd hm rfl (fun hs => cw_J4_appendI hs h0 h1 hz) (by decide) hdp hls hcat hr kk
theorem g_sb0 {i : Nat} (hi : i = 177 ∨ i = 182) (E : En cx y cc nL d uc us p R s m args meth c) (hd : decode cc pc = .ok (.invokevirtual idx, 3)) (hm : MLv y.cls idx yJ4_setLength_d00df 1) (hdp : 5 < d) (hls : ls.length = nL) (hcat : (sk.map fun v => v.category).sum ≤ 8) (hr : k + 1 ≤ uc ∧ n + 170 ≤ us)
    (kk : G cx p l e R s m args below meth c Q (pc + 3) ls sk (st M i 0 0) (k + 1) (n + 170)) : G cx p l e R s m args below meth c Q pc ls (.int (oi 0) :: rf cx i :: sk) M k n := by
  intro H lsA locs hI hS hL
  obtain ⟨hid, hP, hD, hok⟩ := hI
  have hs := wl_sb cx hok hi
  refine goW_v hS hL (runW_V (As := [.int (oi 0)]) (q := ("java/lang/StringBuilder", TJ4, 4)) E hP hD hS hL hd hm.1 hm.2.1 hm.2.2.1 hs.1 rfl (E.2.2.2.2.1 _ hm.2.2.2) (cw_J4_setLength0 hs) rfl hdp (by decide) hls hcat hr) (fun w hw => ?_)
  obtain ⟨j', q', N', f', ml', h1, h2⟩ := hw
  intro H1 lsA1 locs1 hP1 hD1 hS1 hL1
  refine kk H1 lsA1 locs1 (InH_sb hi hok hP1 hD1 h1 h2 (fun a ha => st_ne ha) (st_self M i 0 0) (fun t => ?_) (fun t ht => ?_)) hS1 hL1
  · rw [st_row]
    simp only
    split
    · exact inR_of (by decide) (by decide)
    · exact hok.1 i t
  · omega
end GSB
/-! the String -/
abbrev kdL : List Int32 := [109, 114, 101, 97, 120]
def SCon (cx : Cx) (adK adV : Nat → Nat) (U : State) : Prop := vk_S 1 [5] [kdL] adK adV (cA0 cx) U U.heap
def MtS (cx : Cx) (y : MethodName) (cc : ByteArray) (nL : Nat) (rt : Option FieldType) (d : Nat) (av : List Value) (M : Mem) (adK adV : Nat → Nat) (Post : Int → Prop) : Prop :=
  .code y cc nL rt ∈ BIG ∧ ∀ l : Launch, Met l y (.code y cc nL rt :: BIG) (rmD d 0 0) (va_Pc av (fun U => Rep cx M U ∧ SCon cx adK adV U)) (QI cx (fun x M' => Post x ∧ M' = M)) 0 0 (cA0 cx)
section GSI
variable {cx : Cx} {y : MethodName} {cc : ByteArray} {nL d uc us : Nat} {adK adV : Nat → Nat}
theorem ms_intro {rt : Option FieldType} {av : List Value} {M : Mem} {Post : Int → Prop} (hcode : .code y cc nL rt ∈ BIG) (hy : plainFor y = true) (hav : av.length ≤ nL) (hac : av.all (fun v => v.category == 1) = true)
    (body : ∀ (p : Program) (l : Launch) (e : Env) (s : State) (m : MethodId) (args : Array Value) (below : List Frame) (meth : Method) (c : Code), En cx y cc nL d 0 0 p (rmD d 0 0) s m args meth c → SCon cx adK adV s → meth.sig.returnType = rt →
      G cx p l e (rmD d 0 0) s m args below meth c (MQ below (QI cx (fun x M' => Post x ∧ M' = M)) args s 0 0 (cA0 cx)) 0 (av.map some ++ List.replicate (nL - av.length) none) [] M 0 0) : MtS cx y cc nL rt d av M adK adV Post := by
  refine ⟨hcode, fun l => ?_⟩
  refine va_MetF (cc := cc) (maxL := nL) (ret := rt) hy rfl ?_
  intro p e s m args below meth c s₁ B hml hv
  obtain ⟨rfl, ⟨hI, hK, hS, hN⟩, hV⟩ := hv
  have hts := atoms_spec (ws := .code y cc nL rt :: BIG) B.pre
  have hc1 : ∀ v ∈ av, v.category = 1 := fun v hv => by simpa using List.all_eq_true.mp hac v hv
  rw [entry_eq m av hc1 nL]
  exact body p l e s m av.toArray below meth c ⟨B.exec, B.bytes, hml, findClass_of_methodNamed B.named, fun w hw => hts w (List.mem_cons_of_mem _ hw), hK, hS, hN, B.notSynchronized, Nat.le_refl _, Nat.le_refl _, Nat.le_refl _, Nat.le_refl _⟩ hV B.returns s.heap _ [] hI va_S.rf (lv_entry_ok av hav hc1)
variable {p : Program} {l : Launch} {e : Env} {R : Room} {s : State} {m : MethodId} {args : Array Value} {below : List Frame} {meth : Method} {c : Code} {Q : State → Prop}
variable {pc : Nat} {ls : List (Option Value)} {sk : List Value} {M : Mem} {k n idx : Nat}
theorem g_nret {Post : Int → Mem → Prop} {x : Int} {ty : FieldType} (E : En cx y cc nL d uc us p R s m args meth c) (hr : meth.sig.returnType = some ty) (hd : decode cc pc = .ok (.ireturn, 1)) (hx : narrow ty (.int (oi x)) = .int (oi x)) (hP : Post x M) : G cx p l e R s m args below meth c (MQ below (QI cx Post) args s k n (cA0 cx)) pc ls [.int (oi x)] M k n := by
  intro H lsA locs hI hS hL
  exact W.zret E.1 E.2.1 hr hx (fun t ht hW => ⟨⟨oi x, (x, M), rfl, ⟨rfl, hP⟩, rep_end E hI hS ht hW⟩, hS.F ht⟩) hS.2.2 hd E.2.2.2.2.2.2.2.2.1
theorem g_getsC (E : En cx y cc nL d uc us p R s m args meth c) (hd : decode cc pc = .ok (.getstatic idx, 3)) (hm : Cond.fieldLink y.cls idx "java/lang/String" "COMPACT_STRINGS" "Z" ∈ BIG)
    (kk : G cx p l e R s m args below meth c Q (pc + 3) ls (.int (oi 1) :: sk) M k n) : G cx p l e R s m args below meth c Q pc ls sk M k n := by
  intro H lsA locs hI hS hL
  exact va_gets E.1 E.2.1 E.2.2.2.2.2.2.1.2.2.1 hS E.2.2.2.1 (E.2.2.2.2.1 _ hm) (fun _ h => h) hd (kk H lsA locs hI hS hL)
theorem g_scoder (E : En cx y cc nL d uc us p R s m args meth c) (hV : SCon cx adK adV s) (hd : decode cc pc = .ok (.getfield idx, 3)) (hm : Cond.fieldLink y.cls idx "java/lang/String" "coder" "B" ∈ BIG)
    (kk : G cx p l e R s m args below meth c Q (pc + 3) ls (.int (oi 0) :: sk) M k n) : G cx p l e R s m args below meth c Q pc ls (.ref (adK 0) :: sk) M k n := by
  intro H lsA locs hI hS hL
  exact vk_getf E.1 E.2.1 (hV.1 0 (by decide)).2.1 hS E.2.2.2.1 (E.2.2.2.2.1 _ hm) (fun _ h => h) hd (kk H lsA locs hI hS hL)
theorem g_svalue (E : En cx y cc nL d uc us p R s m args meth c) (hV : SCon cx adK adV s) (hd : decode cc pc = .ok (.getfield idx, 3)) (hm : Cond.fieldLink y.cls idx "java/lang/String" "value" "[B" ∈ BIG)
    (kk : G cx p l e R s m args below meth c Q (pc + 3) ls (.ref (adV 0) :: sk) M k n) : G cx p l e R s m args below meth c Q pc ls (.ref (adK 0) :: sk) M k n := by
  intro H lsA locs hI hS hL
  exact vk_getf E.1 E.2.1 (hV.1 0 (by decide)).2.2.1 hS E.2.2.2.1 (E.2.2.2.2.1 _ hm) (fun _ h => h) hd (kk H lsA locs hI hS hL)
theorem g_stlen (E : En cx y cc nL d uc us p R s m args meth c) (hV : SCon cx adK adV s) (hd : decode cc pc = .ok (.arraylength, 1))
    (kk : G cx p l e R s m args below meth c Q (pc + 1) ls (.int (oi 5) :: sk) M k n) : G cx p l e R s m args below meth c Q pc ls (.ref (adV 0) :: sk) M k n := by
  intro H lsA locs hI hS hL
  exact va_tlen E.1 E.2.1 (hV.1 0 (by decide)).2.2.2 hS rfl hd (kk H lsA locs hI hS hL)
theorem g_stb {x : Int} {v : Int} (E : En cx y cc nL d uc us p R s m args meth c) (hV : SCon cx adK adV s) (hd : decode cc pc = .ok (.baload, 1)) (h0 : 0 ≤ x) (h1 : x < 5) (hv : kdL.getD x.toNat 0 = oi v)
    (kk : G cx p l e R s m args below meth c Q (pc + 1) ls (.int (oi v) :: sk) M k n) : G cx p l e R s m args below meth c Q pc ls (.int (oi x) :: .ref (adV 0) :: sk) M k n := by
  intro H lsA locs hI hS hL
  refine va_tb E.1 E.2.1 (hV.1 0 (by decide)).2.2.2 hS (oi_in h0 (by show x < 5; exact h1) (by decide)) ?_ hd (kk H lsA locs hI hS hL)
  show Value.int (kdL.getD (oi x).toNatClampNeg 0) = _
  rw [oi_clamp h0 (inR_of (by omega) (by omega)), hv]
theorem g_i2b {a : Int} (E : En cx y cc nL d uc us p R s m args meth c) (hd : decode cc pc = .ok (.i2b, 1)) (h0 : 0 ≤ a) (h1 : a < 128) (kk : G cx p l e R s m args below meth c Q (pc + 1) ls (.int (oi a) :: sk) M k n) : G cx p l e R s m args below meth c Q pc ls (.int (oi a) :: sk) M k n := by
  intro H lsA locs hI hS hL
  exact lv_i2b E.1 E.2.1 hd (bo_i2b h0 h1) (kk H lsA locs hI hS hL)
theorem g_ishr0 {a : Int} (E : En cx y cc nL d uc us p R s m args meth c) (hd : decode cc pc = .ok (.ishr, 1)) (kk : G cx p l e R s m args below meth c Q (pc + 1) ls (.int (oi a) :: sk) M k n) : G cx p l e R s m args below meth c Q pc ls (.int (oi 0) :: .int (oi a) :: sk) M k n := by
  intro H lsA locs hI hS hL
  refine lv_ishr E.1 E.2.1 hd ?_
  rw [show oi 0 = 0 from rfl, sb_shr0]
  exact kk H lsA locs hI hS hL
section sone
variable {y2 : MethodName} {cc2 : ByteArray} {nL2 d2 : Nat} {rt2 : Option FieldType} {As : List Value} {na : Nat}
theorem blindS {av : List Value} : FrameBlind (va_Pc av (fun U => Rep cx M U ∧ SCon cx adK adV U)) := fun a U g mk q => ⟨q.1, q.2.1.blind g mk a, vk_S.moved (Vm.Alike.refl U.vm) q.2.2⟩
theorem scon_end (hV : SCon cx adK adV s) {H : Heap} {locs : List Loc} (hS : va_S (cA0 cx) s.heap H locs) {t : State} (ht : t.heap = H) (hW : s.WarmedH t.vm) : SCon cx adK adV t := by
  subst ht
  exact (vk_S.moved hW.alike hV).kept (fun a h1 h2 => hS.2.1 a h1 h2)
theorem g_callSt {sk0 : List Value} {Post : Int → Prop} (E : En cx y cc nL d uc us p R s m args meth c) (hV : SCon cx adK adV s) (hd : decode cc pc = .ok (.invokestatic idx, 3)) (hm : MLs y.cls idx y2 na) (hC : MtS cx y2 cc2 nL2 rt2 d2 As M adK adV Post) (hst : sk0 = As.reverse ++ sk) (hn : As.length = na) (hdp : d2 < d) (hnl : nL2 ≤ 45) (hls : ls.length = nL) (hcat : (sk.map fun v => v.category).sum ≤ 8) (hr : k ≤ uc ∧ n ≤ us)
    (kk' : ∀ x, Post x → G cx p l e R s m args below meth c Q (pc + 3) ls (.int (oi x) :: sk) M k n) : G cx p l e R s m args below meth c Q pc ls sk0 M k n := by
  subst hst
  intro H lsA locs hI hS hL
  have hts := E.2.2.2.2.1
  refine go_ct hS hL (va_runS (call_fix E) (hC.2 l) ⟨cb_of E hm.1 hm.2.1 hC.1 hdp hnl, hts _ hm.2.2⟩ ⟨blindS, fun U hU hW => ⟨rfl, rep_end E hI hS hU hW, scon_end hV hS hU hW⟩⟩ rfl hn (hL.1.trans hls) rfl (lv_roomG hcat) hd (room_ok (uc2 := 0) (us2 := 0) E hr)) (fun x M' hx => ?_)
  obtain ⟨hx, rfl⟩ := hx
  exact kk' x hx
theorem g_callSv0 {sk0 : List Value} {Post : Int → Prop} (E : En cx y cc nL d uc us p R s m args meth c) (hV : SCon cx adK adV s) (hd : decode cc pc = .ok (.invokevirtual idx, 3)) (hm : MLv y.cls idx y2 na) (hcl : y2.cls = "java/lang/String") (hC : MtS cx y2 cc2 nL2 rt2 d2 (.ref (adK 0) :: As) M adK adV Post) (hst : sk0 = As.reverse ++ .ref (adK 0) :: sk) (hn : As.length = na) (hdp : d2 < d) (hnl : nL2 ≤ 45) (hls : ls.length = nL) (hcat : (sk.map fun v => v.category).sum ≤ 8) (hr : k ≤ uc ∧ n ≤ us)
    (kk' : ∀ x, Post x → G cx p l e R s m args below meth c Q (pc + 3) ls (.int (oi x) :: sk) M k n) : G cx p l e R s m args below meth c Q pc ls sk0 M k n := by
  subst hst
  intro H lsA locs hI hS hL
  have hts := E.2.2.2.2.1
  refine go_ct hS hL (va_runV (call_fix E) (hC.2 l) ⟨cb_of E hm.1 hm.2.1 hC.1 hdp hnl, hts _ hm.2.2.1, hts _ hm.2.2.2⟩ ⟨blindS, by rw [hcl]; exact vk_recv hV (by decide) hS, fun U hU hW => ⟨rfl, rep_end E hI hS hU hW, scon_end hV hS hU hW⟩⟩ rfl hn (hL.1.trans hls) rfl (lv_roomG hcat) hd (room_ok (uc2 := 0) (us2 := 0) E hr)) (fun x M' hx => ?_)
  obtain ⟨hx, rfl⟩ := hx
  exact kk' x hx
end sone
end GSI
theorem ml_J0_633 : MLv RJ0 633 yJ0_indexOf_7cf53 2 := ⟨⟨⟨by decide +kernel, by decide +kernel, by decide +kernel⟩, big_at 70 (by decide +kernel) (by decide +kernel)⟩, big_at 904 (by decide +kernel) (by decide +kernel), big_at 905 (by decide +kernel) (by decide +kernel), big_at 906 (by decide +kernel) (by decide +kernel)⟩
theorem ml_J0_492 : MLv RJ0 492 yJ0_isLatin1_aae02 0 := ⟨⟨⟨by decide +kernel, by decide +kernel, by decide +kernel⟩, big_at 70 (by decide +kernel) (by decide +kernel)⟩, big_at 908 (by decide +kernel) (by decide +kernel), big_at 909 (by decide +kernel) (by decide +kernel), big_at 910 (by decide +kernel) (by decide +kernel)⟩
theorem ml_J0_505 : MLv RJ0 505 yJ0_length_8abf5 0 := ⟨⟨⟨by decide +kernel, by decide +kernel, by decide +kernel⟩, big_at 70 (by decide +kernel) (by decide +kernel)⟩, big_at 913 (by decide +kernel) (by decide +kernel), big_at 914 (by decide +kernel) (by decide +kernel), big_at 915 (by decide +kernel) (by decide +kernel)⟩
theorem ml_J0_335 : MLv RJ0 335 yJ0_coder_7d493 0 := ⟨⟨⟨by decide +kernel, by decide +kernel, by decide +kernel⟩, big_at 70 (by decide +kernel) (by decide +kernel)⟩, big_at 917 (by decide +kernel) (by decide +kernel), big_at 918 (by decide +kernel) (by decide +kernel), big_at 919 (by decide +kernel) (by decide +kernel)⟩
theorem cs_isLatin1 {cx : Cx} {M : Mem} {adK adV : Nat → Nat} : MtS cx yJ0_isLatin1_aae02 cJ0_isLatin1_aae02 1 (some .boolean) 1 [.ref (adK 0)] M adK adV (fun x => x = 1) := by
  refine ms_intro cd_J0_isLatin1_aae02 (by decide +kernel) (Nat.le_of_ble_eq_true rfl) rfl (fun Pg Lc Ev s m args below meth c E hV hr => ?_)
  refine g_ent (ls' := [some (.ref (adK 0))]) rfl ?_
  refine g_getsC (pc := 0) E dJ0_isLatin1_aae02_0 (big_at 912 (by decide +kernel) (by decide +kernel)) ?_
  refine g_if_eq (pc := 3) (tgt := 17) E dJ0_isLatin1_aae02_3 (by decide) (fun qh3 => absurd qh3 (by omega)) (fun qh3 => ?_) (by decide) (by decide)
  refine g_aload_n (pc := 6) E dJ0_isLatin1_aae02_6 (i := 0) rfl rfl ?_
  refine g_scoder (pc := 7) E hV dJ0_isLatin1_aae02_7 (big_at 1481 (by decide +kernel) (by decide +kernel)) ?_
  refine g_if_ne (pc := 10) (tgt := 17) E dJ0_isLatin1_aae02_10 (by decide) (fun qh10 => absurd qh10 (by omega)) (fun qh10 => ?_) (by decide) (by decide)
  refine g_iconst (pc := 13) E dJ0_isLatin1_aae02_13 rfl ?_
  refine g_goto (pc := 14) (tgt := 18) E dJ0_isLatin1_aae02_14 (by decide) ?_
  refine g_nret (pc := 18) E hr dJ0_isLatin1_aae02_18 rfl ?_
  exact ⟨rfl, rfl⟩

theorem cs_coder {cx : Cx} {M : Mem} {adK adV : Nat → Nat} : MtS cx yJ0_coder_7d493 cJ0_coder_7d493 1 (some .byte) 1 [.ref (adK 0)] M adK adV (fun x => x = 0) := by
  refine ms_intro cd_J0_coder_7d493 (by decide +kernel) (Nat.le_of_ble_eq_true rfl) rfl (fun Pg Lc Ev s m args below meth c E hV hr => ?_)
  refine g_ent (ls' := [some (.ref (adK 0))]) rfl ?_
  refine g_getsC (pc := 0) E dJ0_coder_7d493_0 (big_at 912 (by decide +kernel) (by decide +kernel)) ?_
  refine g_if_eq (pc := 3) (tgt := 13) E dJ0_coder_7d493_3 (by decide) (fun qh3 => absurd qh3 (by omega)) (fun qh3 => ?_) (by decide) (by decide)
  refine g_aload_n (pc := 6) E dJ0_coder_7d493_6 (i := 0) rfl rfl ?_
  refine g_scoder (pc := 7) E hV dJ0_coder_7d493_7 (big_at 1481 (by decide +kernel) (by decide +kernel)) ?_
  refine g_goto (pc := 10) (tgt := 14) E dJ0_coder_7d493_10 (by decide) ?_
  refine g_nret (pc := 14) E hr dJ0_coder_7d493_14 rfl ?_
  exact ⟨rfl, rfl⟩

theorem cs_length {cx : Cx} {M : Mem} {adK adV : Nat → Nat} : MtS cx yJ0_length_8abf5 cJ0_length_8abf5 1 (some .int) 2 [.ref (adK 0)] M adK adV (fun x => x = 5) := by
  refine ms_intro cd_J0_length_8abf5 (by decide +kernel) (Nat.le_of_ble_eq_true rfl) rfl (fun Pg Lc Ev s m args below meth c E hV hr => ?_)
  refine g_ent (ls' := [some (.ref (adK 0))]) rfl ?_
  refine g_aload_n (pc := 0) E dJ0_length_8abf5_0 (i := 0) rfl rfl ?_
  refine g_svalue (pc := 1) E hV dJ0_length_8abf5_1 (big_at 1482 (by decide +kernel) (by decide +kernel)) ?_
  refine g_stlen (pc := 4) E hV dJ0_length_8abf5_4 ?_
  refine g_aload_n (pc := 5) E dJ0_length_8abf5_5 (i := 0) rfl rfl ?_
  refine g_callSv0 (pc := 6) (As := []) E hV dJ0_length_8abf5_6 ml_J0_335 rfl cs_coder rfl rfl (by decide) (Nat.le_of_ble_eq_true rfl) rfl (Nat.le_of_ble_eq_true rfl) (by decide) (fun x6 hx6 => ?_)
  subst hx6
  refine g_ishr0 (pc := 9) E dJ0_length_8abf5_9 ?_
  refine g_iret (pc := 10) E hr dJ0_length_8abf5_10 ?_
  exact ⟨rfl, rfl⟩

theorem cs_canEncode {cx : Cx} {M : Mem} {adK adV : Nat → Nat} {v : Int} (h0 : 0 ≤ v) (h1 : v < 128) : MtS cx yJ1_canEncode_9a6ad cJ1_canEncode_9a6ad 1 (some .boolean) 1 [.int (oi v)] M adK adV (fun x => x = 1) := by
  refine ms_intro cd_J1_canEncode_9a6ad (by decide +kernel) (Nat.le_of_ble_eq_true rfl) rfl (fun Pg Lc Ev s m args below meth c E hV hr => ?_)
  refine g_ent (ls' := [some (.int (oi v))]) rfl ?_
  refine g_iload_n (pc := 0) E dJ1_canEncode_9a6ad_0 (i := 0) rfl rfl ?_
  refine g_if_lt (pc := 1) (tgt := 15) E dJ1_canEncode_9a6ad_1 (by decide) (fun qh1 => absurd qh1 (by omega)) (fun qh1 => ?_) 
  refine g_iload_n (pc := 4) E dJ1_canEncode_9a6ad_4 (i := 0) rfl rfl ?_
  refine g_sipush (pc := 5) E dJ1_canEncode_9a6ad_5 rfl ?_
  refine g_icmp_gt (pc := 8) (tgt := 15) E dJ1_canEncode_9a6ad_8 (by decide) (fun qh8 => absurd qh8 (by omega)) (fun qh8 => ?_) 
  refine g_iconst (pc := 11) E dJ1_canEncode_9a6ad_11 rfl ?_
  refine g_goto (pc := 12) (tgt := 16) E dJ1_canEncode_9a6ad_12 (by decide) ?_
  refine g_nret (pc := 16) E hr dJ1_canEncode_9a6ad_16 rfl ?_
  exact ⟨rfl, rfl⟩

def kdP (v x : Int) : Prop := -1 ≤ x ∧ x ≤ 4 ∧ (0 ≤ x ↔ kdS v)
theorem cs_indexOfChar {cx : Cx} {M : Mem} {adK adV : Nat → Nat} {v : Int} (h0 : 0 ≤ v) (h1 : v < 128) : MtS cx yJ1_indexOfChar_4cfef cJ1_indexOfChar_4cfef 6 (some .int) 1 [.ref (adV 0), .int (oi v), .int (oi 0), .int (oi 5)] M adK adV (fun x => kdP v x) := by
  refine ms_intro cd_J1_indexOfChar_4cfef (by decide +kernel) (Nat.le_of_ble_eq_true rfl) rfl (fun Pg Lc Ev s m args below meth c E hV hr => ?_)
  refine g_ent (ls' := [some (.ref (adV 0)), some (.int (oi v)), some (.int (oi 0)), some (.int (oi 5)), none, none]) rfl ?_
  refine g_iload_n (pc := 0) E dJ1_indexOfChar_4cfef_0 (i := 1) rfl rfl ?_
  refine g_i2b (pc := 1) E dJ1_indexOfChar_4cfef_1 h0 h1 ?_
  refine g_istore (pc := 2) E dJ1_indexOfChar_4cfef_2 (ls' := [_, _, _, _, _, _]) (Nat.le_of_ble_eq_true rfl) rfl ?_
  refine g_iload_n (pc := 4) E dJ1_indexOfChar_4cfef_4 (i := 2) rfl rfl ?_
  refine g_istore (pc := 5) E dJ1_indexOfChar_4cfef_5 (ls' := [_, _, _, _, _, _]) (Nat.le_of_ble_eq_true rfl) rfl ?_
  refine g_iload (pc := 7) E dJ1_indexOfChar_4cfef_7 rfl ?_
  refine g_iload_n (pc := 9) E dJ1_indexOfChar_4cfef_9 (i := 3) rfl rfl ?_
  refine g_icmp_ge (pc := 10) (tgt := 31) E dJ1_indexOfChar_4cfef_10 (by decide) (fun qh10 => absurd qh10 (by omega)) (fun qh10 => ?_) 
  refine g_aload_n (pc := 13) E dJ1_indexOfChar_4cfef_13 (i := 0) rfl rfl ?_
  refine g_iload (pc := 14) E dJ1_indexOfChar_4cfef_14 rfl ?_
  refine g_stb (pc := 16) (v := 109) E hV dJ1_indexOfChar_4cfef_16 (by omega) (by omega) (by decide) ?_
  refine g_iload (pc := 17) E dJ1_indexOfChar_4cfef_17 rfl ?_
  refine g_icmp_ne (pc := 19) (tgt := 25) E dJ1_indexOfChar_4cfef_19 (by decide) (fun qh19 => ?_) (fun qh19 => ?_) 
  · refine g_iinc (pc := 25) E dJ1_indexOfChar_4cfef_25 (ls' := [_, _, _, _, _, _]) rfl rfl rfl ?_
    refine g_goto (pc := 28) (tgt := 7) E dJ1_indexOfChar_4cfef_28 (by decide) ?_
    refine g_iload (pc := 7) E dJ1_indexOfChar_4cfef_7 rfl ?_
    refine g_iload_n (pc := 9) E dJ1_indexOfChar_4cfef_9 (i := 3) rfl rfl ?_
    refine g_icmp_ge (pc := 10) (tgt := 31) E dJ1_indexOfChar_4cfef_10 (by decide) (fun qh10 => absurd qh10 (by omega)) (fun qh10 => ?_) 
    refine g_aload_n (pc := 13) E dJ1_indexOfChar_4cfef_13 (i := 0) rfl rfl ?_
    refine g_iload (pc := 14) E dJ1_indexOfChar_4cfef_14 rfl ?_
    refine g_stb (pc := 16) (v := 114) E hV dJ1_indexOfChar_4cfef_16 (by omega) (by omega) (by decide) ?_
    refine g_iload (pc := 17) E dJ1_indexOfChar_4cfef_17 rfl ?_
    refine g_icmp_ne (pc := 19) (tgt := 25) E dJ1_indexOfChar_4cfef_19 (by decide) (fun qh19 => ?_) (fun qh19 => ?_) 
    · refine g_iinc (pc := 25) E dJ1_indexOfChar_4cfef_25 (ls' := [_, _, _, _, _, _]) rfl rfl rfl ?_
      refine g_goto (pc := 28) (tgt := 7) E dJ1_indexOfChar_4cfef_28 (by decide) ?_
      refine g_iload (pc := 7) E dJ1_indexOfChar_4cfef_7 rfl ?_
      refine g_iload_n (pc := 9) E dJ1_indexOfChar_4cfef_9 (i := 3) rfl rfl ?_
      refine g_icmp_ge (pc := 10) (tgt := 31) E dJ1_indexOfChar_4cfef_10 (by decide) (fun qh10 => absurd qh10 (by omega)) (fun qh10 => ?_) 
      refine g_aload_n (pc := 13) E dJ1_indexOfChar_4cfef_13 (i := 0) rfl rfl ?_
      refine g_iload (pc := 14) E dJ1_indexOfChar_4cfef_14 rfl ?_
      refine g_stb (pc := 16) (v := 101) E hV dJ1_indexOfChar_4cfef_16 (by omega) (by omega) (by decide) ?_
      refine g_iload (pc := 17) E dJ1_indexOfChar_4cfef_17 rfl ?_
      refine g_icmp_ne (pc := 19) (tgt := 25) E dJ1_indexOfChar_4cfef_19 (by decide) (fun qh19 => ?_) (fun qh19 => ?_) 
      · refine g_iinc (pc := 25) E dJ1_indexOfChar_4cfef_25 (ls' := [_, _, _, _, _, _]) rfl rfl rfl ?_
        refine g_goto (pc := 28) (tgt := 7) E dJ1_indexOfChar_4cfef_28 (by decide) ?_
        refine g_iload (pc := 7) E dJ1_indexOfChar_4cfef_7 rfl ?_
        refine g_iload_n (pc := 9) E dJ1_indexOfChar_4cfef_9 (i := 3) rfl rfl ?_
        refine g_icmp_ge (pc := 10) (tgt := 31) E dJ1_indexOfChar_4cfef_10 (by decide) (fun qh10 => absurd qh10 (by omega)) (fun qh10 => ?_) 
        refine g_aload_n (pc := 13) E dJ1_indexOfChar_4cfef_13 (i := 0) rfl rfl ?_
        refine g_iload (pc := 14) E dJ1_indexOfChar_4cfef_14 rfl ?_
        refine g_stb (pc := 16) (v := 97) E hV dJ1_indexOfChar_4cfef_16 (by omega) (by omega) (by decide) ?_
        refine g_iload (pc := 17) E dJ1_indexOfChar_4cfef_17 rfl ?_
        refine g_icmp_ne (pc := 19) (tgt := 25) E dJ1_indexOfChar_4cfef_19 (by decide) (fun qh19 => ?_) (fun qh19 => ?_) 
        · refine g_iinc (pc := 25) E dJ1_indexOfChar_4cfef_25 (ls' := [_, _, _, _, _, _]) rfl rfl rfl ?_
          refine g_goto (pc := 28) (tgt := 7) E dJ1_indexOfChar_4cfef_28 (by decide) ?_
          refine g_iload (pc := 7) E dJ1_indexOfChar_4cfef_7 rfl ?_
          refine g_iload_n (pc := 9) E dJ1_indexOfChar_4cfef_9 (i := 3) rfl rfl ?_
          refine g_icmp_ge (pc := 10) (tgt := 31) E dJ1_indexOfChar_4cfef_10 (by decide) (fun qh10 => absurd qh10 (by omega)) (fun qh10 => ?_) 
          refine g_aload_n (pc := 13) E dJ1_indexOfChar_4cfef_13 (i := 0) rfl rfl ?_
          refine g_iload (pc := 14) E dJ1_indexOfChar_4cfef_14 rfl ?_
          refine g_stb (pc := 16) (v := 120) E hV dJ1_indexOfChar_4cfef_16 (by omega) (by omega) (by decide) ?_
          refine g_iload (pc := 17) E dJ1_indexOfChar_4cfef_17 rfl ?_
          refine g_icmp_ne (pc := 19) (tgt := 25) E dJ1_indexOfChar_4cfef_19 (by decide) (fun qh19 => ?_) (fun qh19 => ?_) 
          · refine g_iinc (pc := 25) E dJ1_indexOfChar_4cfef_25 (ls' := [_, _, _, _, _, _]) rfl rfl rfl ?_
            refine g_goto (pc := 28) (tgt := 7) E dJ1_indexOfChar_4cfef_28 (by decide) ?_
            refine g_iload (pc := 7) E dJ1_indexOfChar_4cfef_7 rfl ?_
            refine g_iload_n (pc := 9) E dJ1_indexOfChar_4cfef_9 (i := 3) rfl rfl ?_
            refine g_icmp_ge (pc := 10) (tgt := 31) E dJ1_indexOfChar_4cfef_10 (by decide) (fun qh10 => ?_) (fun qh10 => absurd qh10 (by omega)) 
            refine g_iconst (pc := 31) E dJ1_indexOfChar_4cfef_31 rfl ?_
            refine g_iret (pc := 32) E hr dJ1_indexOfChar_4cfef_32 ?_
            exact ⟨⟨by omega, by omega, by unfold kdS; omega⟩, rfl⟩
          · refine g_iload (pc := 22) E dJ1_indexOfChar_4cfef_22 rfl ?_
            refine g_iret (pc := 24) E hr dJ1_indexOfChar_4cfef_24 ?_
            exact ⟨⟨by omega, by omega, by unfold kdS; omega⟩, rfl⟩
        · refine g_iload (pc := 22) E dJ1_indexOfChar_4cfef_22 rfl ?_
          refine g_iret (pc := 24) E hr dJ1_indexOfChar_4cfef_24 ?_
          exact ⟨⟨by omega, by omega, by unfold kdS; omega⟩, rfl⟩
      · refine g_iload (pc := 22) E dJ1_indexOfChar_4cfef_22 rfl ?_
        refine g_iret (pc := 24) E hr dJ1_indexOfChar_4cfef_24 ?_
        exact ⟨⟨by omega, by omega, by unfold kdS; omega⟩, rfl⟩
    · refine g_iload (pc := 22) E dJ1_indexOfChar_4cfef_22 rfl ?_
      refine g_iret (pc := 24) E hr dJ1_indexOfChar_4cfef_24 ?_
      exact ⟨⟨by omega, by omega, by unfold kdS; omega⟩, rfl⟩
  · refine g_iload (pc := 22) E dJ1_indexOfChar_4cfef_22 rfl ?_
    refine g_iret (pc := 24) E hr dJ1_indexOfChar_4cfef_24 ?_
    exact ⟨⟨by omega, by omega, by unfold kdS; omega⟩, rfl⟩

theorem cs_indexOfL {cx : Cx} {M : Mem} {adK adV : Nat → Nat} {v : Int} (h0 : 0 ≤ v) (h1 : v < 128) : MtS cx yJ1_indexOf_4cfef cJ1_indexOf_4cfef 4 (some .int) 2 [.ref (adV 0), .int (oi v), .int (oi 0), .int (oi 5)] M adK adV (fun x => kdP v x) := by
  refine ms_intro cd_J1_indexOf_4cfef (by decide +kernel) (Nat.le_of_ble_eq_true rfl) rfl (fun Pg Lc Ev s m args below meth c E hV hr => ?_)
  refine g_ent (ls' := [some (.ref (adV 0)), some (.int (oi v)), some (.int (oi 0)), some (.int (oi 5))]) rfl ?_
  refine g_iload_n (pc := 0) E dJ1_indexOf_4cfef_0 (i := 1) rfl rfl ?_
  refine g_callSt (pc := 1) (As := [_]) E hV dJ1_indexOf_4cfef_1 ml_J1_88 (cs_canEncode h0 h1) rfl rfl (by decide) (Nat.le_of_ble_eq_true rfl) rfl (Nat.le_of_ble_eq_true rfl) (by decide) (fun x1 hx1 => ?_)
  subst hx1
  refine g_if_ne (pc := 4) (tgt := 9) E dJ1_indexOf_4cfef_4 (by decide) (fun qh4 => ?_) (fun qh4 => absurd qh4 (by omega)) (by decide) (by decide)
  refine g_iload_n (pc := 9) E dJ1_indexOf_4cfef_9 (i := 2) rfl rfl ?_
  refine g_iconst (pc := 10) E dJ1_indexOf_4cfef_10 rfl ?_
  refine g_max (pc := 11) E dJ1_indexOf_4cfef_11 (big_at 927 (by decide +kernel) (by decide +kernel)) rfl (by decide) (Nat.le_of_ble_eq_true rfl) (by omega) ?_ 
  refine g_top (b := 0) (by decide) ?_
  refine g_istore_n (pc := 14) E dJ1_indexOf_4cfef_14 (i := 2) (ls' := [_, _, _, _]) rfl (Nat.le_of_ble_eq_true rfl) rfl ?_
  refine g_iload_n (pc := 15) E dJ1_indexOf_4cfef_15 (i := 3) rfl rfl ?_
  refine g_aload_n (pc := 16) E dJ1_indexOf_4cfef_16 (i := 0) rfl rfl ?_
  refine g_stlen (pc := 17) E hV dJ1_indexOf_4cfef_17 ?_
  refine g_min (pc := 18) E dJ1_indexOf_4cfef_18 (big_at 928 (by decide +kernel) (by decide +kernel)) rfl (by decide) (Nat.le_of_ble_eq_true rfl) (by omega) ?_ 
  refine g_top (b := 5) (by decide) ?_
  refine g_istore_n (pc := 21) E dJ1_indexOf_4cfef_21 (i := 3) (ls' := [_, _, _, _]) rfl (Nat.le_of_ble_eq_true rfl) rfl ?_
  refine g_iload_n (pc := 22) E dJ1_indexOf_4cfef_22 (i := 2) rfl rfl ?_
  refine g_iload_n (pc := 23) E dJ1_indexOf_4cfef_23 (i := 3) rfl rfl ?_
  refine g_icmp_lt (pc := 24) (tgt := 29) E dJ1_indexOf_4cfef_24 (by decide) (fun qh24 => ?_) (fun qh24 => absurd qh24 (by omega)) 
  refine g_aload_n (pc := 29) E dJ1_indexOf_4cfef_29 (i := 0) rfl rfl ?_
  refine g_iload_n (pc := 30) E dJ1_indexOf_4cfef_30 (i := 1) rfl rfl ?_
  refine g_iload_n (pc := 31) E dJ1_indexOf_4cfef_31 (i := 2) rfl rfl ?_
  refine g_iload_n (pc := 32) E dJ1_indexOf_4cfef_32 (i := 3) rfl rfl ?_
  refine g_callSt (pc := 33) (As := [_, _, _, _]) E hV dJ1_indexOf_4cfef_33 ml_J1_95 (cs_indexOfChar h0 h1) rfl rfl (by decide) (Nat.le_of_ble_eq_true rfl) rfl (Nat.le_of_ble_eq_true rfl) (by decide) (fun x33 hx33 => ?_)
  refine g_iret (pc := 36) E hr dJ1_indexOf_4cfef_36 ?_
  exact ⟨hx33, rfl⟩

theorem cs_indexOf2 {cx : Cx} {M : Mem} {adK adV : Nat → Nat} {v : Int} (h0 : 0 ≤ v) (h1 : v < 128) : MtS cx yJ0_indexOf_7cf53 cJ0_indexOf_7cf53 3 (some .int) 3 [.ref (adK 0), .int (oi v), .int (oi 0)] M adK adV (fun x => kdP v x) := by
  refine ms_intro cd_J0_indexOf_7cf53 (by decide +kernel) (Nat.le_of_ble_eq_true rfl) rfl (fun Pg Lc Ev s m args below meth c E hV hr => ?_)
  refine g_ent (ls' := [some (.ref (adK 0)), some (.int (oi v)), some (.int (oi 0))]) rfl ?_
  refine g_aload_n (pc := 0) E dJ0_indexOf_7cf53_0 (i := 0) rfl rfl ?_
  refine g_callSv0 (pc := 1) (As := []) E hV dJ0_indexOf_7cf53_1 ml_J0_492 rfl cs_isLatin1 rfl rfl (by decide) (Nat.le_of_ble_eq_true rfl) rfl (Nat.le_of_ble_eq_true rfl) (by decide) (fun x1 hx1 => ?_)
  subst hx1
  refine g_if_eq (pc := 4) (tgt := 23) E dJ0_indexOf_7cf53_4 (by decide) (fun qh4 => absurd qh4 (by omega)) (fun qh4 => ?_) (by decide) (by decide)
  refine g_aload_n (pc := 7) E dJ0_indexOf_7cf53_7 (i := 0) rfl rfl ?_
  refine g_svalue (pc := 8) E hV dJ0_indexOf_7cf53_8 (big_at 1482 (by decide +kernel) (by decide +kernel)) ?_
  refine g_iload_n (pc := 11) E dJ0_indexOf_7cf53_11 (i := 1) rfl rfl ?_
  refine g_iload_n (pc := 12) E dJ0_indexOf_7cf53_12 (i := 2) rfl rfl ?_
  refine g_aload_n (pc := 13) E dJ0_indexOf_7cf53_13 (i := 0) rfl rfl ?_
  refine g_callSv0 (pc := 14) (As := []) E hV dJ0_indexOf_7cf53_14 ml_J0_505 rfl cs_length rfl rfl (by decide) (Nat.le_of_ble_eq_true rfl) rfl (Nat.le_of_ble_eq_true rfl) (by decide) (fun x14 hx14 => ?_)
  subst hx14
  refine g_callSt (pc := 17) (As := [_, _, _, _]) E hV dJ0_indexOf_7cf53_17 ml_J0_637 (cs_indexOfL h0 h1) rfl rfl (by decide) (Nat.le_of_ble_eq_true rfl) rfl (Nat.le_of_ble_eq_true rfl) (by decide) (fun x17 hx17 => ?_)
  refine g_goto (pc := 20) (tgt := 36) E dJ0_indexOf_7cf53_20 (by decide) ?_
  refine g_iret (pc := 36) E hr dJ0_indexOf_7cf53_36 ?_
  exact ⟨hx17, rfl⟩

theorem cs_indexOf1 {cx : Cx} {M : Mem} {adK adV : Nat → Nat} {v : Int} (h0 : 0 ≤ v) (h1 : v < 128) : MtS cx yJ0_indexOf_0f7a4 cJ0_indexOf_0f7a4 2 (some .int) 4 [.ref (adK 0), .int (oi v)] M adK adV (fun x => kdP v x) := by
  refine ms_intro cd_J0_indexOf_0f7a4 (by decide +kernel) (Nat.le_of_ble_eq_true rfl) rfl (fun Pg Lc Ev s m args below meth c E hV hr => ?_)
  refine g_ent (ls' := [some (.ref (adK 0)), some (.int (oi v))]) rfl ?_
  refine g_aload_n (pc := 0) E dJ0_indexOf_0f7a4_0 (i := 0) rfl rfl ?_
  refine g_iload_n (pc := 1) E dJ0_indexOf_0f7a4_1 (i := 1) rfl rfl ?_
  refine g_iconst (pc := 2) E dJ0_indexOf_0f7a4_2 rfl ?_
  refine g_callSv0 (pc := 3) (As := [_, _]) E hV dJ0_indexOf_0f7a4_3 ml_J0_633 rfl (cs_indexOf2 h0 h1) rfl rfl (by decide) (Nat.le_of_ble_eq_true rfl) rfl (Nat.le_of_ble_eq_true rfl) (by decide) (fun x3 hx3 => ?_)
  refine g_iret (pc := 6) E hr dJ0_indexOf_0f7a4_6 ?_
  exact ⟨hx3, rfl⟩

section GKD
variable {cx : Cx} {y : MethodName} {cc : ByteArray} {nL d uc us : Nat} {p : Program} {l : Launch} {e : Env} {R : Room} {s : State} {m : MethodId} {args : Array Value} {below : List Frame} {meth : Method} {c : Code} {Q : State → Prop} {pc : Nat} {ls : List (Option Value)} {sk : List Value} {M : Mem} {k n idx : Nat}
/-- the letters of the kinds are loaded -/
theorem g_ldS (E : En cx y cc nL d uc us p R s m args meth c) (hy : y.cls = "ExamBoard$EntryText") (hd : decode cc pc = .ok (.ldc 55, 2))
    (kk : ∀ adK adV : Nat → Nat, SCon cx adK adV s → G cx p l e R s m args below meth c Q (pc + 2) ls (.ref (adK 0) :: sk) M k n) : G cx p l e R s m args below meth c Q pc ls sk M k n := by
  intro H lsA locs hI hS hL
  obtain ⟨-, -, -, -, adK, adV, h1, h2⟩ := E.2.2.2.2.2.2.1.2.2
  exact va_ldcS E.1 E.2.1 (own := "ExamBoard$EntryText") (by rw [← hy]; exact E.2.2.2.1) h1 hd (kk adK adV h2 H lsA locs hI hS hL)
end GKD
