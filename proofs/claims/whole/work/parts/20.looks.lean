/-! looks and grades of the reference -/
/-- what looks leaves as it was -/
def LKf (M N : Mem) : Prop := (∀ i, i ≠ 184 → i ≠ 191 → i ≠ 192 → i ≠ 193 → i ≠ 194 → N i = M i) ∧ ∀ f : Int, f < 18 ∨ 23 < f → N 184 f = M 184 f
theorem LKf.rf (M : Mem) : LKf M M := ⟨fun _ _ _ _ _ _ => rfl, fun _ _ => rfl⟩
theorem LKf.row {M N : Mem} (h : LKf M N) (i : Nat) {x v : Int} (hi : i = 191 ∨ i = 192 ∨ i = 193 ∨ i = 194) : LKf M (st N i x v) := by
  refine ⟨fun a h1 h2 h3 h4 h5 => ?_, fun f hf => ?_⟩
  · rw [st_ne (by rcases hi with rfl | rfl | rfl | rfl <;> assumption)]
    exact h.1 a h1 h2 h3 h4 h5
  · rw [st_ne (by rcases hi with rfl | rfl | rfl | rfl <;> decide)]
    exact h.2 f hf
theorem LKf.fld {M N : Mem} (h : LKf M N) (f : Int) {v : Int} (hf : 18 ≤ f ∧ f ≤ 23) : LKf M (st N 184 f v) := by
  refine ⟨fun a h1 h2 h3 h4 h5 => ?_, fun g hg => ?_⟩
  · rw [st_ne h1]
    exact h.1 a h1 h2 h3 h4 h5
  · rw [st_off (by omega)]
    exact h.2 g hg
abbrev DN (f : Int → Int) (n x lo : Int) : Prop := (lo = -1 ∧ ∀ j, x < j → j < n → ¬ f j = 1) ∨ (x < lo ∧ lo < n ∧ f lo = 1 ∧ ∀ j, x < j → j < lo → ¬ f j = 1)
theorem dn_no {f : Int → Int} {n x lo : Int} (h : DN f n x lo) (hx : ¬ f x = 1) : DN f n (x + -1) lo := by
  rcases h with ⟨a1, a2⟩ | ⟨a1, a2, a3, a4⟩
  · refine Or.inl ⟨a1, fun j h1 h2 => ?_⟩
    by_cases hj : j = x
    · subst hj; exact hx
    · exact a2 j (by omega) h2
  · refine Or.inr ⟨by omega, a2, a3, fun j h1 h2 => ?_⟩
    by_cases hj : j = x
    · subst hj; exact hx
    · exact a4 j (by omega) h2
theorem dn_yes {f : Int → Int} {n x : Int} (hx : f x = 1) (h : x < n) : DN f n (x + -1) x := Or.inr ⟨by omega, h, hx, fun j h1 h2 => by omega⟩
theorem dn_end {f : Int → Int} {n x lo : Int} (h : DN f n x lo) (h0 : 0 ≤ n) (hx : x < 0) (hx2 : -1 ≤ x) : lo = fi f n := by
  refine isF_u (f := f) (n := n) ?_ (fi_is f h0)
  rcases h with ⟨a1, a2⟩ | ⟨a1, a2, a3, a4⟩
  · exact Or.inl ⟨a1, fun j h1 h2 => a2 j (by omega) h2⟩
  · exact Or.inr ⟨by omega, a2, a3, fun j h1 h2 => a4 j (by omega) h2⟩
/-- what looks finds: N is M but for the rows and fields that tell of the marks mk -/
def LK (S mk : Int → Int) (M N : Mem) : Prop := LKf M N ∧ (∀ p, 0 ≤ p → p < S 6 → N 191 p = mk p ∧ N 192 p = stA S mk p) ∧ (∀ m, 0 ≤ m → m < S 5 → N 193 m = inS S mk m ∧ N 194 m = bi (psM S mk m)) ∧ N 184 18 = cmpS S mk (S 6) ∧ N 184 19 = sz (f3 S mk) (S 6) ∧ N 184 20 = avS S mk ∧ N 184 21 = grS S mk ∧ N 184 22 = whS S mk ∧ N 184 23 = wnS S mk

set_option maxHeartbeats 4000000 in
theorem cv_grades {cx : Cx} {M : Mem} {S : Int → Int} (e5 : M 185 = S) {mk : Int → Int} (hV : SOK S) (hm : mkOK S mk) (h192 : ∀ p, 0 ≤ p → p < S 6 → M 192 p = stA S mk p) (h193 : ∀ m, 0 ≤ m → m < S 5 → M 193 m = inS S mk m) : Cv cx yX6_grades cX6_grades 9 3 0 0 [rf cx 184] M (fun M' => (∀ i, i ≠ 184 → M' i = M i) ∧ (∀ f : Int, f < 20 ∨ 23 < f → M' 184 f = M 184 f) ∧ M' 184 20 = avS S mk ∧ M' 184 21 = grS S mk ∧ M' 184 22 = whS S mk ∧ M' 184 23 = wnS S mk) := by
  refine cv_intro cd_X6_grades (by decide +kernel) (Nat.le_of_ble_eq_true rfl) rfl (fun Pg Lc Ev s m args below meth c E hr => ?_)
  refine g_ent (ls' := [some (rf cx 184), none, none, none, none, none, none, none, none]) rfl ?_
  have hV0 := hV.1
  have hav := avS_R hV hm
  have hcl := clA_R (avS S mk)
  have haR : 0 ≤ allS S ∧ allS S ≤ 36 := allS_R hV (show 0 ≤ S 5 by omega) (Int.le_refl _)
  have hmR : -1 ≤ misS S mk ∧ (misS S mk < S 5 ∨ misS S mk = -1) := fi_R _ (by omega)
  have hlR : -1 ≤ lostS S mk ∧ (lostS S mk < S 6 ∨ lostS S mk = -1) := fi_R _ (by omega)
  have hlm := limS_R (clA (avS S mk) - 1)
  have hlm2 := limS_R (clA (avS S mk))
  have JP340 : ∀ (_ : Unit), ¬ incS S mk → ¬ 0 ≤ lostS S mk → ¬ lfS S mk → G cx Pg Lc Ev (rmD 3 0 0) s m args below meth c (MQ below (QV cx (fun M' => (∀ i, i ≠ 184 → M' i = M i) ∧ (∀ f : Int, f < 20 ∨ 23 < f → M' 184 f = M 184 f) ∧ M' 184 20 = avS S mk ∧ M' 184 21 = grS S mk ∧ M' 184 22 = whS S mk ∧ M' 184 23 = wnS S mk)) args s 0 0 (cA0 cx)) 340 [some (rf cx 184), some (.int (oi (allS S))), none, none, none, some (.int (oi (clA (avS S mk)))), none, none, none] [] (st (st M 184 20 (-1)) 184 20 (avS S mk)) 0 0 := by
    intro _ hi hl hf
    refine g_aload_n (pc := 340) E dX6_grades_340 (i := 0) rfl rfl ?_
    refine g_iload (pc := 341) E dX6_grades_341 rfl ?_
    refine g_iconst (pc := 343) E dX6_grades_343 rfl ?_
    refine g_aload_n (pc := 344) E dX6_grades_344 (i := 0) rfl rfl ?_
    refine g_geti (i := 184) (t := 6) (f := 20) (fz := 20) (pc := 345) E dX6_grades_345 fl_X6_150 rfl (by decide) (by decide) rfl rfl (st_self _ _ _ _) (fun _ _ => ?_)
    refine g_bipush (pc := 348) E dX6_grades_348 rfl ?_
    refine g_iload (pc := 350) E dX6_grades_350 rfl ?_
    refine g_callS (pc := 352) (As := [_]) E dX6_grades_352 ml_X6_156 (ct_limit (by omega)) rfl rfl (by decide) (by decide) rfl (Nat.le_of_ble_eq_true rfl) (by decide) (fun x352 M352 hM352 => ?_)
    obtain ⟨rfl, rfl⟩ := hM352
    refine g_imul (pc := 355) E dX6_grades_355 ?_
    refine g_isub (pc := 356) E dX6_grades_356 ?_
    refine g_callVv (pc := 357) (As := [_, _, _]) E dX6_grades_357 ml_X6_153 (cv_graded (by omega) (by omega) (by omega)) rfl rfl rfl rfl (by decide) (by decide) rfl (Nat.le_of_ble_eq_true rfl) (by decide) (fun M357 hM357 => ?_)
    subst hM357
    refine g_vret (pc := 360) E hr dX6_grades_360 ?_
    refine ⟨fun i hi4 => by rw [st_ne hi4, st_ne hi4, st_ne hi4, st_ne hi4, st_ne hi4], fun f hf4 => by rw [st_off (by omega), st_off (by omega), st_off (by omega), st_off (by omega), st_off (by omega)], ?_, ?_, ?_, ?_⟩
    · rw [st_off (by decide), st_off (by decide), st_off (by decide), st_self]
    · rw [st_off (by decide), st_off (by decide), st_self]; rw [grS, if_neg hi, if_neg hl, if_neg hf]
    · rw [st_off (by decide), st_self]; rw [whS, if_neg hi, if_neg hl, if_neg hf]
    · rw [st_self]; rw [wnS, if_neg hi, if_neg hl, if_neg hf]
  have JP218 : ∀ (w : Int), ¬ incS S mk → ¬ 0 ≤ lostS S mk → w = clA (avS S mk) → G cx Pg Lc Ev (rmD 3 0 0) s m args below meth c (MQ below (QV cx (fun M' => (∀ i, i ≠ 184 → M' i = M i) ∧ (∀ f : Int, f < 20 ∨ 23 < f → M' 184 f = M 184 f) ∧ M' 184 20 = avS S mk ∧ M' 184 21 = grS S mk ∧ M' 184 22 = whS S mk ∧ M' 184 23 = wnS S mk)) args s 0 0 (cA0 cx)) 218 [some (rf cx 184), some (.int (oi (allS S))), none, none, none, none, none, none, none] [.int (oi w)] (st (st M 184 20 (-1)) 184 20 (avS S mk)) 0 0 := by
    intro w hi hl hw
    subst hw
    have hav2 := hav.2.2 hi
    refine g_istore (pc := 218) E dX6_grades_218 (ls' := [_, _, _, _, _, _, _, _, _]) (Nat.le_of_ble_eq_true rfl) rfl ?_
    refine g_iload (pc := 220) E dX6_grades_220 rfl ?_
    refine g_iconst (pc := 222) E dX6_grades_222 rfl ?_
    refine g_icmp_le (pc := 223) (tgt := 340) E dX6_grades_223 (by decide) (fun qh223 => ?_) (fun qh223 => ?_) 
    · exact g_wk2 (JP340 () hi hl (by unfold lfS; omega)) ⟨rfl, rfl, rfl, trivial⟩
    · refine g_iload (pc := 226) E dX6_grades_226 rfl ?_
      refine g_iconst (pc := 228) E dX6_grades_228 rfl ?_
      refine g_isub (pc := 229) E dX6_grades_229 ?_
      refine g_callS (pc := 230) (As := [_]) E dX6_grades_230 ml_X6_156 (ct_limit (by omega)) rfl rfl (by decide) (by decide) rfl (Nat.le_of_ble_eq_true rfl) (by decide) (fun x230 M230 hM230 => ?_)
      obtain ⟨rfl, rfl⟩ := hM230
      refine g_istore (pc := 233) E dX6_grades_233 (ls' := [_, _, _, _, _, _, _, _, _]) (Nat.le_of_ble_eq_true rfl) rfl ?_
      refine g_iconst (pc := 235) E dX6_grades_235 rfl ?_
      refine g_istore (pc := 236) E dX6_grades_236 (ls' := [_, _, _, _, _, _, _, _, _]) (Nat.le_of_ble_eq_true rfl) rfl ?_
      refine g_iconst (pc := 238) E dX6_grades_238 rfl ?_
      refine g_istore (pc := 239) E dX6_grades_239 (ls' := [_, _, _, _, _, _, _, _, _]) (Nat.le_of_ble_eq_true rfl) rfl ?_
      have LP241 : ∀ (n : Nat) (x go : Int), S 5 - x < (n : Int) → 0 ≤ x → x ≤ S 5 → go = sz (goF S mk (limS (clA (avS S mk) - 1))) x → G cx Pg Lc Ev (rmD 3 0 0) s m args below meth c (MQ below (QV cx (fun M' => (∀ i, i ≠ 184 → M' i = M i) ∧ (∀ f : Int, f < 20 ∨ 23 < f → M' 184 f = M 184 f) ∧ M' 184 20 = avS S mk ∧ M' 184 21 = grS S mk ∧ M' 184 22 = whS S mk ∧ M' 184 23 = wnS S mk)) args s 0 0 (cA0 cx)) 241 [some (rf cx 184), some (.int (oi (allS S))), none, none, none, some (.int (oi (clA (avS S mk)))), some (.int (oi (limS (clA (avS S mk) - 1)))), some (.int (oi go)), some (.int (oi x))] [] (st (st M 184 20 (-1)) 184 20 (avS S mk)) 0 0 := by
        intro n
        induction n with
        | zero => intro x go hn hx0 hx1 hgo; exact absurd hn (by omega)
        | succ n ih241 =>
          intro x go hn hx0 hx1 hgo
          have e5m : (st (st M 184 20 (-1)) 184 20 (avS S mk)) 185 = S := e5
          have hgR := goS_R (mk := mk) hV (limS (clA (avS S mk) - 1)) hx0 hx1
          refine g_iload (pc := 241) E dX6_grades_241 rfl ?_
          refine g_aload_n (pc := 243) E dX6_grades_243 (i := 0) rfl rfl ?_
          refine g_getr (i := 184) (j := 185) (t := 6) (f := 0) (pc := 244) E dX6_grades_244 fl_X6_9 rfl (by decide) (by decide) rfl rfl ?_
          refine g_iconst (pc := 247) E dX6_grades_247 rfl ?_
          refine g_iald (pc := 248) E dX6_grades_248 rfl (by omega) (by omega) (congrFun e5 _) (fun _ _ => ?_)
          refine g_icmp_ge (pc := 249) (tgt := 290) E dX6_grades_249 (by decide) (fun qh249 => ?_) (fun qh249 => ?_) 
          · have hgo2 : goS S mk (limS (clA (avS S mk) - 1)) = go := by rw [hgo, show x = S 5 by omega]; rfl
            refine g_bipush (pc := 290) E dX6_grades_290 rfl ?_
            refine g_iload (pc := 292) E dX6_grades_292 rfl ?_
            refine g_imul (pc := 294) E dX6_grades_294 ?_
            refine g_aload_n (pc := 295) E dX6_grades_295 (i := 0) rfl rfl ?_
            refine g_geti (i := 184) (t := 6) (f := 20) (fz := 20) (pc := 296) E dX6_grades_296 fl_X6_150 rfl (by decide) (by decide) rfl rfl (st_self _ _ _ _) (fun _ _ => ?_)
            refine g_isub (pc := 299) E dX6_grades_299 ?_
            refine g_bipush (pc := 300) E dX6_grades_300 rfl ?_
            refine g_aload_n (pc := 302) E dX6_grades_302 (i := 0) rfl rfl ?_
            refine g_getr (i := 184) (j := 185) (t := 6) (f := 0) (pc := 303) E dX6_grades_303 fl_X6_9 rfl (by decide) (by decide) rfl rfl ?_
            refine g_iconst (pc := 306) E dX6_grades_306 rfl ?_
            refine g_iald (pc := 307) E dX6_grades_307 rfl (by omega) (by omega) (congrFun e5 _) (fun _ _ => ?_)
            refine g_imul (pc := 308) E dX6_grades_308 ?_
            refine g_icmp_gt (pc := 309) (tgt := 340) E dX6_grades_309 (by decide) (fun qh309 => ?_) (fun qh309 => ?_) 
            · exact g_wk2 (JP340 () hi hl (by unfold lfS; omega)) ⟨rfl, rfl, rfl, trivial⟩
            · refine g_iconst (pc := 312) E dX6_grades_312 rfl ?_
              refine g_iload (pc := 313) E dX6_grades_313 rfl ?_
              refine g_imul (pc := 315) E dX6_grades_315 ?_
              refine g_iload_n (pc := 316) E dX6_grades_316 (i := 1) rfl rfl ?_
              refine g_icmp_lt (pc := 317) (tgt := 340) E dX6_grades_317 (by decide) (fun qh317 => ?_) (fun qh317 => ?_) 
              · exact g_wk2 (JP340 () hi hl (by unfold lfS; omega)) ⟨rfl, rfl, rfl, trivial⟩
              · refine g_aload_n (pc := 320) E dX6_grades_320 (i := 0) rfl rfl ?_
                refine g_iload (pc := 321) E dX6_grades_321 rfl ?_
                refine g_iconst (pc := 323) E dX6_grades_323 rfl ?_
                refine g_isub (pc := 324) E dX6_grades_324 ?_
                refine g_iconst (pc := 325) E dX6_grades_325 rfl ?_
                refine g_aload_n (pc := 326) E dX6_grades_326 (i := 0) rfl rfl ?_
                refine g_geti (i := 184) (t := 6) (f := 20) (fz := 20) (pc := 327) E dX6_grades_327 fl_X6_150 rfl (by decide) (by decide) rfl rfl (st_self _ _ _ _) (fun _ _ => ?_)
                refine g_bipush (pc := 330) E dX6_grades_330 rfl ?_
                refine g_iload (pc := 332) E dX6_grades_332 rfl ?_
                refine g_imul (pc := 334) E dX6_grades_334 ?_
                refine g_isub (pc := 335) E dX6_grades_335 ?_
                refine g_callVv (pc := 336) (As := [_, _, _]) E dX6_grades_336 ml_X6_153 (cv_graded (by omega) (by omega) (by omega)) rfl rfl rfl rfl (by decide) (by decide) rfl (Nat.le_of_ble_eq_true rfl) (by decide) (fun M336 hM336 => ?_)
                subst hM336
                refine g_vret (pc := 339) E hr dX6_grades_339 ?_
                have hf : lfS S mk := by unfold lfS; omega
                refine ⟨fun i hi4 => by rw [st_ne hi4, st_ne hi4, st_ne hi4, st_ne hi4, st_ne hi4], fun f hf4 => by rw [st_off (by omega), st_off (by omega), st_off (by omega), st_off (by omega), st_off (by omega)], ?_, ?_, ?_, ?_⟩
                · rw [st_off (by decide), st_off (by decide), st_off (by decide), st_self]
                · rw [st_off (by decide), st_off (by decide), st_self]; rw [grS, if_neg hi, if_neg hl, if_pos hf]
                · rw [st_off (by decide), st_self]; rw [whS, if_neg hi, if_neg hl, if_pos hf]
                · rw [st_self]; rw [wnS, if_neg hi, if_neg hl, if_pos hf]
          · refine g_aload_n (pc := 252) E dX6_grades_252 (i := 0) rfl rfl ?_
            refine g_iload (pc := 253) E dX6_grades_253 rfl ?_
            refine g_callV (pc := 255) (As := [_]) E dX6_grades_255 ml_X6_143 (ct_counts e5m hV (by omega)) rfl rfl rfl rfl (by decide) (by decide) rfl (Nat.le_of_ble_eq_true rfl) (by decide) (fun x255 M255 hM255 => ?_)
            obtain ⟨rfl, rfl⟩ := hM255
            refine g_if_eq (pc := 258) (tgt := 284) E dX6_grades_258 (by decide) (fun qh258 => ?_) (fun qh258 => ?_) (Int.le_trans (by decide) (bi_R _).1) (Int.le_trans (bi_R _).2 (by decide))
            · replace qh258 := bi_0.mp qh258
              refine g_iinc (pc := 284) E dX6_grades_284 (ls' := [_, _, _, _, _, _, _, _, _]) rfl rfl rfl ?_
              refine g_goto (pc := 287) (tgt := 241) E dX6_grades_287 (by decide) ?_
              exact g_wk2 (ih241 (x + 1) go (by omega) (by omega) (by omega) (by rw [sz_s hx0, hgo, show goF S mk (limS (clA (avS S mk) - 1)) x = 0 from if_neg (by omega)]; omega)) ⟨rfl, rfl, rfl, rfl, rfl, rfl, trivial⟩
            · replace qh258 := bi_n.mp qh258
              have hcm := hV.2.1 x (by omega) (by omega)
              have hin := inS_R hV hm x
              refine g_aload_n (pc := 261) E dX6_grades_261 (i := 0) rfl rfl ?_
              refine g_getr (i := 184) (j := 193) (t := 6) (f := 16) (pc := 262) E dX6_grades_262 fl_X6_34 rfl (by decide) (by decide) rfl rfl ?_
              refine g_iload (pc := 265) E dX6_grades_265 rfl ?_
              refine g_iald (pc := 267) E dX6_grades_267 rfl (by omega) (by omega) (h193 x (by omega) (by omega)) (fun _ _ => ?_)
              refine g_iload (pc := 268) E dX6_grades_268 rfl ?_
              refine g_icmp_lt (pc := 270) (tgt := 284) E dX6_grades_270 (by decide) (fun qh270 => ?_) (fun qh270 => ?_) 
              · refine g_iinc (pc := 284) E dX6_grades_284 (ls' := [_, _, _, _, _, _, _, _, _]) rfl rfl rfl ?_
                refine g_goto (pc := 287) (tgt := 241) E dX6_grades_287 (by decide) ?_
                exact g_wk2 (ih241 (x + 1) go (by omega) (by omega) (by omega) (by rw [sz_s hx0, hgo, show goF S mk (limS (clA (avS S mk) - 1)) x = 0 from if_neg (by omega)]; omega)) ⟨rfl, rfl, rfl, rfl, rfl, rfl, trivial⟩
              · refine g_iload (pc := 273) E dX6_grades_273 rfl ?_
                refine g_aload_n (pc := 275) E dX6_grades_275 (i := 0) rfl rfl ?_
                refine g_iload (pc := 276) E dX6_grades_276 rfl ?_
                refine g_callV (pc := 278) (As := [_]) E dX6_grades_278 ml_X6_146 (ct_credits e5m (by omega) (by omega)) rfl rfl rfl rfl (by decide) (by decide) rfl (Nat.le_of_ble_eq_true rfl) (by decide) (fun x278 M278 hM278 => ?_)
                obtain ⟨rfl, rfl⟩ := hM278
                refine g_iadd (pc := 281) E dX6_grades_281 ?_
                refine g_istore (pc := 282) E dX6_grades_282 (ls' := [_, _, _, _, _, _, _, _, _]) (Nat.le_of_ble_eq_true rfl) rfl ?_
                refine g_iinc (pc := 284) E dX6_grades_284 (ls' := [_, _, _, _, _, _, _, _, _]) rfl rfl rfl ?_
                refine g_goto (pc := 287) (tgt := 241) E dX6_grades_287 (by decide) ?_
                exact g_wk2 (ih241 (x + 1) (go + S (9 + x)) (by omega) (by omega) (by omega) (by rw [sz_s hx0, hgo, show goF S mk (limS (clA (avS S mk) - 1)) x = S (9 + x) from if_pos (by omega)])) ⟨rfl, rfl, rfl, rfl, rfl, rfl, trivial⟩
      exact g_wk2 (LP241 (S 5 + 1).toNat 0 0 (by omega) (by omega) (by omega) rfl) ⟨rfl, rfl, rfl, rfl, rfl, rfl, trivial⟩
  refine g_iconst (pc := 0) E dX6_grades_0 rfl ?_
  refine g_istore_n (pc := 1) E dX6_grades_1 (i := 1) (ls' := [_, _, _, _, _, _, _, _, _]) rfl (Nat.le_of_ble_eq_true rfl) rfl ?_
  refine g_iconst (pc := 2) E dX6_grades_2 rfl ?_
  refine g_istore_n (pc := 3) E dX6_grades_3 (i := 2) (ls' := [_, _, _, _, _, _, _, _, _]) rfl (Nat.le_of_ble_eq_true rfl) rfl ?_
  refine g_iconst (pc := 4) E dX6_grades_4 rfl ?_
  refine g_istore_n (pc := 5) E dX6_grades_5 (i := 3) (ls' := [_, _, _, _, _, _, _, _, _]) rfl (Nat.le_of_ble_eq_true rfl) rfl ?_
  refine g_iconst (pc := 6) E dX6_grades_6 rfl ?_
  refine g_istore (pc := 7) E dX6_grades_7 (ls' := [_, _, _, _, _, _, _, _, _]) (Nat.le_of_ble_eq_true rfl) rfl ?_
  refine g_iconst (pc := 9) E dX6_grades_9 rfl ?_
  refine g_istore (pc := 10) E dX6_grades_10 (ls' := [_, _, _, _, _, _, _, _, _]) (Nat.le_of_ble_eq_true rfl) rfl ?_
  have LP12 : ∀ (n : Nat) (x a q mi : Int), S 5 - x < (n : Int) → 0 ≤ x → x ≤ S 5 → a = sz (aF S) x → q = sz (ptF S mk) x → mi = fi (misF S mk) x → G cx Pg Lc Ev (rmD 3 0 0) s m args below meth c (MQ below (QV cx (fun M' => (∀ i, i ≠ 184 → M' i = M i) ∧ (∀ f : Int, f < 20 ∨ 23 < f → M' 184 f = M 184 f) ∧ M' 184 20 = avS S mk ∧ M' 184 21 = grS S mk ∧ M' 184 22 = whS S mk ∧ M' 184 23 = wnS S mk)) args s 0 0 (cA0 cx)) 12 [some (rf cx 184), some (.int (oi a)), some (.int (oi q)), some (.int (oi mi)), some (.int (oi (-1))), some (.int (oi x)), none, none, none] [] (M) 0 0 := by
    intro n
    induction n with
    | zero => intro x a q mi hn hx0 hx1 ha hq hmi; exact absurd hn (by omega)
    | succ n ih12 =>
      intro x a q mi hn hx0 hx1 ha hq hmi
      have hfR := fi_R (misF S mk) hx0
      have haR2 := allS_R hV hx0 hx1
      refine g_iload (pc := 12) E dX6_grades_12 rfl ?_
      refine g_aload_n (pc := 14) E dX6_grades_14 (i := 0) rfl rfl ?_
      refine g_getr (i := 184) (j := 185) (t := 6) (f := 0) (pc := 15) E dX6_grades_15 fl_X6_9 rfl (by decide) (by decide) rfl rfl ?_
      refine g_iconst (pc := 18) E dX6_grades_18 rfl ?_
      refine g_iald (pc := 19) E dX6_grades_19 rfl (by omega) (by omega) (congrFun e5 _) (fun _ _ => ?_)
      refine g_icmp_ge (pc := 20) (tgt := 84) E dX6_grades_20 (by decide) (fun qh20 => ?_) (fun qh20 => ?_) 
      · refine g_aload_n (pc := 84) E dX6_grades_84 (i := 0) rfl rfl ?_
        refine g_getr (i := 184) (j := 185) (t := 6) (f := 0) (pc := 85) E dX6_grades_85 fl_X6_9 rfl (by decide) (by decide) rfl rfl ?_
        refine g_bipush (pc := 88) E dX6_grades_88 rfl ?_
        refine g_iald (pc := 90) E dX6_grades_90 rfl (by omega) (by omega) (congrFun e5 _) (fun _ _ => ?_)
        refine g_iconst (pc := 91) E dX6_grades_91 rfl ?_
        refine g_isub (pc := 92) E dX6_grades_92 ?_
        refine g_istore (pc := 93) E dX6_grades_93 (ls' := [_, _, _, _, _, _, _, _, _]) (Nat.le_of_ble_eq_true rfl) rfl ?_
        have LP95 : ∀ (n : Nat) (x lo : Int), x + 1 < (n : Int) → -1 ≤ x → x < S 6 → DN (f3 S mk) (S 6) x lo → G cx Pg Lc Ev (rmD 3 0 0) s m args below meth c (MQ below (QV cx (fun M' => (∀ i, i ≠ 184 → M' i = M i) ∧ (∀ f : Int, f < 20 ∨ 23 < f → M' 184 f = M 184 f) ∧ M' 184 20 = avS S mk ∧ M' 184 21 = grS S mk ∧ M' 184 22 = whS S mk ∧ M' 184 23 = wnS S mk)) args s 0 0 (cA0 cx)) 95 [some (rf cx 184), some (.int (oi (allS S))), some (.int (oi (ptS S mk))), some (.int (oi (misS S mk))), some (.int (oi lo)), some (.int (oi x)), none, none, none] [] (M) 0 0 := by
          intro n
          induction n with
          | zero => intro x lo hn hx0 hx1 hlo; exact absurd hn (by omega)
          | succ n ih95 =>
            intro x lo hn hx0 hx1 hlo
            refine g_iload (pc := 95) E dX6_grades_95 rfl ?_
            refine g_if_lt (pc := 97) (tgt := 121) E dX6_grades_97 (by decide) (fun qh97 => ?_) (fun qh97 => ?_) 
            · have hlost : lo = lostS S mk := dn_end hlo (by omega) (by omega) hx0
              rw [hlost]
              refine g_aload_n (pc := 121) E dX6_grades_121 (i := 0) rfl rfl ?_
              refine g_iconst (pc := 122) E dX6_grades_122 rfl ?_
              refine g_puti (i := 184) (t := 6) (f := 20) (fz := 20) (pc := 123) E dX6_grades_123 fl_X6_150 rfl (by decide) (by decide) rfl rfl ?_ 
              refine g_iload_n (pc := 126) E dX6_grades_126 (i := 1) rfl rfl ?_
              refine g_if_eq (pc := 127) (tgt := 134) E dX6_grades_127 (by decide) (fun qh127 => ?_) (fun qh127 => ?_) 
              · have hi : incS S mk := by unfold incS; omega
                have eav : avS S mk = -1 := by rw [avS, if_pos hi]
                refine g_aload_n (pc := 134) E dX6_grades_134 (i := 0) rfl rfl ?_
                refine g_iconst (pc := 135) E dX6_grades_135 rfl ?_
                refine g_iconst (pc := 136) E dX6_grades_136 rfl ?_
                refine g_iload_n (pc := 137) E dX6_grades_137 (i := 3) rfl rfl ?_
                refine g_if_ge (pc := 138) (tgt := 146) E dX6_grades_138 (by decide) (fun qh138 => ?_) (fun qh138 => ?_) 
                · refine g_iload_n (pc := 146) E dX6_grades_146 (i := 3) rfl rfl ?_
                  refine g_callVv (pc := 147) (As := [_, _, _]) E dX6_grades_147 ml_X6_153 (cv_graded (by omega) (by omega) (by omega)) rfl rfl rfl rfl (by decide) (by decide) rfl (Nat.le_of_ble_eq_true rfl) (by decide) (fun M147 hM147 => ?_)
                  subst hM147
                  refine g_vret (pc := 150) E hr dX6_grades_150 ?_
                  refine ⟨fun i hi4 => by rw [st_ne hi4, st_ne hi4, st_ne hi4, st_ne hi4], fun f hf4 => by rw [st_off (by omega), st_off (by omega), st_off (by omega), st_off (by omega)], ?_, ?_, ?_, ?_⟩
                  · rw [st_off (by decide), st_off (by decide), st_off (by decide), st_self]; exact eav.symm
                  · rw [st_off (by decide), st_off (by decide), st_self]; rw [grS, if_pos hi]
                  · rw [st_off (by decide), st_self]; rw [whS, if_pos hi]
                  · rw [st_self]; rw [wnS, if_pos hi, if_neg (by omega)]
                · refine g_bipush (pc := 141) E dX6_grades_141 rfl ?_
                  refine g_goto (pc := 143) (tgt := 147) E dX6_grades_143 (by decide) ?_
                  refine g_callVv (pc := 147) (As := [_, _, _]) E dX6_grades_147 ml_X6_153 (cv_graded (by omega) (by omega) (by omega)) rfl rfl rfl rfl (by decide) (by decide) rfl (Nat.le_of_ble_eq_true rfl) (by decide) (fun M147 hM147 => ?_)
                  subst hM147
                  refine g_vret (pc := 150) E hr dX6_grades_150 ?_
                  refine ⟨fun i hi4 => by rw [st_ne hi4, st_ne hi4, st_ne hi4, st_ne hi4], fun f hf4 => by rw [st_off (by omega), st_off (by omega), st_off (by omega), st_off (by omega)], ?_, ?_, ?_, ?_⟩
                  · rw [st_off (by decide), st_off (by decide), st_off (by decide), st_self]; exact eav.symm
                  · rw [st_off (by decide), st_off (by decide), st_self]; rw [grS, if_pos hi]
                  · rw [st_off (by decide), st_self]; rw [whS, if_pos hi]
                  · rw [st_self]; rw [wnS, if_pos hi, if_pos (by omega)]
              · refine g_iload_n (pc := 130) E dX6_grades_130 (i := 3) rfl rfl ?_
                refine g_if_lt (pc := 131) (tgt := 151) E dX6_grades_131 (by decide) (fun qh131 => ?_) (fun qh131 => ?_) 
                · have hi : ¬ incS S mk := by unfold incS; omega
                  obtain ⟨hp1, hp2, hp3⟩ := ptS_ok hV hm hi
                  have hav2 := hav.2.2 hi
                  have eav : 100 * ptS S mk / allS S = avS S mk := by rw [avS, if_neg hi]
                  refine g_aload_n (pc := 151) E dX6_grades_151 (i := 0) rfl rfl ?_
                  refine g_bipush (pc := 152) E dX6_grades_152 rfl ?_
                  refine g_iload_n (pc := 154) E dX6_grades_154 (i := 2) rfl rfl ?_
                  refine g_imul (pc := 155) E dX6_grades_155 ?_
                  refine g_iload_n (pc := 156) E dX6_grades_156 (i := 1) rfl rfl ?_
                  refine g_idiv (pc := 157) E dX6_grades_157 (by omega) (by omega) (by omega) (by omega) ?_
                  rw [eav]
                  refine g_puti (i := 184) (t := 6) (f := 20) (fz := 20) (pc := 158) E dX6_grades_158 fl_X6_150 rfl (by decide) (by decide) rfl rfl ?_ 
                  refine g_iload (pc := 161) E dX6_grades_161 rfl ?_
                  refine g_if_lt (pc := 163) (tgt := 175) E dX6_grades_163 (by decide) (fun qh163 => ?_) (fun qh163 => ?_) 
                  · refine g_aload_n (pc := 175) E dX6_grades_175 (i := 0) rfl rfl ?_
                    refine g_geti (i := 184) (t := 6) (f := 20) (fz := 20) (pc := 176) E dX6_grades_176 fl_X6_150 rfl (by decide) (by decide) rfl rfl (st_self _ _ _ _) (fun _ _ => ?_)
                    refine g_sipush (pc := 179) E dX6_grades_179 rfl ?_
                    refine g_icmp_lt (pc := 182) (tgt := 189) E dX6_grades_182 (by decide) (fun qh182 => ?_) (fun qh182 => ?_) 
                    · refine g_aload_n (pc := 189) E dX6_grades_189 (i := 0) rfl rfl ?_
                      refine g_geti (i := 184) (t := 6) (f := 20) (fz := 20) (pc := 190) E dX6_grades_190 fl_X6_150 rfl (by decide) (by decide) rfl rfl (st_self _ _ _ _) (fun _ _ => ?_)
                      refine g_sipush (pc := 193) E dX6_grades_193 rfl ?_
                      refine g_icmp_lt (pc := 196) (tgt := 203) E dX6_grades_196 (by decide) (fun qh196 => ?_) (fun qh196 => ?_) 
                      · refine g_aload_n (pc := 203) E dX6_grades_203 (i := 0) rfl rfl ?_
                        refine g_geti (i := 184) (t := 6) (f := 20) (fz := 20) (pc := 204) E dX6_grades_204 fl_X6_150 rfl (by decide) (by decide) rfl rfl (st_self _ _ _ _) (fun _ _ => ?_)
                        refine g_sipush (pc := 207) E dX6_grades_207 rfl ?_
                        refine g_icmp_lt (pc := 210) (tgt := 217) E dX6_grades_210 (by decide) (fun qh210 => ?_) (fun qh210 => ?_) 
                        · refine g_iconst (pc := 217) E dX6_grades_217 rfl ?_
                          exact g_wk2 (JP218 _ hi (by omega) (by rw [clA, if_neg (by omega), if_neg (by omega), if_neg (by omega)])) ⟨rfl, rfl, trivial⟩
                        · refine g_iconst (pc := 213) E dX6_grades_213 rfl ?_
                          refine g_goto (pc := 214) (tgt := 218) E dX6_grades_214 (by decide) ?_
                          exact g_wk2 (JP218 _ hi (by omega) (by rw [clA, if_neg (by omega), if_neg (by omega), if_pos (by omega)])) ⟨rfl, rfl, trivial⟩
                      · refine g_iconst (pc := 199) E dX6_grades_199 rfl ?_
                        refine g_goto (pc := 200) (tgt := 218) E dX6_grades_200 (by decide) ?_
                        exact g_wk2 (JP218 _ hi (by omega) (by rw [clA, if_neg (by omega), if_pos (by omega)])) ⟨rfl, rfl, trivial⟩
                    · refine g_iconst (pc := 185) E dX6_grades_185 rfl ?_
                      refine g_goto (pc := 186) (tgt := 218) E dX6_grades_186 (by decide) ?_
                      exact g_wk2 (JP218 _ hi (by omega) (by rw [clA, if_pos (by omega)])) ⟨rfl, rfl, trivial⟩
                  · refine g_aload_n (pc := 166) E dX6_grades_166 (i := 0) rfl rfl ?_
                    refine g_iconst (pc := 167) E dX6_grades_167 rfl ?_
                    refine g_iconst (pc := 168) E dX6_grades_168 rfl ?_
                    refine g_iload (pc := 169) E dX6_grades_169 rfl ?_
                    refine g_callVv (pc := 171) (As := [_, _, _]) E dX6_grades_171 ml_X6_153 (cv_graded (by omega) (by omega) (by omega)) rfl rfl rfl rfl (by decide) (by decide) rfl (Nat.le_of_ble_eq_true rfl) (by decide) (fun M171 hM171 => ?_)
                    subst hM171
                    refine g_vret (pc := 174) E hr dX6_grades_174 ?_
                    refine ⟨fun i hi4 => by rw [st_ne hi4, st_ne hi4, st_ne hi4, st_ne hi4, st_ne hi4], fun f hf4 => by rw [st_off (by omega), st_off (by omega), st_off (by omega), st_off (by omega), st_off (by omega)], ?_, ?_, ?_, ?_⟩
                    · rw [st_off (by decide), st_off (by decide), st_off (by decide), st_self]
                    · rw [st_off (by decide), st_off (by decide), st_self]; rw [grS, if_neg hi, if_pos (by omega)]
                    · rw [st_off (by decide), st_self]; rw [whS, if_neg hi, if_pos (by omega)]
                    · rw [st_self]; rw [wnS, if_neg hi, if_pos (by omega)]
                · have hi : incS S mk := by unfold incS; omega
                  have eav : avS S mk = -1 := by rw [avS, if_pos hi]
                  refine g_aload_n (pc := 134) E dX6_grades_134 (i := 0) rfl rfl ?_
                  refine g_iconst (pc := 135) E dX6_grades_135 rfl ?_
                  refine g_iconst (pc := 136) E dX6_grades_136 rfl ?_
                  refine g_iload_n (pc := 137) E dX6_grades_137 (i := 3) rfl rfl ?_
                  refine g_if_ge (pc := 138) (tgt := 146) E dX6_grades_138 (by decide) (fun qh138 => ?_) (fun qh138 => ?_) 
                  · refine g_iload_n (pc := 146) E dX6_grades_146 (i := 3) rfl rfl ?_
                    refine g_callVv (pc := 147) (As := [_, _, _]) E dX6_grades_147 ml_X6_153 (cv_graded (by omega) (by omega) (by omega)) rfl rfl rfl rfl (by decide) (by decide) rfl (Nat.le_of_ble_eq_true rfl) (by decide) (fun M147 hM147 => ?_)
                    subst hM147
                    refine g_vret (pc := 150) E hr dX6_grades_150 ?_
                    refine ⟨fun i hi4 => by rw [st_ne hi4, st_ne hi4, st_ne hi4, st_ne hi4], fun f hf4 => by rw [st_off (by omega), st_off (by omega), st_off (by omega), st_off (by omega)], ?_, ?_, ?_, ?_⟩
                    · rw [st_off (by decide), st_off (by decide), st_off (by decide), st_self]; exact eav.symm
                    · rw [st_off (by decide), st_off (by decide), st_self]; rw [grS, if_pos hi]
                    · rw [st_off (by decide), st_self]; rw [whS, if_pos hi]
                    · rw [st_self]; rw [wnS, if_pos hi, if_neg (by omega)]
                  · refine g_bipush (pc := 141) E dX6_grades_141 rfl ?_
                    refine g_goto (pc := 143) (tgt := 147) E dX6_grades_143 (by decide) ?_
                    refine g_callVv (pc := 147) (As := [_, _, _]) E dX6_grades_147 ml_X6_153 (cv_graded (by omega) (by omega) (by omega)) rfl rfl rfl rfl (by decide) (by decide) rfl (Nat.le_of_ble_eq_true rfl) (by decide) (fun M147 hM147 => ?_)
                    subst hM147
                    refine g_vret (pc := 150) E hr dX6_grades_150 ?_
                    refine ⟨fun i hi4 => by rw [st_ne hi4, st_ne hi4, st_ne hi4, st_ne hi4], fun f hf4 => by rw [st_off (by omega), st_off (by omega), st_off (by omega), st_off (by omega)], ?_, ?_, ?_, ?_⟩
                    · rw [st_off (by decide), st_off (by decide), st_off (by decide), st_self]; exact eav.symm
                    · rw [st_off (by decide), st_off (by decide), st_self]; rw [grS, if_pos hi]
                    · rw [st_off (by decide), st_self]; rw [whS, if_pos hi]
                    · rw [st_self]; rw [wnS, if_pos hi, if_pos (by omega)]
            · have hsR := stA_R S mk x
              refine g_aload_n (pc := 100) E dX6_grades_100 (i := 0) rfl rfl ?_
              refine g_getr (i := 184) (j := 192) (t := 6) (f := 15) (pc := 101) E dX6_grades_101 fl_X6_31 rfl (by decide) (by decide) rfl rfl ?_
              refine g_iload (pc := 104) E dX6_grades_104 rfl ?_
              refine g_iald (pc := 106) E dX6_grades_106 rfl (by omega) (by omega) (h192 x (by omega) (by omega)) (fun _ _ => ?_)
              refine g_iconst (pc := 107) E dX6_grades_107 rfl ?_
              refine g_icmp_ne (pc := 108) (tgt := 115) E dX6_grades_108 (by decide) (fun qh108 => ?_) (fun qh108 => ?_) 
              · refine g_iinc (pc := 115) E dX6_grades_115 (ls' := [_, _, _, _, _, _, _, _, _]) rfl rfl rfl ?_
                refine g_goto (pc := 118) (tgt := 95) E dX6_grades_118 (by decide) ?_
                exact g_wk2 (ih95 (x + -1) lo (by omega) (by omega) (by omega) (dn_no hlo (by unfold f3; rw [if_neg qh108]; decide))) ⟨rfl, rfl, rfl, rfl, rfl, rfl, trivial⟩
              · refine g_iload (pc := 111) E dX6_grades_111 rfl ?_
                refine g_istore (pc := 113) E dX6_grades_113 (ls' := [_, _, _, _, _, _, _, _, _]) (Nat.le_of_ble_eq_true rfl) rfl ?_
                refine g_iinc (pc := 115) E dX6_grades_115 (ls' := [_, _, _, _, _, _, _, _, _]) rfl rfl rfl ?_
                refine g_goto (pc := 118) (tgt := 95) E dX6_grades_118 (by decide) ?_
                exact g_wk2 (ih95 (x + -1) x (by omega) (by omega) (by omega) (dn_yes (if_pos (by omega)) hx1)) ⟨rfl, rfl, rfl, rfl, rfl, rfl, trivial⟩
        have ea : a = allS S := by rw [ha, show x = S 5 by omega]; rfl
        have eq : q = ptS S mk := by rw [hq, show x = S 5 by omega]; rfl
        have em : mi = misS S mk := by rw [hmi, show x = S 5 by omega]; rfl
        rw [ea, eq, em]
        exact g_wk2 (LP95 (S 6 + 1).toNat (S 6 - 1) (-1) (by omega) (by omega) (by omega) (Or.inl ⟨rfl, fun j h1 h2 => by omega⟩)) ⟨rfl, rfl, rfl, rfl, rfl, rfl, trivial⟩
      · refine g_aload_n (pc := 23) E dX6_grades_23 (i := 0) rfl rfl ?_
        refine g_iload (pc := 24) E dX6_grades_24 rfl ?_
        refine g_callV (pc := 26) (As := [_]) E dX6_grades_26 ml_X6_143 (ct_counts e5 hV (by omega)) rfl rfl rfl rfl (by decide) (by decide) rfl (Nat.le_of_ble_eq_true rfl) (by decide) (fun x26 M26 hM26 => ?_)
        obtain ⟨rfl, rfl⟩ := hM26
        refine g_if_ne (pc := 29) (tgt := 35) E dX6_grades_29 (by decide) (fun qh29 => ?_) (fun qh29 => ?_) (Int.le_trans (by decide) (bi_R _).1) (Int.le_trans (bi_R _).2 (by decide))
        · replace qh29 := bi_n.mp qh29
          have hcm := hV.2.1 x (by omega) (by omega)
          have hin := inS_R hV hm x
          refine g_iload_n (pc := 35) E dX6_grades_35 (i := 1) rfl rfl ?_
          refine g_aload_n (pc := 36) E dX6_grades_36 (i := 0) rfl rfl ?_
          refine g_iload (pc := 37) E dX6_grades_37 rfl ?_
          refine g_callV (pc := 39) (As := [_]) E dX6_grades_39 ml_X6_146 (ct_credits e5 (by omega) (by omega)) rfl rfl rfl rfl (by decide) (by decide) rfl (Nat.le_of_ble_eq_true rfl) (by decide) (fun x39 M39 hM39 => ?_)
          obtain ⟨rfl, rfl⟩ := hM39
          refine g_iadd (pc := 42) E dX6_grades_42 ?_
          refine g_istore_n (pc := 43) E dX6_grades_43 (i := 1) (ls' := [_, _, _, _, _, _, _, _, _]) rfl (Nat.le_of_ble_eq_true rfl) rfl ?_
          refine g_iload_n (pc := 44) E dX6_grades_44 (i := 2) rfl rfl ?_
          refine g_aload_n (pc := 45) E dX6_grades_45 (i := 0) rfl rfl ?_
          refine g_iload (pc := 46) E dX6_grades_46 rfl ?_
          refine g_callV (pc := 48) (As := [_]) E dX6_grades_48 ml_X6_146 (ct_credits e5 (by omega) (by omega)) rfl rfl rfl rfl (by decide) (by decide) rfl (Nat.le_of_ble_eq_true rfl) (by decide) (fun x48 M48 hM48 => ?_)
          obtain ⟨rfl, rfl⟩ := hM48
          refine g_aload_n (pc := 51) E dX6_grades_51 (i := 0) rfl rfl ?_
          refine g_getr (i := 184) (j := 193) (t := 6) (f := 16) (pc := 52) E dX6_grades_52 fl_X6_34 rfl (by decide) (by decide) rfl rfl ?_
          refine g_iload (pc := 55) E dX6_grades_55 rfl ?_
          refine g_iald (pc := 57) E dX6_grades_57 rfl (by omega) (by omega) (h193 x (by omega) (by omega)) (fun _ _ => ?_)
          refine g_imul (pc := 58) E dX6_grades_58 ?_
          refine g_iadd (pc := 59) E dX6_grades_59 ?_
          refine g_istore_n (pc := 60) E dX6_grades_60 (i := 2) (ls' := [_, _, _, _, _, _, _, _, _]) rfl (Nat.le_of_ble_eq_true rfl) rfl ?_
          refine g_aload_n (pc := 61) E dX6_grades_61 (i := 0) rfl rfl ?_
          refine g_getr (i := 184) (j := 193) (t := 6) (f := 16) (pc := 62) E dX6_grades_62 fl_X6_34 rfl (by decide) (by decide) rfl rfl ?_
          refine g_iload (pc := 65) E dX6_grades_65 rfl ?_
          refine g_iald (pc := 67) E dX6_grades_67 rfl (by omega) (by omega) (h193 x (by omega) (by omega)) (fun _ _ => ?_)
          refine g_if_ge (pc := 68) (tgt := 78) E dX6_grades_68 (by decide) (fun qh68 => ?_) (fun qh68 => ?_) 
          · refine g_iinc (pc := 78) E dX6_grades_78 (ls' := [_, _, _, _, _, _, _, _, _]) rfl rfl rfl ?_
            refine g_goto (pc := 81) (tgt := 12) E dX6_grades_81 (by decide) ?_
            exact g_wk2 (ih12 (x + 1) (a + S (9 + x)) (q + S (9 + x) * inS S mk x) mi (by omega) (by omega) (by omega) (by rw [sz_s hx0, ha, show aF S x = S (9 + x) from if_pos (by omega)]) (by rw [sz_s hx0, hq, show ptF S mk x = S (9 + x) * inS S mk x from if_pos (by omega)]) (by rw [fi_s hx0, ← hmi, show misF S mk x = 0 from if_neg (by omega)]; (repeat' split) <;> omega)) ⟨rfl, rfl, rfl, rfl, rfl, rfl, trivial⟩
          · refine g_iload_n (pc := 71) E dX6_grades_71 (i := 3) rfl rfl ?_
            refine g_if_ge (pc := 72) (tgt := 78) E dX6_grades_72 (by decide) (fun qh72 => ?_) (fun qh72 => ?_) 
            · refine g_iinc (pc := 78) E dX6_grades_78 (ls' := [_, _, _, _, _, _, _, _, _]) rfl rfl rfl ?_
              refine g_goto (pc := 81) (tgt := 12) E dX6_grades_81 (by decide) ?_
              exact g_wk2 (ih12 (x + 1) (a + S (9 + x)) (q + S (9 + x) * inS S mk x) mi (by omega) (by omega) (by omega) (by rw [sz_s hx0, ha, show aF S x = S (9 + x) from if_pos (by omega)]) (by rw [sz_s hx0, hq, show ptF S mk x = S (9 + x) * inS S mk x from if_pos (by omega)]) (by rw [fi_s hx0, ← hmi, show misF S mk x = 1 from if_pos (by omega)]; (repeat' split) <;> omega)) ⟨rfl, rfl, rfl, rfl, rfl, rfl, trivial⟩
            · refine g_iload (pc := 75) E dX6_grades_75 rfl ?_
              refine g_istore_n (pc := 77) E dX6_grades_77 (i := 3) (ls' := [_, _, _, _, _, _, _, _, _]) rfl (Nat.le_of_ble_eq_true rfl) rfl ?_
              refine g_iinc (pc := 78) E dX6_grades_78 (ls' := [_, _, _, _, _, _, _, _, _]) rfl rfl rfl ?_
              refine g_goto (pc := 81) (tgt := 12) E dX6_grades_81 (by decide) ?_
              exact g_wk2 (ih12 (x + 1) (a + S (9 + x)) (q + S (9 + x) * inS S mk x) x (by omega) (by omega) (by omega) (by rw [sz_s hx0, ha, show aF S x = S (9 + x) from if_pos (by omega)]) (by rw [sz_s hx0, hq, show ptF S mk x = S (9 + x) * inS S mk x from if_pos (by omega)]) (by rw [fi_s hx0, ← hmi, show misF S mk x = 1 from if_pos (by omega)]; (repeat' split) <;> omega)) ⟨rfl, rfl, rfl, rfl, rfl, rfl, trivial⟩
        · replace qh29 := bi_0.mp qh29
          refine g_goto (pc := 32) (tgt := 78) E dX6_grades_32 (by decide) ?_
          refine g_iinc (pc := 78) E dX6_grades_78 (ls' := [_, _, _, _, _, _, _, _, _]) rfl rfl rfl ?_
          refine g_goto (pc := 81) (tgt := 12) E dX6_grades_81 (by decide) ?_
          exact g_wk2 (ih12 (x + 1) a q mi (by omega) (by omega) (by omega) (by rw [sz_s hx0, ha, show aF S x = 0 from if_neg (by omega)]; omega) (by rw [sz_s hx0, hq, show ptF S mk x = 0 from if_neg (by omega)]; omega) (by rw [fi_s hx0, ← hmi, show misF S mk x = 0 from if_neg (by omega)]; (repeat' split) <;> omega)) ⟨rfl, rfl, rfl, rfl, rfl, rfl, trivial⟩
  exact g_wk2 (LP12 (S 5 + 1).toNat 0 0 0 (-1) (by omega) (by omega) (by omega) rfl rfl rfl) ⟨rfl, rfl, rfl, rfl, rfl, rfl, trivial⟩
