/-! looks of the reference -/
theorem row_ext {N : Mem} {i : Nat} {x v : Int} {f : Int → Int} (h : ∀ j, 0 ≤ j → j < x → N i j = f j) (hv : v = f x) : ∀ j, 0 ≤ j → j < x + 1 → st N i x v i j = f j := by
  intro j h0 h1
  by_cases hj : j = x
  · subst hj; rw [st_self]; exact hv
  · rw [st_off hj]; exact h j h0 (by omega)
def lkM (S : Int → Int) (s q o p : Int) : Int := if p = q then o else mkS S s p
theorem lkM_ok {S : Int → Int} (hV : SOK S) {s q o : Int} (h0 : 0 ≤ s) (h1 : s < S 7) (h2 : -1 ≤ o) (h3 : o ≤ 100) : mkOK S (lkM S s q o) := by
  intro p a b
  unfold lkM
  split
  · omega
  · exact mkS_R hV h0 h1 a b
/-- the third loop: the first x papers are decided -/
def LQ (S mk : Int → Int) (M : Mem) (x : Int) (N : Mem) : Prop := LKf M N ∧ (∀ j, 0 ≤ j → j < S 6 → N 191 j = mk j) ∧ (∀ j, 0 ≤ j → j < S 5 → N 193 j = inS S mk j) ∧ (∀ j, 0 ≤ j → j < x → N 192 j = stA S mk j) ∧ (∀ j, 0 ≤ j → j < S 5 → N 194 j = bi (0 ≤ inS S mk j ∧ sz (f3F S mk j) x = 0)) ∧ N 184 18 = cmpS S mk x ∧ N 184 19 = sz (f3 S mk) x
theorem f3F_R {S mk : Int → Int} (m : Int) {x : Int} (h : 0 ≤ x) : 0 ≤ sz (f3F S mk m) x := sz_pos (fun j _ _ => by unfold f3F; split <;> omega)
theorem LQ_z {S mk : Int → Int} {M N : Mem} {x v : Int} (hx : 0 ≤ x) (h : LQ S mk M x N) (hv : v = stA S mk x) (h2 : ¬ stA S mk x = 2) (h3 : ¬ stA S mk x = 3) : LQ S mk M (x + 1) (st N 192 x v) := by
  obtain ⟨q1, q2, q3, q4, q5, q6, q7⟩ := h
  refine ⟨q1.row 192 (Or.inr (Or.inl rfl)), q2, q3, row_ext q4 hv, fun j h0 h1 => ?_, ?_, ?_⟩
  · show N 194 j = _
    rw [q5 j h0 h1, sz_s hx, show f3F S mk j x = 0 from if_neg (fun q => h3 q.2)]
    exact bi_c (by omega)
  · show N 184 18 = _
    rw [cmpS_s hx, if_neg h2, q6]
    omega
  · show N 184 19 = _
    rw [sz_s hx, show f3 S mk x = 0 from if_neg h3, q7]
    omega
theorem LQ_c {S mk : Int → Int} {M N : Mem} {x w : Int} (hx : 0 ≤ x) (h : LQ S mk M x N) (h2 : stA S mk x = 2) : LQ S mk M (x + 1) (st (st (st N 192 x w) 192 x 2) 184 18 (cmpS S mk x + 1)) := by
  obtain ⟨q1, q2, q3, q4, q5, q6, q7⟩ := h
  refine ⟨((q1.row 192 (Or.inr (Or.inl rfl))).row 192 (Or.inr (Or.inl rfl))).fld 18 (by omega), q2, q3, ?_, fun j h0 h1 => ?_, ?_, ?_⟩
  · refine row_ext (i := 192) (N := st N 192 x w) (fun j h0 h1 => ?_) h2.symm
    rw [st_off (by omega)]
    exact q4 j h0 h1
  · show N 194 j = _
    rw [q5 j h0 h1, sz_s hx, show f3F S mk j x = 0 from if_neg (fun q => by omega)]
    exact bi_c (by omega)
  · rw [st_self, cmpS_s hx, if_pos h2]
  · rw [st_off (by decide)]
    show N 184 19 = _
    rw [sz_s hx, show f3 S mk x = 0 from if_neg (by omega), q7]
    omega
theorem LQ_f {S mk : Int → Int} {M N : Mem} {x w : Int} (hx : 0 ≤ x) (h : LQ S mk M x N) (h3 : stA S mk x = 3) (hw : w = 3) : LQ S mk M (x + 1) (st (st (st N 192 x w) 184 19 (sz (f3 S mk) x + 1)) 194 (S (13 + 3 * x)) 0) := by
  obtain ⟨q1, q2, q3, q4, q5, q6, q7⟩ := h
  refine ⟨((q1.row 192 (Or.inr (Or.inl rfl))).fld 19 (by omega)).row 194 (Or.inr (Or.inr (Or.inr rfl))), q2, q3, ?_, fun j h0 h1 => ?_, ?_, ?_⟩
  · exact row_ext q4 (hw.trans h3.symm)
  · by_cases hj : j = S (13 + 3 * x)
    · subst hj
      rw [st_self, sz_s hx, show f3F S mk (S (13 + 3 * x)) x = 1 from if_pos ⟨rfl, h3⟩]
      have := f3F_R (S := S) (mk := mk) (S (13 + 3 * x)) hx
      exact (bi_f (by omega)).symm
    · rw [st_off hj]
      show N 194 j = _
      rw [q5 j h0 h1, sz_s hx, show f3F S mk j x = 0 from if_neg (fun q => hj q.1.symm)]
      exact bi_c (by omega)
  · show N 184 18 = _
    rw [cmpS_s hx, if_neg (by omega), q6]
    omega
  · show (st (st N 192 x w) 184 19 (sz (f3 S mk) x + 1)) 184 19 = _
    rw [st_self, sz_s hx, show f3 S mk x = 1 from if_pos h3]
theorem LQ_end {S mk : Int → Int} {M N N2 : Mem} {x : Int} (h : LQ S mk M x N) (hx : x = S 6) (g : (∀ i, i ≠ 184 → N2 i = N i) ∧ (∀ f : Int, f < 20 ∨ 23 < f → N2 184 f = N 184 f) ∧ N2 184 20 = avS S mk ∧ N2 184 21 = grS S mk ∧ N2 184 22 = whS S mk ∧ N2 184 23 = wnS S mk) : LK S mk M N2 := by
  subst hx
  obtain ⟨q1, q2, q3, q4, q5, q6, q7⟩ := h
  obtain ⟨g1, g2, g3, g4, g5, g6⟩ := g
  refine ⟨⟨fun i h1 h2 h3 h4 h5 => by rw [g1 i h1, q1.1 i h1 h2 h3 h4 h5], fun f hf => by rw [g2 f (by omega), q1.2 f hf]⟩, fun p h0 h1 => ⟨by rw [g1 191 (by decide)]; exact q2 p h0 h1, by rw [g1 192 (by decide)]; exact q4 p h0 h1⟩, fun m h0 h1 => ⟨by rw [g1 193 (by decide)]; exact q3 m h0 h1, by rw [g1 194 (by decide)]; exact q5 m h0 h1⟩, by rw [g2 18 (by decide)]; exact q6, by rw [g2 19 (by decide)]; exact q7, g3, g4, g5, g6⟩

set_option maxHeartbeats 4000000 in
theorem cv_looks {cx : Cx} {M : Mem} {S : Int → Int} (e5 : M 185 = S) {sn pq ot : Int} (hV : SOK S) (hs0 : 0 ≤ sn) (hs1 : sn < S 7) (hpq : -1 ≤ pq ∧ pq ≤ 7) (hot : -1 ≤ ot ∧ ot ≤ 100) : Cv cx yX6_looks cX6_looks 9 9 0 0 [rf cx 184, .int (oi sn), .int (oi pq), .int (oi ot)] M (fun M' => LK S (lkM S sn pq ot) M M') := by
  refine cv_intro cd_X6_looks (by decide +kernel) (Nat.le_of_ble_eq_true rfl) rfl (fun Pg Lc Ev s m args below meth c E hr => ?_)
  refine g_ent (ls' := [some (rf cx 184), some (.int (oi sn)), some (.int (oi pq)), some (.int (oi ot)), none, none, none, none, none]) rfl ?_
  have e5M := e5
  have hV0 := hV.1
  have hm := lkM_ok hV (q := pq) hs0 hs1 hot.1 hot.2
  refine g_aload_n (pc := 0) E dX6_looks_0 (i := 0) rfl rfl ?_
  refine g_iconst (pc := 1) E dX6_looks_1 rfl ?_
  refine g_puti (i := 184) (t := 6) (f := 18) (fz := 18) (pc := 2) E dX6_looks_2 fl_X6_123 rfl (by decide) (by decide) rfl rfl ?_ 
  refine g_aload_n (pc := 5) E dX6_looks_5 (i := 0) rfl rfl ?_
  refine g_iconst (pc := 6) E dX6_looks_6 rfl ?_
  refine g_puti (i := 184) (t := 6) (f := 19) (fz := 19) (pc := 7) E dX6_looks_7 fl_X6_126 rfl (by decide) (by decide) rfl rfl ?_ 
  refine g_iconst (pc := 10) E dX6_looks_10 rfl ?_
  refine g_istore (pc := 11) E dX6_looks_11 (ls' := [_, _, _, _, _, _, _, _, _]) (Nat.le_of_ble_eq_true rfl) rfl ?_
  have LP13 : ∀ (n : Nat) (N : Mem) (x : Int), S 6 - x < (n : Int) → 0 ≤ x → x ≤ S 6 → LKf M N → (∀ j, 0 ≤ j → j < x → N 191 j = lkM S sn pq ot j) → N 184 18 = 0 → N 184 19 = 0 → G cx Pg Lc Ev (rmD 9 0 0) s m args below meth c (MQ below (QV cx (fun M' => LK S (lkM S sn pq ot) M M')) args s 0 0 (cA0 cx)) 13 [some (rf cx 184), some (.int (oi sn)), some (.int (oi pq)), some (.int (oi ot)), some (.int (oi x)), none, none, none, none] [] (N) 0 0 := by
    intro n
    induction n with
    | zero => intro N x hn hx0 hx1 hf hmk h18 h19; exact absurd hn (by omega)
    | succ n ih13 =>
      intro N x hn hx0 hx1 hf hmk h18 h19
      have e5 : N 185 = S := (hf.1 185 (by decide) (by decide) (by decide) (by decide) (by decide)).trans e5M
      have hmx := fun h => mkS_R hV hs0 hs1 hx0 (show x < S 6 from h)
      refine g_iload (pc := 13) E dX6_looks_13 rfl ?_
      refine g_aload_n (pc := 15) E dX6_looks_15 (i := 0) rfl rfl ?_
      refine g_getr (i := 184) (j := 185) (t := 6) (f := 0) (pc := 16) E dX6_looks_16 fl_X6_9 rfl (by decide) (by decide) rfl rfl ?_
      refine g_bipush (pc := 19) E dX6_looks_19 rfl ?_
      refine g_iald (pc := 21) E dX6_looks_21 rfl (by omega) (by omega) (congrFun e5 _) (fun _ _ => ?_)
      refine g_icmp_ge (pc := 22) (tgt := 55) E dX6_looks_22 (by decide) (fun qh22 => ?_) (fun qh22 => ?_) 
      · refine g_iconst (pc := 55) E dX6_looks_55 rfl ?_
        refine g_istore (pc := 56) E dX6_looks_56 (ls' := [_, _, _, _, _, _, _, _, _]) (Nat.le_of_ble_eq_true rfl) rfl ?_
        have LP58 : ∀ (n : Nat) (N : Mem) (x : Int), S 5 - x < (n : Int) → 0 ≤ x → x ≤ S 5 → LKf M N → (∀ j, 0 ≤ j → j < S 6 → N 191 j = lkM S sn pq ot j) → N 184 18 = 0 → N 184 19 = 0 → (∀ j, 0 ≤ j → j < x → N 193 j = inS S (lkM S sn pq ot) j) → (∀ j, 0 ≤ j → j < x → N 194 j = bi (0 ≤ inS S (lkM S sn pq ot) j)) → G cx Pg Lc Ev (rmD 9 0 0) s m args below meth c (MQ below (QV cx (fun M' => LK S (lkM S sn pq ot) M M')) args s 0 0 (cA0 cx)) 58 [some (rf cx 184), none, none, none, some (.int (oi x)), none, none, none, none] [] (N) 0 0 := by
          intro n
          induction n with
          | zero => intro N x hn hx0 hx1 hf hmk h18 h19 h193 h194; exact absurd hn (by omega)
          | succ n ih58 =>
            intro N x hn hx0 hx1 hf hmk h18 h19 h193 h194
            have e5 : N 185 = S := (hf.1 185 (by decide) (by decide) (by decide) (by decide) (by decide)).trans e5M
            
            refine g_iload (pc := 58) E dX6_looks_58 rfl ?_
            refine g_aload_n (pc := 60) E dX6_looks_60 (i := 0) rfl rfl ?_
            refine g_getr (i := 184) (j := 185) (t := 6) (f := 0) (pc := 61) E dX6_looks_61 fl_X6_9 rfl (by decide) (by decide) rfl rfl ?_
            refine g_iconst (pc := 64) E dX6_looks_64 rfl ?_
            refine g_iald (pc := 65) E dX6_looks_65 rfl (by omega) (by omega) (congrFun e5 _) (fun _ _ => ?_)
            refine g_icmp_ge (pc := 66) (tgt := 215) E dX6_looks_66 (by decide) (fun qh66 => ?_) (fun qh66 => ?_) 
            · refine g_iconst (pc := 215) E dX6_looks_215 rfl ?_
              refine g_istore (pc := 216) E dX6_looks_216 (ls' := [_, _, _, _, _, _, _, _, _]) (Nat.le_of_ble_eq_true rfl) rfl ?_
              have LP218 : ∀ (n : Nat) (N : Mem) (x : Int), S 6 - x < (n : Int) → 0 ≤ x → x ≤ S 6 → LQ S (lkM S sn pq ot) M x N → G cx Pg Lc Ev (rmD 9 0 0) s m args below meth c (MQ below (QV cx (fun M' => LK S (lkM S sn pq ot) M M')) args s 0 0 (cA0 cx)) 218 [some (rf cx 184), none, none, none, some (.int (oi x)), none, none, none, none] [] (N) 0 0 := by
                intro n
                induction n with
                | zero => intro N x hn hx0 hx1 hq; exact absurd hn (by omega)
                | succ n ih218 =>
                  intro N x hn hx0 hx1 hq
                  have hf := hq.1
                  have e5 : N 185 = S := (hf.1 185 (by decide) (by decide) (by decide) (by decide) (by decide)).trans e5M
                  have hmk := hq.2.1
                  have h193 := hq.2.2.1
                  have h18 := hq.2.2.2.2.2.1
                  have h19 := hq.2.2.2.2.2.2
                  have hcR := cmpS_R S (lkM S sn pq ot) hx0
                  refine g_iload (pc := 218) E dX6_looks_218 rfl ?_
                  refine g_aload_n (pc := 220) E dX6_looks_220 (i := 0) rfl rfl ?_
                  refine g_getr (i := 184) (j := 185) (t := 6) (f := 0) (pc := 221) E dX6_looks_221 fl_X6_9 rfl (by decide) (by decide) rfl rfl ?_
                  refine g_bipush (pc := 224) E dX6_looks_224 rfl ?_
                  refine g_iald (pc := 226) E dX6_looks_226 rfl (by omega) (by omega) (congrFun e5 _) (fun _ _ => ?_)
                  refine g_icmp_ge (pc := 227) (tgt := 385) E dX6_looks_227 (by decide) (fun qh227 => ?_) (fun qh227 => ?_) 
                  · refine g_aload_n (pc := 385) E dX6_looks_385 (i := 0) rfl rfl ?_
                    refine g_callVv (pc := 386) (As := []) E dX6_looks_386 ml_X6_132 (cv_grades e5 hV hm (fun p h0 h1 => hq.2.2.2.1 p h0 (by omega)) h193) rfl rfl rfl rfl (by decide) (by decide) rfl (Nat.le_of_ble_eq_true rfl) (by decide) (fun M386 hM386 => ?_)
                    refine g_vret (pc := 389) E hr dX6_looks_389 ?_
                    exact LQ_end hq (by omega) hM386
                  · have hVp := hV.2.2.1 x (by omega) (by omega)
                    have hmx := hm x (by omega) (by omega)
                    have hiR := inS_R hV hm (S (13 + 3 * x))
                    have hfR := sz_R (f := f3 S (lkM S sn pq ot)) (a := 0) (b := 1) hx0 (fun j _ _ => by unfold f3; split <;> omega)
                    refine g_aload_n (pc := 230) E dX6_looks_230 (i := 0) rfl rfl ?_
                    refine g_iload (pc := 231) E dX6_looks_231 rfl ?_
                    refine g_iconst (pc := 233) E dX6_looks_233 rfl ?_
                    refine g_callV (pc := 234) (As := [_, _]) E dX6_looks_234 ml_X6_87 (ct_of e5 (e := 13 + 3 * x) (by omega) (by omega) (by omega) (by omega) (by omega)) rfl rfl rfl rfl (by decide) (by decide) rfl (Nat.le_of_ble_eq_true rfl) (by decide) (fun x234 M234 hM234 => ?_)
                    obtain ⟨rfl, rfl⟩ := hM234
                    refine g_istore (pc := 237) E dX6_looks_237 (ls' := [_, _, _, _, _, _, _, _, _]) (Nat.le_of_ble_eq_true rfl) rfl ?_
                    refine g_aload_n (pc := 239) E dX6_looks_239 (i := 0) rfl rfl ?_
                    refine g_getr (i := 184) (j := 192) (t := 6) (f := 15) (pc := 240) E dX6_looks_240 fl_X6_31 rfl (by decide) (by decide) rfl rfl ?_
                    refine g_iload (pc := 243) E dX6_looks_243 rfl ?_
                    refine g_aload_n (pc := 245) E dX6_looks_245 (i := 0) rfl rfl ?_
                    refine g_getr (i := 184) (j := 191) (t := 6) (f := 14) (pc := 246) E dX6_looks_246 fl_X6_28 rfl (by decide) (by decide) rfl rfl ?_
                    refine g_iload (pc := 249) E dX6_looks_249 rfl ?_
                    refine g_iald (pc := 251) E dX6_looks_251 rfl (by omega) (by omega) (hmk x (by omega) (by omega)) (fun _ _ => ?_)
                    refine g_if_ge (pc := 252) (tgt := 259) E dX6_looks_252 (by decide) (fun qh252 => ?_) (fun qh252 => ?_) 
                    · refine g_aload_n (pc := 259) E dX6_looks_259 (i := 0) rfl rfl ?_
                      refine g_getr (i := 184) (j := 191) (t := 6) (f := 14) (pc := 260) E dX6_looks_260 fl_X6_28 rfl (by decide) (by decide) rfl rfl ?_
                      refine g_iload (pc := 263) E dX6_looks_263 rfl ?_
                      refine g_iald (pc := 265) E dX6_looks_265 rfl (by omega) (by omega) (hmk x (by omega) (by omega)) (fun _ _ => ?_)
                      refine g_aload_n (pc := 266) E dX6_looks_266 (i := 0) rfl rfl ?_
                      refine g_getr (i := 184) (j := 185) (t := 6) (f := 0) (pc := 267) E dX6_looks_267 fl_X6_9 rfl (by decide) (by decide) rfl rfl ?_
                      refine g_iconst (pc := 270) E dX6_looks_270 rfl ?_
                      refine g_iald (pc := 271) E dX6_looks_271 rfl (by omega) (by omega) (congrFun e5 _) (fun _ _ => ?_)
                      refine g_icmp_lt (pc := 272) (tgt := 279) E dX6_looks_272 (by decide) (fun qh272 => ?_) (fun qh272 => ?_) 
                      · refine g_iconst (pc := 279) E dX6_looks_279 rfl ?_
                        refine g_iast (pc := 280) E dX6_looks_280 rfl (by omega) (by omega) ?_ 
                        refine g_aload_n (pc := 281) E dX6_looks_281 (i := 0) rfl rfl ?_
                        refine g_getr (i := 184) (j := 192) (t := 6) (f := 15) (pc := 282) E dX6_looks_282 fl_X6_31 rfl (by decide) (by decide) rfl rfl ?_
                        refine g_iload (pc := 285) E dX6_looks_285 rfl ?_
                        refine g_iald (pc := 287) E dX6_looks_287 rfl (by omega) (by omega) (st_self _ _ _ _) (fun _ _ => ?_)
                        refine g_iconst (pc := 288) E dX6_looks_288 rfl ?_
                        refine g_icmp_eq (pc := 289) (tgt := 295) E dX6_looks_289 (by decide) (fun qh289 => ?_) (fun qh289 => absurd qh289 (by omega)) 
                        refine g_aload_n (pc := 295) E dX6_looks_295 (i := 0) rfl rfl ?_
                        refine g_getr (i := 184) (j := 191) (t := 6) (f := 14) (pc := 296) E dX6_looks_296 fl_X6_28 rfl (by decide) (by decide) rfl rfl ?_
                        refine g_iload (pc := 299) E dX6_looks_299 rfl ?_
                        refine g_iald (pc := 301) E dX6_looks_301 rfl (by omega) (by omega) (hmk x (by omega) (by omega)) (fun _ _ => ?_)
                        refine g_aload_n (pc := 302) E dX6_looks_302 (i := 0) rfl rfl ?_
                        refine g_getr (i := 184) (j := 185) (t := 6) (f := 0) (pc := 303) E dX6_looks_303 fl_X6_9 rfl (by decide) (by decide) rfl rfl ?_
                        refine g_iconst (pc := 306) E dX6_looks_306 rfl ?_
                        refine g_iald (pc := 307) E dX6_looks_307 rfl (by omega) (by omega) (congrFun e5 _) (fun _ _ => ?_)
                        refine g_icmp_lt (pc := 308) (tgt := 361) E dX6_looks_308 (by decide) (fun qh308 => ?_) (fun qh308 => ?_) 
                        · refine g_aload_n (pc := 361) E dX6_looks_361 (i := 0) rfl rfl ?_
                          refine g_dup (pc := 362) E dX6_looks_362 rfl ?_
                          refine g_geti (i := 184) (t := 6) (f := 19) (fz := 19) (pc := 363) E dX6_looks_363 fl_X6_126 rfl (by decide) (by decide) rfl rfl h19 (fun _ _ => ?_)
                          refine g_iconst (pc := 366) E dX6_looks_366 rfl ?_
                          refine g_iadd (pc := 367) E dX6_looks_367 ?_
                          refine g_puti (i := 184) (t := 6) (f := 19) (fz := 19) (pc := 368) E dX6_looks_368 fl_X6_126 rfl (by decide) (by decide) rfl rfl ?_ 
                          refine g_aload_n (pc := 371) E dX6_looks_371 (i := 0) rfl rfl ?_
                          refine g_getr (i := 184) (j := 194) (t := 6) (f := 17) (pc := 372) E dX6_looks_372 fl_X6_37 rfl (by decide) (by decide) rfl rfl ?_
                          refine g_iload (pc := 375) E dX6_looks_375 rfl ?_
                          refine g_iconst (pc := 377) E dX6_looks_377 rfl ?_
                          refine g_zast (pc := 378) E dX6_looks_378 rfl (by omega) (by omega) (by omega) ?_
                          refine g_iinc (pc := 379) E dX6_looks_379 (ls' := [_, _, _, _, _, _, _, _, _]) rfl rfl rfl ?_
                          refine g_goto (pc := 382) (tgt := 218) E dX6_looks_382 (by decide) ?_
                          exact g_wk2 (ih218 _ (x + 1) (by omega) (by omega) (by omega) (LQ_f hx0 hq (by rw [stA, stS, if_neg (by omega), if_neg (by omega), if_neg (by omega)]) rfl)) ⟨rfl, rfl, trivial⟩
                        · refine g_aload_n (pc := 311) E dX6_looks_311 (i := 0) rfl rfl ?_
                          refine g_getr (i := 184) (j := 193) (t := 6) (f := 16) (pc := 312) E dX6_looks_312 fl_X6_34 rfl (by decide) (by decide) rfl rfl ?_
                          refine g_iload (pc := 315) E dX6_looks_315 rfl ?_
                          refine g_iald (pc := 317) E dX6_looks_317 rfl (by omega) (by omega) (h193 (S (13 + 3 * x)) (by omega) (by omega)) (fun _ _ => ?_)
                          refine g_aload_n (pc := 318) E dX6_looks_318 (i := 0) rfl rfl ?_
                          refine g_getr (i := 184) (j := 185) (t := 6) (f := 0) (pc := 319) E dX6_looks_319 fl_X6_9 rfl (by decide) (by decide) rfl rfl ?_
                          refine g_iconst (pc := 322) E dX6_looks_322 rfl ?_
                          refine g_iald (pc := 323) E dX6_looks_323 rfl (by omega) (by omega) (congrFun e5 _) (fun _ _ => ?_)
                          refine g_icmp_lt (pc := 324) (tgt := 361) E dX6_looks_324 (by decide) (fun qh324 => ?_) (fun qh324 => ?_) 
                          · refine g_aload_n (pc := 361) E dX6_looks_361 (i := 0) rfl rfl ?_
                            refine g_dup (pc := 362) E dX6_looks_362 rfl ?_
                            refine g_geti (i := 184) (t := 6) (f := 19) (fz := 19) (pc := 363) E dX6_looks_363 fl_X6_126 rfl (by decide) (by decide) rfl rfl h19 (fun _ _ => ?_)
                            refine g_iconst (pc := 366) E dX6_looks_366 rfl ?_
                            refine g_iadd (pc := 367) E dX6_looks_367 ?_
                            refine g_puti (i := 184) (t := 6) (f := 19) (fz := 19) (pc := 368) E dX6_looks_368 fl_X6_126 rfl (by decide) (by decide) rfl rfl ?_ 
                            refine g_aload_n (pc := 371) E dX6_looks_371 (i := 0) rfl rfl ?_
                            refine g_getr (i := 184) (j := 194) (t := 6) (f := 17) (pc := 372) E dX6_looks_372 fl_X6_37 rfl (by decide) (by decide) rfl rfl ?_
                            refine g_iload (pc := 375) E dX6_looks_375 rfl ?_
                            refine g_iconst (pc := 377) E dX6_looks_377 rfl ?_
                            refine g_zast (pc := 378) E dX6_looks_378 rfl (by omega) (by omega) (by omega) ?_
                            refine g_iinc (pc := 379) E dX6_looks_379 (ls' := [_, _, _, _, _, _, _, _, _]) rfl rfl rfl ?_
                            refine g_goto (pc := 382) (tgt := 218) E dX6_looks_382 (by decide) ?_
                            exact g_wk2 (ih218 _ (x + 1) (by omega) (by omega) (by omega) (LQ_f hx0 hq (by rw [stA, stS, if_neg (by omega), if_neg (by omega), if_neg (by omega)]) rfl)) ⟨rfl, rfl, trivial⟩
                          · refine g_aload_n (pc := 327) E dX6_looks_327 (i := 0) rfl rfl ?_
                            refine g_geti (i := 184) (t := 6) (f := 18) (fz := 18) (pc := 328) E dX6_looks_328 fl_X6_123 rfl (by decide) (by decide) rfl rfl h18 (fun _ _ => ?_)
                            refine g_aload_n (pc := 331) E dX6_looks_331 (i := 0) rfl rfl ?_
                            refine g_getr (i := 184) (j := 185) (t := 6) (f := 0) (pc := 332) E dX6_looks_332 fl_X6_9 rfl (by decide) (by decide) rfl rfl ?_
                            refine g_iconst (pc := 335) E dX6_looks_335 rfl ?_
                            refine g_iald (pc := 336) E dX6_looks_336 rfl (by omega) (by omega) (congrFun e5 _) (fun _ _ => ?_)
                            refine g_icmp_ge (pc := 337) (tgt := 361) E dX6_looks_337 (by decide) (fun qh337 => ?_) (fun qh337 => ?_) 
                            · refine g_aload_n (pc := 361) E dX6_looks_361 (i := 0) rfl rfl ?_
                              refine g_dup (pc := 362) E dX6_looks_362 rfl ?_
                              refine g_geti (i := 184) (t := 6) (f := 19) (fz := 19) (pc := 363) E dX6_looks_363 fl_X6_126 rfl (by decide) (by decide) rfl rfl h19 (fun _ _ => ?_)
                              refine g_iconst (pc := 366) E dX6_looks_366 rfl ?_
                              refine g_iadd (pc := 367) E dX6_looks_367 ?_
                              refine g_puti (i := 184) (t := 6) (f := 19) (fz := 19) (pc := 368) E dX6_looks_368 fl_X6_126 rfl (by decide) (by decide) rfl rfl ?_ 
                              refine g_aload_n (pc := 371) E dX6_looks_371 (i := 0) rfl rfl ?_
                              refine g_getr (i := 184) (j := 194) (t := 6) (f := 17) (pc := 372) E dX6_looks_372 fl_X6_37 rfl (by decide) (by decide) rfl rfl ?_
                              refine g_iload (pc := 375) E dX6_looks_375 rfl ?_
                              refine g_iconst (pc := 377) E dX6_looks_377 rfl ?_
                              refine g_zast (pc := 378) E dX6_looks_378 rfl (by omega) (by omega) (by omega) ?_
                              refine g_iinc (pc := 379) E dX6_looks_379 (ls' := [_, _, _, _, _, _, _, _, _]) rfl rfl rfl ?_
                              refine g_goto (pc := 382) (tgt := 218) E dX6_looks_382 (by decide) ?_
                              exact g_wk2 (ih218 _ (x + 1) (by omega) (by omega) (by omega) (LQ_f hx0 hq (by rw [stA, stS, if_neg (by omega), if_neg (by omega), if_neg (by omega)]) rfl)) ⟨rfl, rfl, trivial⟩
                            · refine g_aload_n (pc := 340) E dX6_looks_340 (i := 0) rfl rfl ?_
                              refine g_getr (i := 184) (j := 192) (t := 6) (f := 15) (pc := 341) E dX6_looks_341 fl_X6_31 rfl (by decide) (by decide) rfl rfl ?_
                              refine g_iload (pc := 344) E dX6_looks_344 rfl ?_
                              refine g_iconst (pc := 346) E dX6_looks_346 rfl ?_
                              refine g_iast (pc := 347) E dX6_looks_347 rfl (by omega) (by omega) ?_ 
                              refine g_aload_n (pc := 348) E dX6_looks_348 (i := 0) rfl rfl ?_
                              refine g_dup (pc := 349) E dX6_looks_349 rfl ?_
                              refine g_geti (i := 184) (t := 6) (f := 18) (fz := 18) (pc := 350) E dX6_looks_350 fl_X6_123 rfl (by decide) (by decide) rfl rfl h18 (fun _ _ => ?_)
                              refine g_iconst (pc := 353) E dX6_looks_353 rfl ?_
                              refine g_iadd (pc := 354) E dX6_looks_354 ?_
                              refine g_puti (i := 184) (t := 6) (f := 18) (fz := 18) (pc := 355) E dX6_looks_355 fl_X6_123 rfl (by decide) (by decide) rfl rfl ?_ 
                              refine g_goto (pc := 358) (tgt := 379) E dX6_looks_358 (by decide) ?_
                              refine g_iinc (pc := 379) E dX6_looks_379 (ls' := [_, _, _, _, _, _, _, _, _]) rfl rfl rfl ?_
                              refine g_goto (pc := 382) (tgt := 218) E dX6_looks_382 (by decide) ?_
                              exact g_wk2 (ih218 _ (x + 1) (by omega) (by omega) (by omega) (LQ_c hx0 hq (by rw [stA, stS, if_neg (by omega), if_neg (by omega), if_pos (by omega)]))) ⟨rfl, rfl, trivial⟩
                      · refine g_iconst (pc := 275) E dX6_looks_275 rfl ?_
                        refine g_goto (pc := 276) (tgt := 280) E dX6_looks_276 (by decide) ?_
                        refine g_iast (pc := 280) E dX6_looks_280 rfl (by omega) (by omega) ?_ 
                        refine g_aload_n (pc := 281) E dX6_looks_281 (i := 0) rfl rfl ?_
                        refine g_getr (i := 184) (j := 192) (t := 6) (f := 15) (pc := 282) E dX6_looks_282 fl_X6_31 rfl (by decide) (by decide) rfl rfl ?_
                        refine g_iload (pc := 285) E dX6_looks_285 rfl ?_
                        refine g_iald (pc := 287) E dX6_looks_287 rfl (by omega) (by omega) (st_self _ _ _ _) (fun _ _ => ?_)
                        refine g_iconst (pc := 288) E dX6_looks_288 rfl ?_
                        refine g_icmp_eq (pc := 289) (tgt := 295) E dX6_looks_289 (by decide) (fun qh289 => absurd qh289 (by omega)) (fun qh289 => ?_) 
                        refine g_goto (pc := 292) (tgt := 379) E dX6_looks_292 (by decide) ?_
                        refine g_iinc (pc := 379) E dX6_looks_379 (ls' := [_, _, _, _, _, _, _, _, _]) rfl rfl rfl ?_
                        refine g_goto (pc := 382) (tgt := 218) E dX6_looks_382 (by decide) ?_
                        exact g_wk2 (ih218 _ (x + 1) (by omega) (by omega) (by omega) (LQ_z hx0 hq (by rw [stA, stS, if_neg (by omega), if_pos (by omega)]) (by rw [stA, stS, if_neg (by omega), if_pos (by omega)]; decide) (by rw [stA, stS, if_neg (by omega), if_pos (by omega)]; decide))) ⟨rfl, rfl, trivial⟩
                    · refine g_iconst (pc := 255) E dX6_looks_255 rfl ?_
                      refine g_goto (pc := 256) (tgt := 280) E dX6_looks_256 (by decide) ?_
                      refine g_iast (pc := 280) E dX6_looks_280 rfl (by omega) (by omega) ?_ 
                      refine g_aload_n (pc := 281) E dX6_looks_281 (i := 0) rfl rfl ?_
                      refine g_getr (i := 184) (j := 192) (t := 6) (f := 15) (pc := 282) E dX6_looks_282 fl_X6_31 rfl (by decide) (by decide) rfl rfl ?_
                      refine g_iload (pc := 285) E dX6_looks_285 rfl ?_
                      refine g_iald (pc := 287) E dX6_looks_287 rfl (by omega) (by omega) (st_self _ _ _ _) (fun _ _ => ?_)
                      refine g_iconst (pc := 288) E dX6_looks_288 rfl ?_
                      refine g_icmp_eq (pc := 289) (tgt := 295) E dX6_looks_289 (by decide) (fun qh289 => absurd qh289 (by omega)) (fun qh289 => ?_) 
                      refine g_goto (pc := 292) (tgt := 379) E dX6_looks_292 (by decide) ?_
                      refine g_iinc (pc := 379) E dX6_looks_379 (ls' := [_, _, _, _, _, _, _, _, _]) rfl rfl rfl ?_
                      refine g_goto (pc := 382) (tgt := 218) E dX6_looks_382 (by decide) ?_
                      exact g_wk2 (ih218 _ (x + 1) (by omega) (by omega) (by omega) (LQ_z hx0 hq (by rw [stA, stS, if_pos (by omega)]) (by rw [stA, stS, if_pos (by omega)]; decide) (by rw [stA, stS, if_pos (by omega)]; decide))) ⟨rfl, rfl, trivial⟩
              exact g_wk2 (LP218 (S 6 + 1).toNat N 0 (by omega) (by omega) (by omega) ⟨hf, hmk, by rw [show x = S 5 by omega] at h193; exact h193, fun j h0 h1 => by omega, fun j h0 h1 => by rw [h194 j h0 (by omega)]; exact bi_c (by rw [sz_0]; omega), h18, h19⟩) ⟨rfl, rfl, trivial⟩
            · refine g_iconst (pc := 69) E dX6_looks_69 rfl ?_
              refine g_istore (pc := 70) E dX6_looks_70 (ls' := [_, _, _, _, _, _, _, _, _]) (Nat.le_of_ble_eq_true rfl) rfl ?_
              refine g_iconst (pc := 72) E dX6_looks_72 rfl ?_
              refine g_istore (pc := 73) E dX6_looks_73 (ls' := [_, _, _, _, _, _, _, _, _]) (Nat.le_of_ble_eq_true rfl) rfl ?_
              refine g_iconst (pc := 75) E dX6_looks_75 rfl ?_
              refine g_istore (pc := 76) E dX6_looks_76 (ls' := [_, _, _, _, _, _, _, _, _]) (Nat.le_of_ble_eq_true rfl) rfl ?_
              refine g_iconst (pc := 78) E dX6_looks_78 rfl ?_
              refine g_istore (pc := 79) E dX6_looks_79 (ls' := [_, _, _, _, _, _, _, _, _]) (Nat.le_of_ble_eq_true rfl) rfl ?_
              have LP81 : ∀ (n : Nat) (y w v al : Int), S 6 - y < (n : Int) → 0 ≤ y → y ≤ S 6 → w = sz (wF S (lkM S sn pq ot) x) y → v = sz (vF S x) y → al = bi (sz (nF S (lkM S sn pq ot) x) y = 0) → G cx Pg Lc Ev (rmD 9 0 0) s m args below meth c (MQ below (QV cx (fun M' => LK S (lkM S sn pq ot) M M')) args s 0 0 (cA0 cx)) 81 [some (rf cx 184), none, none, none, some (.int (oi x)), some (.int (oi w)), some (.int (oi v)), some (.int (oi al)), some (.int (oi y))] [] (N) 0 0 := by
                intro n
                induction n with
                | zero => intro y w v al hny hy0 hy1 hw hv hal; exact absurd hny (by omega)
                | succ n ih81 =>
                  intro y w v al hny hy0 hy1 hw hv hal
                  have hwR := wF_R hV hm x hy0 hy1
                  have hvR := vF_R hV x hy0 hy1
                  have hnR := nF_R (mk := (lkM S sn pq ot)) hV x hy0 hy1
                  have halR := bi_R (sz (nF S (lkM S sn pq ot) x) y = 0)
                  refine g_iload (pc := 81) E dX6_looks_81 rfl ?_
                  refine g_aload_n (pc := 83) E dX6_looks_83 (i := 0) rfl rfl ?_
                  refine g_getr (i := 184) (j := 185) (t := 6) (f := 0) (pc := 84) E dX6_looks_84 fl_X6_9 rfl (by decide) (by decide) rfl rfl ?_
                  refine g_bipush (pc := 87) E dX6_looks_87 rfl ?_
                  refine g_iald (pc := 89) E dX6_looks_89 rfl (by omega) (by omega) (congrFun e5 _) (fun _ _ => ?_)
                  refine g_icmp_ge (pc := 90) (tgt := 159) E dX6_looks_90 (by decide) (fun qh90 => ?_) (fun qh90 => ?_) 
                  · obtain rfl : y = S 6 := by omega
                    refine g_aload_n (pc := 159) E dX6_looks_159 (i := 0) rfl rfl ?_
                    refine g_getr (i := 184) (j := 193) (t := 6) (f := 16) (pc := 160) E dX6_looks_160 fl_X6_34 rfl (by decide) (by decide) rfl rfl ?_
                    refine g_iload (pc := 163) E dX6_looks_163 rfl ?_
                    refine g_iload (pc := 165) E dX6_looks_165 rfl ?_
                    refine g_if_eq (pc := 167) (tgt := 185) E dX6_looks_167 (by decide) (fun qh167 => ?_) (fun qh167 => ?_) 
                    · refine g_iconst (pc := 185) E dX6_looks_185 rfl ?_
                      have hz := bi_0.mp (hal.symm.trans qh167)
                      refine g_top (b := inS S (lkM S sn pq ot) x) (by rw [inS, if_neg (by omega)]) ?_
                      have hiR := inS_R hV hm x
                      refine g_iast (pc := 186) E dX6_looks_186 rfl (by omega) (by omega) ?_ 
                      refine g_aload_n (pc := 187) E dX6_looks_187 (i := 0) rfl rfl ?_
                      refine g_getr (i := 184) (j := 194) (t := 6) (f := 17) (pc := 188) E dX6_looks_188 fl_X6_37 rfl (by decide) (by decide) rfl rfl ?_
                      refine g_iload (pc := 191) E dX6_looks_191 rfl ?_
                      refine g_aload_n (pc := 193) E dX6_looks_193 (i := 0) rfl rfl ?_
                      refine g_getr (i := 184) (j := 193) (t := 6) (f := 16) (pc := 194) E dX6_looks_194 fl_X6_34 rfl (by decide) (by decide) rfl rfl ?_
                      refine g_iload (pc := 197) E dX6_looks_197 rfl ?_
                      refine g_iald (pc := 199) E dX6_looks_199 rfl (by omega) (by omega) (st_self _ _ _ _) (fun _ _ => ?_)
                      refine g_if_lt (pc := 200) (tgt := 207) E dX6_looks_200 (by decide) (fun qh200 => ?_) (fun qh200 => ?_) 
                      · refine g_iconst (pc := 207) E dX6_looks_207 rfl ?_
                        refine g_zast (pc := 208) E dX6_looks_208 rfl (by omega) (by omega) (by omega) ?_
                        refine g_iinc (pc := 209) E dX6_looks_209 (ls' := [_, _, _, _, _, _, _, _, _]) rfl rfl rfl ?_
                        refine g_goto (pc := 212) (tgt := 58) E dX6_looks_212 (by decide) ?_
                        exact g_wk2 (ih58 (st (st N 193 x (inS S (lkM S sn pq ot) x)) 194 x 0) (x + 1) (by omega) (by omega) (by omega) ((hf.row 193 (Or.inr (Or.inr (Or.inl rfl)))).row 194 (Or.inr (Or.inr (Or.inr rfl)))) hmk h18 h19 (row_ext h193 rfl) (row_ext h194 (bi_f (by omega)).symm)) ⟨rfl, rfl, trivial⟩
                      · refine g_iconst (pc := 203) E dX6_looks_203 rfl ?_
                        refine g_goto (pc := 204) (tgt := 208) E dX6_looks_204 (by decide) ?_
                        refine g_zast (pc := 208) E dX6_looks_208 rfl (by omega) (by omega) (by omega) ?_
                        refine g_iinc (pc := 209) E dX6_looks_209 (ls' := [_, _, _, _, _, _, _, _, _]) rfl rfl rfl ?_
                        refine g_goto (pc := 212) (tgt := 58) E dX6_looks_212 (by decide) ?_
                        exact g_wk2 (ih58 (st (st N 193 x (inS S (lkM S sn pq ot) x)) 194 x 1) (x + 1) (by omega) (by omega) (by omega) ((hf.row 193 (Or.inr (Or.inr (Or.inl rfl)))).row 194 (Or.inr (Or.inr (Or.inr rfl)))) hmk h18 h19 (row_ext h193 rfl) (row_ext h194 (bi_t (by omega)).symm)) ⟨rfl, rfl, trivial⟩
                    · refine g_iload (pc := 170) E dX6_looks_170 rfl ?_
                      refine g_if_le (pc := 172) (tgt := 185) E dX6_looks_172 (by decide) (fun qh172 => ?_) (fun qh172 => ?_) 
                      · refine g_iconst (pc := 185) E dX6_looks_185 rfl ?_
                        refine g_top (b := inS S (lkM S sn pq ot) x) (by rw [inS, if_neg (by omega)]) ?_
                        have hiR := inS_R hV hm x
                        refine g_iast (pc := 186) E dX6_looks_186 rfl (by omega) (by omega) ?_ 
                        refine g_aload_n (pc := 187) E dX6_looks_187 (i := 0) rfl rfl ?_
                        refine g_getr (i := 184) (j := 194) (t := 6) (f := 17) (pc := 188) E dX6_looks_188 fl_X6_37 rfl (by decide) (by decide) rfl rfl ?_
                        refine g_iload (pc := 191) E dX6_looks_191 rfl ?_
                        refine g_aload_n (pc := 193) E dX6_looks_193 (i := 0) rfl rfl ?_
                        refine g_getr (i := 184) (j := 193) (t := 6) (f := 16) (pc := 194) E dX6_looks_194 fl_X6_34 rfl (by decide) (by decide) rfl rfl ?_
                        refine g_iload (pc := 197) E dX6_looks_197 rfl ?_
                        refine g_iald (pc := 199) E dX6_looks_199 rfl (by omega) (by omega) (st_self _ _ _ _) (fun _ _ => ?_)
                        refine g_if_lt (pc := 200) (tgt := 207) E dX6_looks_200 (by decide) (fun qh200 => ?_) (fun qh200 => ?_) 
                        · refine g_iconst (pc := 207) E dX6_looks_207 rfl ?_
                          refine g_zast (pc := 208) E dX6_looks_208 rfl (by omega) (by omega) (by omega) ?_
                          refine g_iinc (pc := 209) E dX6_looks_209 (ls' := [_, _, _, _, _, _, _, _, _]) rfl rfl rfl ?_
                          refine g_goto (pc := 212) (tgt := 58) E dX6_looks_212 (by decide) ?_
                          exact g_wk2 (ih58 (st (st N 193 x (inS S (lkM S sn pq ot) x)) 194 x 0) (x + 1) (by omega) (by omega) (by omega) ((hf.row 193 (Or.inr (Or.inr (Or.inl rfl)))).row 194 (Or.inr (Or.inr (Or.inr rfl)))) hmk h18 h19 (row_ext h193 rfl) (row_ext h194 (bi_f (by omega)).symm)) ⟨rfl, rfl, trivial⟩
                        · refine g_iconst (pc := 203) E dX6_looks_203 rfl ?_
                          refine g_goto (pc := 204) (tgt := 208) E dX6_looks_204 (by decide) ?_
                          refine g_zast (pc := 208) E dX6_looks_208 rfl (by omega) (by omega) (by omega) ?_
                          refine g_iinc (pc := 209) E dX6_looks_209 (ls' := [_, _, _, _, _, _, _, _, _]) rfl rfl rfl ?_
                          refine g_goto (pc := 212) (tgt := 58) E dX6_looks_212 (by decide) ?_
                          exact g_wk2 (ih58 (st (st N 193 x (inS S (lkM S sn pq ot) x)) 194 x 1) (x + 1) (by omega) (by omega) (by omega) ((hf.row 193 (Or.inr (Or.inr (Or.inl rfl)))).row 194 (Or.inr (Or.inr (Or.inr rfl)))) hmk h18 h19 (row_ext h193 rfl) (row_ext h194 (bi_t (by omega)).symm)) ⟨rfl, rfl, trivial⟩
                      · have hz := bi_n.mp (by rw [← hal]; exact qh167)
                        have hwk := wS_ok hV hm x hz
                        refine g_iload (pc := 175) E dX6_looks_175 rfl ?_
                        refine g_iload (pc := 177) E dX6_looks_177 rfl ?_
                        refine g_callS (pc := 179) (As := [_, _]) E dX6_looks_179 ml_X6_94 (ct_nearest (by omega) (by omega) (by omega) (by omega)) rfl rfl (by decide) (by decide) rfl (Nat.le_of_ble_eq_true rfl) (by decide) (fun x179 M179 hM179 => ?_)
                        obtain ⟨rfl, rfl⟩ := hM179
                        refine g_goto (pc := 182) (tgt := 186) E dX6_looks_182 (by decide) ?_
                        refine g_top (b := inS S (lkM S sn pq ot) x) (by rw [inS, if_pos (by omega), hw, hv]) ?_
                        have hiR := inS_R hV hm x
                        refine g_iast (pc := 186) E dX6_looks_186 rfl (by omega) (by omega) ?_ 
                        refine g_aload_n (pc := 187) E dX6_looks_187 (i := 0) rfl rfl ?_
                        refine g_getr (i := 184) (j := 194) (t := 6) (f := 17) (pc := 188) E dX6_looks_188 fl_X6_37 rfl (by decide) (by decide) rfl rfl ?_
                        refine g_iload (pc := 191) E dX6_looks_191 rfl ?_
                        refine g_aload_n (pc := 193) E dX6_looks_193 (i := 0) rfl rfl ?_
                        refine g_getr (i := 184) (j := 193) (t := 6) (f := 16) (pc := 194) E dX6_looks_194 fl_X6_34 rfl (by decide) (by decide) rfl rfl ?_
                        refine g_iload (pc := 197) E dX6_looks_197 rfl ?_
                        refine g_iald (pc := 199) E dX6_looks_199 rfl (by omega) (by omega) (st_self _ _ _ _) (fun _ _ => ?_)
                        refine g_if_lt (pc := 200) (tgt := 207) E dX6_looks_200 (by decide) (fun qh200 => ?_) (fun qh200 => ?_) 
                        · refine g_iconst (pc := 207) E dX6_looks_207 rfl ?_
                          refine g_zast (pc := 208) E dX6_looks_208 rfl (by omega) (by omega) (by omega) ?_
                          refine g_iinc (pc := 209) E dX6_looks_209 (ls' := [_, _, _, _, _, _, _, _, _]) rfl rfl rfl ?_
                          refine g_goto (pc := 212) (tgt := 58) E dX6_looks_212 (by decide) ?_
                          exact g_wk2 (ih58 (st (st N 193 x (inS S (lkM S sn pq ot) x)) 194 x 0) (x + 1) (by omega) (by omega) (by omega) ((hf.row 193 (Or.inr (Or.inr (Or.inl rfl)))).row 194 (Or.inr (Or.inr (Or.inr rfl)))) hmk h18 h19 (row_ext h193 rfl) (row_ext h194 (bi_f (by omega)).symm)) ⟨rfl, rfl, trivial⟩
                        · refine g_iconst (pc := 203) E dX6_looks_203 rfl ?_
                          refine g_goto (pc := 204) (tgt := 208) E dX6_looks_204 (by decide) ?_
                          refine g_zast (pc := 208) E dX6_looks_208 rfl (by omega) (by omega) (by omega) ?_
                          refine g_iinc (pc := 209) E dX6_looks_209 (ls' := [_, _, _, _, _, _, _, _, _]) rfl rfl rfl ?_
                          refine g_goto (pc := 212) (tgt := 58) E dX6_looks_212 (by decide) ?_
                          exact g_wk2 (ih58 (st (st N 193 x (inS S (lkM S sn pq ot) x)) 194 x 1) (x + 1) (by omega) (by omega) (by omega) ((hf.row 193 (Or.inr (Or.inr (Or.inl rfl)))).row 194 (Or.inr (Or.inr (Or.inr rfl)))) hmk h18 h19 (row_ext h193 rfl) (row_ext h194 (bi_t (by omega)).symm)) ⟨rfl, rfl, trivial⟩
                  · have hVp := hV.2.2.1 y (by omega) (by omega)
                    have hmy := hm y (by omega) (by omega)
                    have hwt := wT hV hm x hy0 (show y < S 6 by omega)
                    refine g_aload_n (pc := 93) E dX6_looks_93 (i := 0) rfl rfl ?_
                    refine g_iload (pc := 94) E dX6_looks_94 rfl ?_
                    refine g_iconst (pc := 96) E dX6_looks_96 rfl ?_
                    refine g_callV (pc := 97) (As := [_, _]) E dX6_looks_97 ml_X6_87 (ct_of e5 (e := 13 + 3 * y) (by omega) (by omega) (by omega) (by omega) (by omega)) rfl rfl rfl rfl (by decide) (by decide) rfl (Nat.le_of_ble_eq_true rfl) (by decide) (fun x97 M97 hM97 => ?_)
                    obtain ⟨rfl, rfl⟩ := hM97
                    refine g_iload (pc := 100) E dX6_looks_100 rfl ?_
                    refine g_icmp_eq (pc := 102) (tgt := 108) E dX6_looks_102 (by decide) (fun qh102 => ?_) (fun qh102 => ?_) 
                    · refine g_aload_n (pc := 108) E dX6_looks_108 (i := 0) rfl rfl ?_
                      refine g_getr (i := 184) (j := 191) (t := 6) (f := 14) (pc := 109) E dX6_looks_109 fl_X6_28 rfl (by decide) (by decide) rfl rfl ?_
                      refine g_iload (pc := 112) E dX6_looks_112 rfl ?_
                      refine g_iald (pc := 114) E dX6_looks_114 rfl (by omega) (by omega) (hmk y (by omega) (by omega)) (fun _ _ => ?_)
                      refine g_if_ge (pc := 115) (tgt := 121) E dX6_looks_115 (by decide) (fun qh115 => ?_) (fun qh115 => ?_) 
                      · have hmul := mulR (a := lkM S sn pq ot y) (b := S (13 + 3 * y + 1)) (A := 100) (B := 9) (by omega) (by omega) (by omega) (by omega)
                        refine g_iload (pc := 121) E dX6_looks_121 rfl ?_
                        refine g_aload_n (pc := 123) E dX6_looks_123 (i := 0) rfl rfl ?_
                        refine g_getr (i := 184) (j := 191) (t := 6) (f := 14) (pc := 124) E dX6_looks_124 fl_X6_28 rfl (by decide) (by decide) rfl rfl ?_
                        refine g_iload (pc := 127) E dX6_looks_127 rfl ?_
                        refine g_iald (pc := 129) E dX6_looks_129 rfl (by omega) (by omega) (hmk y (by omega) (by omega)) (fun _ _ => ?_)
                        refine g_aload_n (pc := 130) E dX6_looks_130 (i := 0) rfl rfl ?_
                        refine g_iload (pc := 131) E dX6_looks_131 rfl ?_
                        refine g_iconst (pc := 133) E dX6_looks_133 rfl ?_
                        refine g_callV (pc := 134) (As := [_, _]) E dX6_looks_134 ml_X6_87 (ct_of e5 (e := 13 + 3 * y + 1) (by omega) (by omega) (by omega) (by omega) (by omega)) rfl rfl rfl rfl (by decide) (by decide) rfl (Nat.le_of_ble_eq_true rfl) (by decide) (fun x134 M134 hM134 => ?_)
                        obtain ⟨rfl, rfl⟩ := hM134
                        refine g_imul (pc := 137) E dX6_looks_137 ?_
                        refine g_iadd (pc := 138) E dX6_looks_138 ?_
                        refine g_istore (pc := 139) E dX6_looks_139 (ls' := [_, _, _, _, _, _, _, _, _]) (Nat.le_of_ble_eq_true rfl) rfl ?_
                        refine g_iload (pc := 141) E dX6_looks_141 rfl ?_
                        refine g_aload_n (pc := 143) E dX6_looks_143 (i := 0) rfl rfl ?_
                        refine g_iload (pc := 144) E dX6_looks_144 rfl ?_
                        refine g_iconst (pc := 146) E dX6_looks_146 rfl ?_
                        refine g_callV (pc := 147) (As := [_, _]) E dX6_looks_147 ml_X6_87 (ct_of e5 (e := 13 + 3 * y + 1) (by omega) (by omega) (by omega) (by omega) (by omega)) rfl rfl rfl rfl (by decide) (by decide) rfl (Nat.le_of_ble_eq_true rfl) (by decide) (fun x147 M147 hM147 => ?_)
                        obtain ⟨rfl, rfl⟩ := hM147
                        refine g_iadd (pc := 150) E dX6_looks_150 ?_
                        refine g_istore (pc := 151) E dX6_looks_151 (ls' := [_, _, _, _, _, _, _, _, _]) (Nat.le_of_ble_eq_true rfl) rfl ?_
                        refine g_iinc (pc := 153) E dX6_looks_153 (ls' := [_, _, _, _, _, _, _, _, _]) rfl rfl rfl ?_
                        refine g_goto (pc := 156) (tgt := 81) E dX6_looks_156 (by decide) ?_
                        exact g_wk2 (ih81 (y + 1) (w + lkM S sn pq ot y * S (13 + 3 * y + 1)) (v + S (13 + 3 * y + 1)) al (by omega) (by omega) (by omega) (by rw [sz_s hy0, hw, show wF S (lkM S sn pq ot) x y = lkM S sn pq ot y * S (13 + 3 * y + 1) from if_pos (by omega)]) (by rw [sz_s hy0, hv, show vF S x y = S (13 + 3 * y + 1) from if_pos (by omega)]) (by rw [sz_s hy0, hal, show nF S (lkM S sn pq ot) x y = 0 from if_neg (by omega)]; exact bi_c (by omega))) ⟨rfl, rfl, rfl, rfl, rfl, rfl, trivial⟩
                      · refine g_iconst (pc := 118) E dX6_looks_118 rfl ?_
                        refine g_istore (pc := 119) E dX6_looks_119 (ls' := [_, _, _, _, _, _, _, _, _]) (Nat.le_of_ble_eq_true rfl) rfl ?_
                        have hmul := mulR (a := lkM S sn pq ot y) (b := S (13 + 3 * y + 1)) (A := 100) (B := 9) (by omega) (by omega) (by omega) (by omega)
                        refine g_iload (pc := 121) E dX6_looks_121 rfl ?_
                        refine g_aload_n (pc := 123) E dX6_looks_123 (i := 0) rfl rfl ?_
                        refine g_getr (i := 184) (j := 191) (t := 6) (f := 14) (pc := 124) E dX6_looks_124 fl_X6_28 rfl (by decide) (by decide) rfl rfl ?_
                        refine g_iload (pc := 127) E dX6_looks_127 rfl ?_
                        refine g_iald (pc := 129) E dX6_looks_129 rfl (by omega) (by omega) (hmk y (by omega) (by omega)) (fun _ _ => ?_)
                        refine g_aload_n (pc := 130) E dX6_looks_130 (i := 0) rfl rfl ?_
                        refine g_iload (pc := 131) E dX6_looks_131 rfl ?_
                        refine g_iconst (pc := 133) E dX6_looks_133 rfl ?_
                        refine g_callV (pc := 134) (As := [_, _]) E dX6_looks_134 ml_X6_87 (ct_of e5 (e := 13 + 3 * y + 1) (by omega) (by omega) (by omega) (by omega) (by omega)) rfl rfl rfl rfl (by decide) (by decide) rfl (Nat.le_of_ble_eq_true rfl) (by decide) (fun x134 M134 hM134 => ?_)
                        obtain ⟨rfl, rfl⟩ := hM134
                        refine g_imul (pc := 137) E dX6_looks_137 ?_
                        refine g_iadd (pc := 138) E dX6_looks_138 ?_
                        refine g_istore (pc := 139) E dX6_looks_139 (ls' := [_, _, _, _, _, _, _, _, _]) (Nat.le_of_ble_eq_true rfl) rfl ?_
                        refine g_iload (pc := 141) E dX6_looks_141 rfl ?_
                        refine g_aload_n (pc := 143) E dX6_looks_143 (i := 0) rfl rfl ?_
                        refine g_iload (pc := 144) E dX6_looks_144 rfl ?_
                        refine g_iconst (pc := 146) E dX6_looks_146 rfl ?_
                        refine g_callV (pc := 147) (As := [_, _]) E dX6_looks_147 ml_X6_87 (ct_of e5 (e := 13 + 3 * y + 1) (by omega) (by omega) (by omega) (by omega) (by omega)) rfl rfl rfl rfl (by decide) (by decide) rfl (Nat.le_of_ble_eq_true rfl) (by decide) (fun x147 M147 hM147 => ?_)
                        obtain ⟨rfl, rfl⟩ := hM147
                        refine g_iadd (pc := 150) E dX6_looks_150 ?_
                        refine g_istore (pc := 151) E dX6_looks_151 (ls' := [_, _, _, _, _, _, _, _, _]) (Nat.le_of_ble_eq_true rfl) rfl ?_
                        refine g_iinc (pc := 153) E dX6_looks_153 (ls' := [_, _, _, _, _, _, _, _, _]) rfl rfl rfl ?_
                        refine g_goto (pc := 156) (tgt := 81) E dX6_looks_156 (by decide) ?_
                        exact g_wk2 (ih81 (y + 1) (w + lkM S sn pq ot y * S (13 + 3 * y + 1)) (v + S (13 + 3 * y + 1)) 0 (by omega) (by omega) (by omega) (by rw [sz_s hy0, hw, show wF S (lkM S sn pq ot) x y = lkM S sn pq ot y * S (13 + 3 * y + 1) from if_pos (by omega)]) (by rw [sz_s hy0, hv, show vF S x y = S (13 + 3 * y + 1) from if_pos (by omega)]) (by rw [sz_s hy0, show nF S (lkM S sn pq ot) x y = 1 from if_pos (by omega)]; exact (bi_f (by omega)).symm)) ⟨rfl, rfl, rfl, rfl, rfl, rfl, trivial⟩
                    · refine g_goto (pc := 105) (tgt := 153) E dX6_looks_105 (by decide) ?_
                      refine g_iinc (pc := 153) E dX6_looks_153 (ls' := [_, _, _, _, _, _, _, _, _]) rfl rfl rfl ?_
                      refine g_goto (pc := 156) (tgt := 81) E dX6_looks_156 (by decide) ?_
                      exact g_wk2 (ih81 (y + 1) w v al (by omega) (by omega) (by omega) (by rw [sz_s hy0, hw, show wF S (lkM S sn pq ot) x y = 0 from if_neg (by omega)]; omega) (by rw [sz_s hy0, hv, show vF S x y = 0 from if_neg (by omega)]; omega) (by rw [sz_s hy0, hal, show nF S (lkM S sn pq ot) x y = 0 from if_neg (by omega)]; exact bi_c (by omega))) ⟨rfl, rfl, rfl, rfl, rfl, rfl, trivial⟩
              exact g_wk2 (LP81 (S 6 + 1).toNat 0 0 0 1 (by omega) (by omega) (by omega) rfl rfl rfl) ⟨rfl, rfl, rfl, rfl, rfl, rfl, trivial⟩
        exact g_wk2 (LP58 (S 5 + 1).toNat N 0 (by omega) (by omega) (by omega) hf (by rw [show x = S 6 by omega] at hmk; exact hmk) h18 h19 (fun j h0 h1 => by omega) (fun j h0 h1 => by omega)) ⟨rfl, rfl, trivial⟩
      · have hmx := hmx (by omega)
        refine g_aload_n (pc := 25) E dX6_looks_25 (i := 0) rfl rfl ?_
        refine g_getr (i := 184) (j := 191) (t := 6) (f := 14) (pc := 26) E dX6_looks_26 fl_X6_28 rfl (by decide) (by decide) rfl rfl ?_
        refine g_iload (pc := 29) E dX6_looks_29 rfl ?_
        refine g_iload (pc := 31) E dX6_looks_31 rfl ?_
        refine g_iload_n (pc := 33) E dX6_looks_33 (i := 2) rfl rfl ?_
        refine g_icmp_ne (pc := 34) (tgt := 41) E dX6_looks_34 (by decide) (fun qh34 => ?_) (fun qh34 => ?_) 
        · refine g_aload_n (pc := 41) E dX6_looks_41 (i := 0) rfl rfl ?_
          refine g_iload_n (pc := 42) E dX6_looks_42 (i := 1) rfl rfl ?_
          refine g_iload (pc := 43) E dX6_looks_43 rfl ?_
          refine g_callV (pc := 45) (As := [_, _]) E dX6_looks_45 ml_X6_129 (ct_markOf e5 hV (by omega) (by omega) (by omega) (by omega)) rfl rfl rfl rfl (by decide) (by decide) rfl (Nat.le_of_ble_eq_true rfl) (by decide) (fun x45 M45 hM45 => ?_)
          obtain ⟨rfl, rfl⟩ := hM45
          refine g_iast (pc := 48) E dX6_looks_48 rfl (by omega) (by omega) ?_ 
          refine g_iinc (pc := 49) E dX6_looks_49 (ls' := [_, _, _, _, _, _, _, _, _]) rfl rfl rfl ?_
          refine g_goto (pc := 52) (tgt := 13) E dX6_looks_52 (by decide) ?_
          exact g_wk2 (ih13 (st N 191 x (mkS S sn x)) (x + 1) (by omega) (by omega) (by omega) (hf.row 191 (Or.inl rfl)) (row_ext hmk (if_neg (by omega)).symm) h18 h19) ⟨rfl, rfl, rfl, rfl, rfl, trivial⟩
        · refine g_iload_n (pc := 37) E dX6_looks_37 (i := 3) rfl rfl ?_
          refine g_goto (pc := 38) (tgt := 48) E dX6_looks_38 (by decide) ?_
          refine g_iast (pc := 48) E dX6_looks_48 rfl (by omega) (by omega) ?_ 
          refine g_iinc (pc := 49) E dX6_looks_49 (ls' := [_, _, _, _, _, _, _, _, _]) rfl rfl rfl ?_
          refine g_goto (pc := 52) (tgt := 13) E dX6_looks_52 (by decide) ?_
          exact g_wk2 (ih13 (st N 191 x ot) (x + 1) (by omega) (by omega) (by omega) (hf.row 191 (Or.inl rfl)) (row_ext hmk (if_pos (by omega)).symm) h18 h19) ⟨rfl, rfl, rfl, rfl, rfl, trivial⟩
  exact g_wk2 (LP13 (S 6 + 1).toNat _ 0 (by omega) (by omega) (by omega) (((LKf.rf M).fld 18 (by omega)).fld 19 (by omega)) (fun j h0 h1 => by omega) (by rw [st_off (by decide), st_self]) (st_self _ _ _ _)) ⟨rfl, rfl, rfl, rfl, rfl, trivial⟩
