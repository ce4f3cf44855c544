/-! scaling, account and changedIf of the reference -/
def slF (S : Int → Int) (p c s : Int) : Int := if rawIn S p c s then scS S s p else 0
def tpF (S : Int → Int) (p c s t : Int) : Int := if rawIn S p c s ∧ rawIn S p c t ∧ fstS S t p < fstS S s p ∧ scS S s p < scS S t p then 1 else 0
def tp1 (S : Int → Int) (p c s : Int) : Int := sz (tpF S p c s) (S 7)
def dfE (S : Int → Int) (p c s t : Int) : Int := if rawIn S p c t ∧ scS S t p = scS S s p then 1 else 0
def dfF (S : Int → Int) (p c s : Int) : Int := if rawIn S p c s ∧ sz (dfE S p c s) s = 0 then 1 else 0
def sclS (S : Int → Int) (p c w : Int) : Int := if ¬ (0 ≤ p ∧ p < S 6 ∧ 0 ≤ c ∧ c < 3) then -1 else if ¬ (0 ≤ w ∧ w ≤ 6) then -2 else if w < 2 then S (537 + 2 * (3 * p + c) + w) else if w = 2 then cntS S p c else if w < 5 ∧ cntS S p c = 0 then -5 else if w = 3 then nrs (sumS S p c) (cntS S p c) else if w = 4 then nrs (sz (slF S p c) (S 7)) (cntS S p c) else if w = 5 then sz (tp1 S p c) (S 7) else sz (dfF S p c) (S 7)
theorem sz_z {f : Int → Int} {x : Int} (h : ∀ j : Int, 0 ≤ j → j < x → f j = 0) : sz f x = 0 := by
  have : sz f x = sz (fun _ => 0) x := sz_c h
  rw [this]
  have h2 : ∀ k : Nat, smN (fun _ => (0 : Int)) k = 0 := fun k => by
    induction k with
    | zero => rfl
    | succ k ih => show smN (fun _ => (0 : Int)) k + 0 = 0; omega
  exact h2 _
theorem tp1_R {S : Int → Int} (hV : SOK S) (p c s : Int) {y : Int} (h0 : 0 ≤ y) (h1 : y ≤ S 7) : 0 ≤ sz (tpF S p c s) y ∧ sz (tpF S p c s) y ≤ 20 := by
  have a := hV.1
  have b := sz_R (f := tpF S p c s) (a := 0) (b := 1) h0 (fun j _ _ => by unfold tpF; split <;> omega)
  omega
theorem slS_le {S : Int → Int} (p c : Int) : 0 ≤ sz (slF S p c) (S 7) ∧ sz (slF S p c) (S 7) ≤ 100 * cntS S p c := by
  constructor
  · exact sz_pos (fun j _ _ => by have := scS_R S j p; unfold slF; split <;> omega)
  · refine smN_le' 100 _ (fun j _ _ => ?_)
    have := scS_R S j p
    unfold slF cntF rawIn
    split <;> omega
def acF (S : Int → Int) (w i : Int) : Int := if w = 4 then (if 0 ≤ S (57 + 3 * (8 * (S (585 + i) / 8) + S (585 + i) % 8) + 2) then 1 else 0) else if w = 5 then (if 1 < S (57 + 3 * (8 * (S (585 + i) / 8) + S (585 + i) % 8)) then 1 else 0) else mkS S (S (585 + i) / 8) (S (585 + i) % 8)
def pcrF (S mk : Int → Int) (m : Int) : Int := if psM S mk m then S (9 + m) else 0
def pcrS (S mk : Int → Int) : Int := sz (pcrF S mk) (S 5)
def acS (S : Int → Int) (n u w : Int) : Int := if 0 ≤ w ∧ w ≤ 2 then S (5 + w) else if w = 3 then S 8 else if 4 ≤ w ∧ w ≤ 6 then sz (acF S w) (S 8) else if w = 7 then allS S else if w = 8 then sz (fun s => pcrS S (lkM S s (-1) 0)) (S 7) else if w = 9 then n else if w = 10 then u else if 11 ≤ w ∧ w ≤ 15 then S (w - 11) else -2
theorem pcr_R {S mk : Int → Int} (hV : SOK S) {x : Int} (h0 : 0 ≤ x) (h1 : x ≤ S 5) : 0 ≤ sz (pcrF S mk) x ∧ sz (pcrF S mk) x ≤ 36 := by
  have a := hV.1
  have := sz_R (f := pcrF S mk) (a := 0) (b := 9) h0 (fun j q0 q1 => by
    have := hV.2.1 j q0 (by omega)
    unfold pcrF
    split <;> omega)
  omega

theorem al_A {f : Int → Int} {x y al : Int} (h : x ≤ y) (e : al = bi (sz f (min y x) = 0)) : al = bi (sz f (min (y + 1) x) = 0) := by
  rw [e, show min (y + 1) x = min y x by omega]
theorem al_B {f : Int → Int} {x y al : Int} (h0 : 0 ≤ y) (hf : f y = 0) (e : al = bi (sz f (min y x) = 0)) : al = bi (sz f (min (y + 1) x) = 0) := by
  by_cases h : x ≤ y
  · exact al_A h e
  · rw [e, show min (y + 1) x = y + 1 by omega, show min y x = y by omega, sz_s h0, hf]
    exact bi_c (by omega)
theorem al_C {f : Int → Int} {x y : Int} (h0 : 0 ≤ y) (h : y < x) (hp : 0 ≤ sz f (min y x)) (hf : f y = 1) : 0 = bi (sz f (min (y + 1) x) = 0) := by
  rw [show min (y + 1) x = y + 1 by omega, sz_s h0, hf]
  rw [show min y x = y by omega] at hp
  exact (bi_f (by omega)).symm

set_option maxHeartbeats 4000000 in
theorem ct_scaling {cx : Cx} {M : Mem} {S : Int → Int} (e5 : M 185 = S) {p cn w : Int} (hV : SOK S) (hp : -2147483648 ≤ p ∧ p ≤ 2147483647) (hcn : -2147483648 ≤ cn ∧ cn ≤ 2147483647) (hw : -2147483648 ≤ w ∧ w ≤ 2147483647) : Ct cx yX6_scaling cX6_scaling 12 (some .int) 8 0 0 [rf cx 184, .int (oi p), .int (oi cn), .int (oi w)] M (fun rz M' => sclS S p cn w = rz ∧ SCm M M') := by
  refine ct_intro cd_X6_scaling (by decide +kernel) (Nat.le_of_ble_eq_true rfl) rfl (fun Pg Lc Ev s m args below meth c E hr => ?_)
  refine g_ent (ls' := [some (rf cx 184), some (.int (oi p)), some (.int (oi cn)), some (.int (oi w)), none, none, none, none, none, none, none, none]) rfl ?_
  have hV0 := hV.1
  have e5M := e5
  have hf := LKf.rf M
  have JP96 : ∀ (_ : Unit), 0 ≤ p → p < S 6 → 0 ≤ cn → cn < 3 → 4 ≤ w → w ≤ 6 → (w = 4 → 0 < cntS S p cn) → G cx Pg Lc Ev (rmD 8 0 0) s m args below meth c (MQ below (QI cx (fun rz M' => sclS S p cn w = rz ∧ SCm M M')) args s 0 0 (cA0 cx)) 96 [some (rf cx 184), some (.int (oi p)), some (.int (oi cn)), some (.int (oi w)), some (.int (oi (cntS S p cn))), none, none, none, none, none, none, none] [] (M) 0 0 := by
    intro _ hp0 hp1 hc0 hc1 hw4 hw6 hw0
    have hcR := cntS_R hV p cn
    have hsR := sumS_R hV cn (show 0 ≤ p by omega) (by omega)
    have hsl := sumS_le hV cn (show 0 ≤ p by omega) (by omega)
    refine g_iconst (pc := 96) E dX6_scaling_96 rfl ?_
    refine g_istore (pc := 97) E dX6_scaling_97 (ls' := [_, _, _, _, _, _, _, _, _, _, _, _]) (Nat.le_of_ble_eq_true rfl) rfl ?_
    refine g_iconst (pc := 99) E dX6_scaling_99 rfl ?_
    refine g_istore (pc := 100) E dX6_scaling_100 (ls' := [_, _, _, _, _, _, _, _, _, _, _, _]) (Nat.le_of_ble_eq_true rfl) rfl ?_
    refine g_iconst (pc := 102) E dX6_scaling_102 rfl ?_
    refine g_istore (pc := 103) E dX6_scaling_103 (ls' := [_, _, _, _, _, _, _, _, _, _, _, _]) (Nat.le_of_ble_eq_true rfl) rfl ?_
    refine g_iconst (pc := 105) E dX6_scaling_105 rfl ?_
    refine g_istore (pc := 106) E dX6_scaling_106 (ls' := [_, _, _, _, _, _, _, _, _, _, _, _]) (Nat.le_of_ble_eq_true rfl) rfl ?_
    have LP108 : ∀ (n : Nat) (x a q d : Int), S 7 - x < (n : Int) → 0 ≤ x → x ≤ S 7 → a = sz (slF S p cn) x → q = sz (tp1 S p cn) x → d = sz (dfF S p cn) x → G cx Pg Lc Ev (rmD 8 0 0) s m args below meth c (MQ below (QI cx (fun rz M' => sclS S p cn w = rz ∧ SCm M M')) args s 0 0 (cA0 cx)) 108 [some (rf cx 184), some (.int (oi p)), some (.int (oi cn)), some (.int (oi w)), some (.int (oi (cntS S p cn))), some (.int (oi a)), some (.int (oi q)), some (.int (oi d)), some (.int (oi x)), none, none, none] [] (M) 0 0 := by
      intro n
      induction n with
      | zero => intro x a q d hn hx0 hx1 ha hq hd; exact absurd hn (by omega)
      | succ n ih108 =>
        intro x a q d hn hx0 hx1 ha hq hd
        have haR := sz_R (f := slF S p cn) (a := 0) (b := 100) hx0 (fun j _ _ => by have := scS_R S j p; unfold slF; split <;> omega)
        have hqR := sz_R (f := tp1 S p cn) (a := 0) (b := 20) hx0 (fun j _ _ => tp1_R hV p cn j (by omega) (Int.le_refl _))
        have hdR := sz_R (f := dfF S p cn) (a := 0) (b := 1) hx0 (fun j _ _ => by unfold dfF; split <;> omega)
        refine g_iload (pc := 108) E dX6_scaling_108 rfl ?_
        refine g_aload_n (pc := 110) E dX6_scaling_110 (i := 0) rfl rfl ?_
        refine g_getr (i := 184) (j := 185) (t := 6) (f := 0) (pc := 111) E dX6_scaling_111 fl_X6_9 rfl (by decide) (by decide) rfl rfl ?_
        refine g_bipush (pc := 114) E dX6_scaling_114 rfl ?_
        refine g_iald (pc := 116) E dX6_scaling_116 rfl (by omega) (by omega) (congrFun e5 _) (fun _ _ => ?_)
        refine g_icmp_ge (pc := 117) (tgt := 256) E dX6_scaling_117 (by decide) (fun qh117 => ?_) (fun qh117 => ?_) 
        · obtain rfl : x = S 7 := by omega
          have hsl2 := slS_le (S := S) p cn
          rw [← ha] at hsl2
          refine g_iload_n (pc := 256) E dX6_scaling_256 (i := 3) rfl rfl ?_
          refine g_iconst (pc := 257) E dX6_scaling_257 rfl ?_
          refine g_icmp_ne (pc := 258) (tgt := 271) E dX6_scaling_258 (by decide) (fun qh258 => ?_) (fun qh258 => ?_) 
          · refine g_iload_n (pc := 271) E dX6_scaling_271 (i := 3) rfl rfl ?_
            refine g_iconst (pc := 272) E dX6_scaling_272 rfl ?_
            refine g_icmp_ne (pc := 273) (tgt := 281) E dX6_scaling_273 (by decide) (fun qh273 => ?_) (fun qh273 => ?_) 
            · refine g_iload (pc := 281) E dX6_scaling_281 rfl ?_
              refine g_iret (pc := 283) E hr dX6_scaling_283 ?_
              exact ⟨by rw [sclS, if_neg (by omega), if_neg (by omega), if_neg (by omega), if_neg (by omega), if_neg (by omega), if_neg (by omega), if_neg (by omega), if_neg (by omega), hd], SCm.rf M⟩
            · refine g_iload (pc := 276) E dX6_scaling_276 rfl ?_
              refine g_goto (pc := 278) (tgt := 283) E dX6_scaling_278 (by decide) ?_
              refine g_iret (pc := 283) E hr dX6_scaling_283 ?_
              exact ⟨by rw [sclS, if_neg (by omega), if_neg (by omega), if_neg (by omega), if_neg (by omega), if_neg (by omega), if_neg (by omega), if_neg (by omega), if_pos (by omega), hq], SCm.rf M⟩
          · refine g_iload (pc := 261) E dX6_scaling_261 rfl ?_
            refine g_iload (pc := 263) E dX6_scaling_263 rfl ?_
            refine g_callS (pc := 265) (As := [_, _]) E dX6_scaling_265 ml_X6_94 (ct_nearest (by omega) (by omega) (by omega) (by omega)) rfl rfl (by decide) (by decide) rfl (Nat.le_of_ble_eq_true rfl) (by decide) (fun x265 M265 hM265 => ?_)
            obtain ⟨rfl, rfl⟩ := hM265
            refine g_goto (pc := 268) (tgt := 283) E dX6_scaling_268 (by decide) ?_
            refine g_iret (pc := 283) E hr dX6_scaling_283 ?_
            exact ⟨by rw [sclS, if_neg (by omega), if_neg (by omega), if_neg (by omega), if_neg (by omega), if_neg (by omega), if_neg (by omega), if_pos (by omega), ha], SCm.rf M⟩
        · refine g_aload_n (pc := 120) E dX6_scaling_120 (i := 0) rfl rfl ?_
          refine g_iload (pc := 121) E dX6_scaling_121 rfl ?_
          refine g_iload_n (pc := 123) E dX6_scaling_123 (i := 1) rfl rfl ?_
          refine g_iload_n (pc := 124) E dX6_scaling_124 (i := 2) rfl rfl ?_
          refine g_callV (pc := 125) (As := [_, _, _]) E dX6_scaling_125 ml_X6_196 (ct_belongs e5 hV (by omega) (by omega) (by omega) (by omega) (by omega) (by omega)) rfl rfl rfl rfl (by decide) (by decide) rfl (Nat.le_of_ble_eq_true rfl) (by decide) (fun x125 M125 hM125 => ?_)
          obtain ⟨rfl, rfl⟩ := hM125
          refine g_if_ne (pc := 128) (tgt := 134) E dX6_scaling_128 (by decide) (fun qh128 => ?_) (fun qh128 => ?_) (Int.le_trans (by decide) (bi_R _).1) (Int.le_trans (bi_R _).2 (by decide))
          · replace qh128 := bi_n.mp qh128
            have hxR := scS_R S x p
            refine g_aload_n (pc := 134) E dX6_scaling_134 (i := 0) rfl rfl ?_
            refine g_iload (pc := 135) E dX6_scaling_135 rfl ?_
            refine g_iload_n (pc := 137) E dX6_scaling_137 (i := 1) rfl rfl ?_
            refine g_callV (pc := 138) (As := [_, _]) E dX6_scaling_138 ml_X6_117 (ct_scaledOf e5 hV (by omega) (by omega) (by omega) (by omega)) rfl rfl rfl rfl (by decide) (by decide) rfl (Nat.le_of_ble_eq_true rfl) (by decide) (fun x138 M138 hM138 => ?_)
            obtain ⟨rfl, rfl⟩ := hM138
            refine g_istore (pc := 141) E dX6_scaling_141 (ls' := [_, _, _, _, _, _, _, _, _, _, _, _]) (Nat.le_of_ble_eq_true rfl) rfl ?_
            refine g_iload (pc := 143) E dX6_scaling_143 rfl ?_
            refine g_iload (pc := 145) E dX6_scaling_145 rfl ?_
            refine g_iadd (pc := 147) E dX6_scaling_147 ?_
            refine g_istore (pc := 148) E dX6_scaling_148 (ls' := [_, _, _, _, _, _, _, _, _, _, _, _]) (Nat.le_of_ble_eq_true rfl) rfl ?_
            refine g_iconst (pc := 150) E dX6_scaling_150 rfl ?_
            refine g_istore (pc := 151) E dX6_scaling_151 (ls' := [_, _, _, _, _, _, _, _, _, _, _, _]) (Nat.le_of_ble_eq_true rfl) rfl ?_
            refine g_iconst (pc := 153) E dX6_scaling_153 rfl ?_
            refine g_istore (pc := 154) E dX6_scaling_154 (ls' := [_, _, _, _, _, _, _, _, _, _, _, _]) (Nat.le_of_ble_eq_true rfl) rfl ?_
            have LP156 : ∀ (n : Nat) (y r al : Int), S 7 - y < (n : Int) → 0 ≤ y → y ≤ S 7 → r = q + sz (tpF S p cn x) y → al = bi (sz (dfE S p cn x) (min y x) = 0) → G cx Pg Lc Ev (rmD 8 0 0) s m args below meth c (MQ below (QI cx (fun rz M' => sclS S p cn w = rz ∧ SCm M M')) args s 0 0 (cA0 cx)) 156 [some (rf cx 184), some (.int (oi p)), some (.int (oi cn)), some (.int (oi w)), some (.int (oi (cntS S p cn))), some (.int (oi (a + scS S x p))), some (.int (oi r)), some (.int (oi d)), some (.int (oi x)), some (.int (oi (scS S x p))), some (.int (oi al)), some (.int (oi y))] [] (M) 0 0 := by
              intro n
              induction n with
              | zero => intro y r al hny hy0 hy1 hr hal; exact absurd hny (by omega)
              | succ n ih156 =>
                intro y r al hny hy0 hy1 hr hal
                have hrR := tp1_R hV p cn x hy0 hy1
                have hdE : 0 ≤ sz (dfE S p cn x) (min y x) := sz_pos (fun j _ _ => by unfold dfE; split <;> omega)
                refine g_iload (pc := 156) E dX6_scaling_156 rfl ?_
                refine g_aload_n (pc := 158) E dX6_scaling_158 (i := 0) rfl rfl ?_
                refine g_getr (i := 184) (j := 185) (t := 6) (f := 0) (pc := 159) E dX6_scaling_159 fl_X6_9 rfl (by decide) (by decide) rfl rfl ?_
                refine g_bipush (pc := 162) E dX6_scaling_162 rfl ?_
                refine g_iald (pc := 164) E dX6_scaling_164 rfl (by omega) (by omega) (congrFun e5 _) (fun _ _ => ?_)
                refine g_icmp_ge (pc := 165) (tgt := 242) E dX6_scaling_165 (by decide) (fun qh165 => ?_) (fun qh165 => ?_) 
                · obtain rfl : y = S 7 := by omega
                  rw [show min (S 7) x = x by omega] at hal
                  subst hal
                  have halR2 := bi_R (sz (dfE S p cn x) x = 0)
                  refine g_iload (pc := 242) E dX6_scaling_242 rfl ?_
                  refine g_if_eq (pc := 244) (tgt := 250) E dX6_scaling_244 (by decide) (fun qh244 => ?_) (fun qh244 => ?_) 
                  · replace qh244 := bi_0.mp qh244
                    refine g_iinc (pc := 250) E dX6_scaling_250 (ls' := [_, _, _, _, _, _, _, _, _, _, _, _]) rfl rfl rfl ?_
                    refine g_goto (pc := 253) (tgt := 108) E dX6_scaling_253 (by decide) ?_
                    exact g_wk2 (ih108 (x + 1) (a + scS S x p) r d (by omega) (by omega) (by omega) (by rw [sz_s hx0, ha, show slF S p cn x = scS S x p from if_pos qh128]) (by rw [sz_s hx0, hr, hq]; rfl) (by rw [sz_s hx0, hd, show dfF S p cn x = 0 from if_neg (fun h => qh244 h.2)]; omega)) ⟨rfl, rfl, rfl, rfl, rfl, rfl, rfl, rfl, rfl, trivial⟩
                  · replace qh244 := bi_n.mp qh244
                    refine g_iinc (pc := 247) E dX6_scaling_247 (ls' := [_, _, _, _, _, _, _, _, _, _, _, _]) rfl rfl rfl ?_
                    refine g_iinc (pc := 250) E dX6_scaling_250 (ls' := [_, _, _, _, _, _, _, _, _, _, _, _]) rfl rfl rfl ?_
                    refine g_goto (pc := 253) (tgt := 108) E dX6_scaling_253 (by decide) ?_
                    exact g_wk2 (ih108 (x + 1) (a + scS S x p) r (d + 1) (by omega) (by omega) (by omega) (by rw [sz_s hx0, ha, show slF S p cn x = scS S x p from if_pos qh128]) (by rw [sz_s hx0, hr, hq]; rfl) (by rw [sz_s hx0, hd, show dfF S p cn x = 1 from if_pos ⟨qh128, qh244⟩])) ⟨rfl, rfl, rfl, rfl, rfl, rfl, rfl, rfl, rfl, trivial⟩
                · refine g_aload_n (pc := 168) E dX6_scaling_168 (i := 0) rfl rfl ?_
                  refine g_iload (pc := 169) E dX6_scaling_169 rfl ?_
                  refine g_iload_n (pc := 171) E dX6_scaling_171 (i := 1) rfl rfl ?_
                  refine g_iload_n (pc := 172) E dX6_scaling_172 (i := 2) rfl rfl ?_
                  refine g_callV (pc := 173) (As := [_, _, _]) E dX6_scaling_173 ml_X6_196 (ct_belongs e5 hV (by omega) (by omega) (by omega) (by omega) (by omega) (by omega)) rfl rfl rfl rfl (by decide) (by decide) rfl (Nat.le_of_ble_eq_true rfl) (by decide) (fun x173 M173 hM173 => ?_)
                  obtain ⟨rfl, rfl⟩ := hM173
                  refine g_if_ne (pc := 176) (tgt := 182) E dX6_scaling_176 (by decide) (fun qh176 => ?_) (fun qh176 => ?_) (Int.le_trans (by decide) (bi_R _).1) (Int.le_trans (bi_R _).2 (by decide))
                  · replace qh176 := bi_n.mp qh176
                    have hyR := scS_R S y p
                    refine g_iload (pc := 182) E dX6_scaling_182 rfl ?_
                    refine g_iload (pc := 184) E dX6_scaling_184 rfl ?_
                    refine g_icmp_ge (pc := 186) (tgt := 204) E dX6_scaling_186 (by decide) (fun qh186 => ?_) (fun qh186 => ?_) 
                    · have hfx := fstS_R hV (show 0 ≤ x by omega) (show x < S 7 by omega) (show 0 ≤ p by omega) (by omega)
                      have hfy := fstS_R hV (show 0 ≤ y by omega) (show y < S 7 by omega) (show 0 ≤ p by omega) (by omega)
                      refine g_aload_n (pc := 204) E dX6_scaling_204 (i := 0) rfl rfl ?_
                      refine g_iload (pc := 205) E dX6_scaling_205 rfl ?_
                      refine g_iload_n (pc := 207) E dX6_scaling_207 (i := 1) rfl rfl ?_
                      refine g_callV (pc := 208) (As := [_, _]) E dX6_scaling_208 ml_X6_100 (ct_first e5 hV (by omega) (by omega) (by omega) (by omega)) rfl rfl rfl rfl (by decide) (by decide) rfl (Nat.le_of_ble_eq_true rfl) (by decide) (fun x208 M208 hM208 => ?_)
                      obtain ⟨rfl, rfl⟩ := hM208
                      refine g_aload_n (pc := 211) E dX6_scaling_211 (i := 0) rfl rfl ?_
                      refine g_iload (pc := 212) E dX6_scaling_212 rfl ?_
                      refine g_iload_n (pc := 214) E dX6_scaling_214 (i := 1) rfl rfl ?_
                      refine g_callV (pc := 215) (As := [_, _]) E dX6_scaling_215 ml_X6_100 (ct_first e5 hV (by omega) (by omega) (by omega) (by omega)) rfl rfl rfl rfl (by decide) (by decide) rfl (Nat.le_of_ble_eq_true rfl) (by decide) (fun x215 M215 hM215 => ?_)
                      obtain ⟨rfl, rfl⟩ := hM215
                      refine g_icmp_le (pc := 218) (tgt := 236) E dX6_scaling_218 (by decide) (fun qh218 => ?_) (fun qh218 => ?_) 
                      · refine g_iinc (pc := 236) E dX6_scaling_236 (ls' := [_, _, _, _, _, _, _, _, _, _, _, _]) rfl rfl rfl ?_
                        refine g_goto (pc := 239) (tgt := 156) E dX6_scaling_239 (by decide) ?_
                        exact g_wk2 (ih156 (y + 1) r al (by omega) (by omega) (by omega) (by rw [sz_s hy0, hr, show tpF S p cn x y = 0 from if_neg (fun h => absurd h.2.2.1 (by omega))]; omega) (al_A (by omega) hal)) ⟨rfl, rfl, rfl, rfl, rfl, rfl, rfl, rfl, rfl, rfl, rfl, rfl, trivial⟩
                      · refine g_iload (pc := 221) E dX6_scaling_221 rfl ?_
                        refine g_aload_n (pc := 223) E dX6_scaling_223 (i := 0) rfl rfl ?_
                        refine g_iload (pc := 224) E dX6_scaling_224 rfl ?_
                        refine g_iload_n (pc := 226) E dX6_scaling_226 (i := 1) rfl rfl ?_
                        refine g_callV (pc := 227) (As := [_, _]) E dX6_scaling_227 ml_X6_117 (ct_scaledOf e5 hV (by omega) (by omega) (by omega) (by omega)) rfl rfl rfl rfl (by decide) (by decide) rfl (Nat.le_of_ble_eq_true rfl) (by decide) (fun x227 M227 hM227 => ?_)
                        obtain ⟨rfl, rfl⟩ := hM227
                        refine g_icmp_ge (pc := 230) (tgt := 236) E dX6_scaling_230 (by decide) (fun qh230 => ?_) (fun qh230 => ?_) 
                        · refine g_iinc (pc := 236) E dX6_scaling_236 (ls' := [_, _, _, _, _, _, _, _, _, _, _, _]) rfl rfl rfl ?_
                          refine g_goto (pc := 239) (tgt := 156) E dX6_scaling_239 (by decide) ?_
                          exact g_wk2 (ih156 (y + 1) r al (by omega) (by omega) (by omega) (by rw [sz_s hy0, hr, show tpF S p cn x y = 0 from if_neg (fun h => absurd h.2.2.2 (by omega))]; omega) (al_A (by omega) hal)) ⟨rfl, rfl, rfl, rfl, rfl, rfl, rfl, rfl, rfl, rfl, rfl, rfl, trivial⟩
                        · refine g_iinc (pc := 233) E dX6_scaling_233 (ls' := [_, _, _, _, _, _, _, _, _, _, _, _]) rfl rfl rfl ?_
                          refine g_iinc (pc := 236) E dX6_scaling_236 (ls' := [_, _, _, _, _, _, _, _, _, _, _, _]) rfl rfl rfl ?_
                          refine g_goto (pc := 239) (tgt := 156) E dX6_scaling_239 (by decide) ?_
                          exact g_wk2 (ih156 (y + 1) (r + 1) al (by omega) (by omega) (by omega) (by rw [sz_s hy0, hr, show tpF S p cn x y = 1 from if_pos ⟨qh128, qh176, by omega, by omega⟩]; omega) (al_A (by omega) hal)) ⟨rfl, rfl, rfl, rfl, rfl, rfl, rfl, rfl, rfl, rfl, rfl, rfl, trivial⟩
                    · refine g_aload_n (pc := 189) E dX6_scaling_189 (i := 0) rfl rfl ?_
                      refine g_iload (pc := 190) E dX6_scaling_190 rfl ?_
                      refine g_iload_n (pc := 192) E dX6_scaling_192 (i := 1) rfl rfl ?_
                      refine g_callV (pc := 193) (As := [_, _]) E dX6_scaling_193 ml_X6_117 (ct_scaledOf e5 hV (by omega) (by omega) (by omega) (by omega)) rfl rfl rfl rfl (by decide) (by decide) rfl (Nat.le_of_ble_eq_true rfl) (by decide) (fun x193 M193 hM193 => ?_)
                      obtain ⟨rfl, rfl⟩ := hM193
                      refine g_iload (pc := 196) E dX6_scaling_196 rfl ?_
                      refine g_icmp_ne (pc := 198) (tgt := 204) E dX6_scaling_198 (by decide) (fun qh198 => ?_) (fun qh198 => ?_) 
                      · have hfx := fstS_R hV (show 0 ≤ x by omega) (show x < S 7 by omega) (show 0 ≤ p by omega) (by omega)
                        have hfy := fstS_R hV (show 0 ≤ y by omega) (show y < S 7 by omega) (show 0 ≤ p by omega) (by omega)
                        refine g_aload_n (pc := 204) E dX6_scaling_204 (i := 0) rfl rfl ?_
                        refine g_iload (pc := 205) E dX6_scaling_205 rfl ?_
                        refine g_iload_n (pc := 207) E dX6_scaling_207 (i := 1) rfl rfl ?_
                        refine g_callV (pc := 208) (As := [_, _]) E dX6_scaling_208 ml_X6_100 (ct_first e5 hV (by omega) (by omega) (by omega) (by omega)) rfl rfl rfl rfl (by decide) (by decide) rfl (Nat.le_of_ble_eq_true rfl) (by decide) (fun x208 M208 hM208 => ?_)
                        obtain ⟨rfl, rfl⟩ := hM208
                        refine g_aload_n (pc := 211) E dX6_scaling_211 (i := 0) rfl rfl ?_
                        refine g_iload (pc := 212) E dX6_scaling_212 rfl ?_
                        refine g_iload_n (pc := 214) E dX6_scaling_214 (i := 1) rfl rfl ?_
                        refine g_callV (pc := 215) (As := [_, _]) E dX6_scaling_215 ml_X6_100 (ct_first e5 hV (by omega) (by omega) (by omega) (by omega)) rfl rfl rfl rfl (by decide) (by decide) rfl (Nat.le_of_ble_eq_true rfl) (by decide) (fun x215 M215 hM215 => ?_)
                        obtain ⟨rfl, rfl⟩ := hM215
                        refine g_icmp_le (pc := 218) (tgt := 236) E dX6_scaling_218 (by decide) (fun qh218 => ?_) (fun qh218 => ?_) 
                        · refine g_iinc (pc := 236) E dX6_scaling_236 (ls' := [_, _, _, _, _, _, _, _, _, _, _, _]) rfl rfl rfl ?_
                          refine g_goto (pc := 239) (tgt := 156) E dX6_scaling_239 (by decide) ?_
                          exact g_wk2 (ih156 (y + 1) r al (by omega) (by omega) (by omega) (by rw [sz_s hy0, hr, show tpF S p cn x y = 0 from if_neg (fun h => absurd h.2.2.1 (by omega))]; omega) (al_B hy0 (if_neg (fun h => absurd h.2 (by omega))) hal)) ⟨rfl, rfl, rfl, rfl, rfl, rfl, rfl, rfl, rfl, rfl, rfl, rfl, trivial⟩
                        · refine g_iload (pc := 221) E dX6_scaling_221 rfl ?_
                          refine g_aload_n (pc := 223) E dX6_scaling_223 (i := 0) rfl rfl ?_
                          refine g_iload (pc := 224) E dX6_scaling_224 rfl ?_
                          refine g_iload_n (pc := 226) E dX6_scaling_226 (i := 1) rfl rfl ?_
                          refine g_callV (pc := 227) (As := [_, _]) E dX6_scaling_227 ml_X6_117 (ct_scaledOf e5 hV (by omega) (by omega) (by omega) (by omega)) rfl rfl rfl rfl (by decide) (by decide) rfl (Nat.le_of_ble_eq_true rfl) (by decide) (fun x227 M227 hM227 => ?_)
                          obtain ⟨rfl, rfl⟩ := hM227
                          refine g_icmp_ge (pc := 230) (tgt := 236) E dX6_scaling_230 (by decide) (fun qh230 => ?_) (fun qh230 => ?_) 
                          · refine g_iinc (pc := 236) E dX6_scaling_236 (ls' := [_, _, _, _, _, _, _, _, _, _, _, _]) rfl rfl rfl ?_
                            refine g_goto (pc := 239) (tgt := 156) E dX6_scaling_239 (by decide) ?_
                            exact g_wk2 (ih156 (y + 1) r al (by omega) (by omega) (by omega) (by rw [sz_s hy0, hr, show tpF S p cn x y = 0 from if_neg (fun h => absurd h.2.2.2 (by omega))]; omega) (al_B hy0 (if_neg (fun h => absurd h.2 (by omega))) hal)) ⟨rfl, rfl, rfl, rfl, rfl, rfl, rfl, rfl, rfl, rfl, rfl, rfl, trivial⟩
                          · refine g_iinc (pc := 233) E dX6_scaling_233 (ls' := [_, _, _, _, _, _, _, _, _, _, _, _]) rfl rfl rfl ?_
                            refine g_iinc (pc := 236) E dX6_scaling_236 (ls' := [_, _, _, _, _, _, _, _, _, _, _, _]) rfl rfl rfl ?_
                            refine g_goto (pc := 239) (tgt := 156) E dX6_scaling_239 (by decide) ?_
                            exact g_wk2 (ih156 (y + 1) (r + 1) al (by omega) (by omega) (by omega) (by rw [sz_s hy0, hr, show tpF S p cn x y = 1 from if_pos ⟨qh128, qh176, by omega, by omega⟩]; omega) (al_B hy0 (if_neg (fun h => absurd h.2 (by omega))) hal)) ⟨rfl, rfl, rfl, rfl, rfl, rfl, rfl, rfl, rfl, rfl, rfl, rfl, trivial⟩
                      · refine g_iconst (pc := 201) E dX6_scaling_201 rfl ?_
                        refine g_istore (pc := 202) E dX6_scaling_202 (ls' := [_, _, _, _, _, _, _, _, _, _, _, _]) (Nat.le_of_ble_eq_true rfl) rfl ?_
                        have hfx := fstS_R hV (show 0 ≤ x by omega) (show x < S 7 by omega) (show 0 ≤ p by omega) (by omega)
                        have hfy := fstS_R hV (show 0 ≤ y by omega) (show y < S 7 by omega) (show 0 ≤ p by omega) (by omega)
                        refine g_aload_n (pc := 204) E dX6_scaling_204 (i := 0) rfl rfl ?_
                        refine g_iload (pc := 205) E dX6_scaling_205 rfl ?_
                        refine g_iload_n (pc := 207) E dX6_scaling_207 (i := 1) rfl rfl ?_
                        refine g_callV (pc := 208) (As := [_, _]) E dX6_scaling_208 ml_X6_100 (ct_first e5 hV (by omega) (by omega) (by omega) (by omega)) rfl rfl rfl rfl (by decide) (by decide) rfl (Nat.le_of_ble_eq_true rfl) (by decide) (fun x208 M208 hM208 => ?_)
                        obtain ⟨rfl, rfl⟩ := hM208
                        refine g_aload_n (pc := 211) E dX6_scaling_211 (i := 0) rfl rfl ?_
                        refine g_iload (pc := 212) E dX6_scaling_212 rfl ?_
                        refine g_iload_n (pc := 214) E dX6_scaling_214 (i := 1) rfl rfl ?_
                        refine g_callV (pc := 215) (As := [_, _]) E dX6_scaling_215 ml_X6_100 (ct_first e5 hV (by omega) (by omega) (by omega) (by omega)) rfl rfl rfl rfl (by decide) (by decide) rfl (Nat.le_of_ble_eq_true rfl) (by decide) (fun x215 M215 hM215 => ?_)
                        obtain ⟨rfl, rfl⟩ := hM215
                        refine g_icmp_le (pc := 218) (tgt := 236) E dX6_scaling_218 (by decide) (fun qh218 => ?_) (fun qh218 => ?_) 
                        · refine g_iinc (pc := 236) E dX6_scaling_236 (ls' := [_, _, _, _, _, _, _, _, _, _, _, _]) rfl rfl rfl ?_
                          refine g_goto (pc := 239) (tgt := 156) E dX6_scaling_239 (by decide) ?_
                          exact g_wk2 (ih156 (y + 1) r 0 (by omega) (by omega) (by omega) (by rw [sz_s hy0, hr, show tpF S p cn x y = 0 from if_neg (fun h => absurd h.2.2.1 (by omega))]; omega) (al_C hy0 (by omega) hdE (if_pos ⟨qh176, by omega⟩))) ⟨rfl, rfl, rfl, rfl, rfl, rfl, rfl, rfl, rfl, rfl, rfl, rfl, trivial⟩
                        · refine g_iload (pc := 221) E dX6_scaling_221 rfl ?_
                          refine g_aload_n (pc := 223) E dX6_scaling_223 (i := 0) rfl rfl ?_
                          refine g_iload (pc := 224) E dX6_scaling_224 rfl ?_
                          refine g_iload_n (pc := 226) E dX6_scaling_226 (i := 1) rfl rfl ?_
                          refine g_callV (pc := 227) (As := [_, _]) E dX6_scaling_227 ml_X6_117 (ct_scaledOf e5 hV (by omega) (by omega) (by omega) (by omega)) rfl rfl rfl rfl (by decide) (by decide) rfl (Nat.le_of_ble_eq_true rfl) (by decide) (fun x227 M227 hM227 => ?_)
                          obtain ⟨rfl, rfl⟩ := hM227
                          refine g_icmp_ge (pc := 230) (tgt := 236) E dX6_scaling_230 (by decide) (fun qh230 => ?_) (fun qh230 => ?_) 
                          · refine g_iinc (pc := 236) E dX6_scaling_236 (ls' := [_, _, _, _, _, _, _, _, _, _, _, _]) rfl rfl rfl ?_
                            refine g_goto (pc := 239) (tgt := 156) E dX6_scaling_239 (by decide) ?_
                            exact g_wk2 (ih156 (y + 1) r 0 (by omega) (by omega) (by omega) (by rw [sz_s hy0, hr, show tpF S p cn x y = 0 from if_neg (fun h => absurd h.2.2.2 (by omega))]; omega) (al_C hy0 (by omega) hdE (if_pos ⟨qh176, by omega⟩))) ⟨rfl, rfl, rfl, rfl, rfl, rfl, rfl, rfl, rfl, rfl, rfl, rfl, trivial⟩
                          · refine g_iinc (pc := 233) E dX6_scaling_233 (ls' := [_, _, _, _, _, _, _, _, _, _, _, _]) rfl rfl rfl ?_
                            refine g_iinc (pc := 236) E dX6_scaling_236 (ls' := [_, _, _, _, _, _, _, _, _, _, _, _]) rfl rfl rfl ?_
                            refine g_goto (pc := 239) (tgt := 156) E dX6_scaling_239 (by decide) ?_
                            exact g_wk2 (ih156 (y + 1) (r + 1) 0 (by omega) (by omega) (by omega) (by rw [sz_s hy0, hr, show tpF S p cn x y = 1 from if_pos ⟨qh128, qh176, by omega, by omega⟩]; omega) (al_C hy0 (by omega) hdE (if_pos ⟨qh176, by omega⟩))) ⟨rfl, rfl, rfl, rfl, rfl, rfl, rfl, rfl, rfl, rfl, rfl, rfl, trivial⟩
                  · replace qh176 := bi_0.mp qh176
                    refine g_goto (pc := 179) (tgt := 236) E dX6_scaling_179 (by decide) ?_
                    refine g_iinc (pc := 236) E dX6_scaling_236 (ls' := [_, _, _, _, _, _, _, _, _, _, _, _]) rfl rfl rfl ?_
                    refine g_goto (pc := 239) (tgt := 156) E dX6_scaling_239 (by decide) ?_
                    exact g_wk2 (ih156 (y + 1) r al (by omega) (by omega) (by omega) (by rw [sz_s hy0, hr, show tpF S p cn x y = 0 from if_neg (fun h => qh176 h.2.1)]; omega) (al_B hy0 (if_neg (fun h => qh176 h.1)) hal)) ⟨rfl, rfl, rfl, rfl, rfl, rfl, rfl, rfl, rfl, rfl, rfl, rfl, trivial⟩
            exact g_wk2 (LP156 (S 7 + 1).toNat 0 q 1 (by omega) (by omega) (by omega) (by rw [sz_0]; omega) (bi_t (by rw [show min 0 x = 0 by omega]; rfl)).symm) ⟨rfl, rfl, rfl, rfl, rfl, rfl, rfl, rfl, rfl, rfl, rfl, rfl, trivial⟩
          · replace qh128 := bi_0.mp qh128
            refine g_goto (pc := 131) (tgt := 250) E dX6_scaling_131 (by decide) ?_
            refine g_iinc (pc := 250) E dX6_scaling_250 (ls' := [_, _, _, _, _, _, _, _, _, _, _, _]) rfl rfl rfl ?_
            refine g_goto (pc := 253) (tgt := 108) E dX6_scaling_253 (by decide) ?_
            exact g_wk2 (ih108 (x + 1) a q d (by omega) (by omega) (by omega) (by rw [sz_s hx0, ha, show slF S p cn x = 0 from if_neg qh128]; omega) (by rw [sz_s hx0, hq, show tp1 S p cn x = 0 from sz_z (fun j _ _ => if_neg (fun h => qh128 h.1))]; omega) (by rw [sz_s hx0, hd, show dfF S p cn x = 0 from if_neg (fun h => qh128 h.1)]; omega)) ⟨rfl, rfl, rfl, rfl, rfl, rfl, rfl, rfl, rfl, trivial⟩
    exact g_wk2 (LP108 (S 7 + 1).toNat 0 0 0 0 (by omega) (by omega) (by omega) rfl rfl rfl) ⟨rfl, rfl, rfl, rfl, rfl, rfl, rfl, rfl, rfl, trivial⟩
  refine g_aload_n (pc := 0) E dX6_scaling_0 (i := 0) rfl rfl ?_
  refine g_iload_n (pc := 1) E dX6_scaling_1 (i := 1) rfl rfl ?_
  refine g_iload_n (pc := 2) E dX6_scaling_2 (i := 2) rfl rfl ?_
  refine g_callV (pc := 3) (As := [_, _]) E dX6_scaling_3 ml_X6_190 (ct_hasRule e5 hV (by omega) (by omega)) rfl rfl rfl rfl (by decide) (by decide) rfl (Nat.le_of_ble_eq_true rfl) (by decide) (fun x3 M3 hM3 => ?_)
  obtain ⟨rfl, rfl⟩ := hM3
  refine g_if_ne (pc := 6) (tgt := 11) E dX6_scaling_6 (by decide) (fun qh6 => ?_) (fun qh6 => ?_) (Int.le_trans (by decide) (bi_R _).1) (Int.le_trans (bi_R _).2 (by decide))
  · replace qh6 := bi_n.mp qh6
    refine g_iload_n (pc := 11) E dX6_scaling_11 (i := 3) rfl rfl ?_
    refine g_iconst (pc := 12) E dX6_scaling_12 rfl ?_
    refine g_bipush (pc := 13) E dX6_scaling_13 rfl ?_
    refine g_callS (pc := 15) (As := [_, _, _]) E dX6_scaling_15 ml_X6_66 (ct_in (by omega) (by omega) (by omega)) rfl rfl (by decide) (by decide) rfl (Nat.le_of_ble_eq_true rfl) (by decide) (fun x15 M15 hM15 => ?_)
    obtain ⟨rfl, rfl⟩ := hM15
    refine g_if_ne (pc := 18) (tgt := 24) E dX6_scaling_18 (by decide) (fun qh18 => ?_) (fun qh18 => ?_) (Int.le_trans (by decide) (bi_R _).1) (Int.le_trans (bi_R _).2 (by decide))
    · replace qh18 := bi_n.mp qh18
      have hcR := cntS_R hV p cn
      have hsR := sumS_R hV cn (show 0 ≤ p by omega) (by omega)
      have hsl := sumS_le hV cn (show 0 ≤ p by omega) (by omega)
      have hVr := hV.2.2.2.2.2 p cn (by omega) (by omega) (by omega) (by omega)
      refine g_aload_n (pc := 24) E dX6_scaling_24 (i := 0) rfl rfl ?_
      refine g_iload_n (pc := 25) E dX6_scaling_25 (i := 1) rfl rfl ?_
      refine g_iload_n (pc := 26) E dX6_scaling_26 (i := 2) rfl rfl ?_
      refine g_iconst (pc := 27) E dX6_scaling_27 rfl ?_
      refine g_callV (pc := 28) (As := [_, _, _]) E dX6_scaling_28 ml_X6_103 (ct_cnt e5 hV (by omega) (by omega) (by omega) (by omega)) rfl rfl rfl rfl (by decide) (by decide) rfl (Nat.le_of_ble_eq_true rfl) (by decide) (fun x28 M28 hM28 => ?_)
      obtain ⟨rfl, rfl⟩ := hM28
      refine g_istore (pc := 31) E dX6_scaling_31 (ls' := [_, _, _, _, _, _, _, _, _, _, _, _]) (Nat.le_of_ble_eq_true rfl) rfl ?_
      refine g_iload_n (pc := 33) E dX6_scaling_33 (i := 3) rfl rfl ?_
      refine g_iconst (pc := 34) E dX6_scaling_34 rfl ?_
      refine g_icmp_ge (pc := 35) (tgt := 57) E dX6_scaling_35 (by decide) (fun qh35 => ?_) (fun qh35 => ?_) 
      · refine g_iload_n (pc := 57) E dX6_scaling_57 (i := 3) rfl rfl ?_
        refine g_iconst (pc := 58) E dX6_scaling_58 rfl ?_
        refine g_icmp_ne (pc := 59) (tgt := 65) E dX6_scaling_59 (by decide) (fun qh59 => ?_) (fun qh59 => ?_) 
        · refine g_iload_n (pc := 65) E dX6_scaling_65 (i := 3) rfl rfl ?_
          refine g_iconst (pc := 66) E dX6_scaling_66 rfl ?_
          refine g_icmp_ge (pc := 67) (tgt := 78) E dX6_scaling_67 (by decide) (fun qh67 => ?_) (fun qh67 => ?_) 
          · refine g_iload_n (pc := 78) E dX6_scaling_78 (i := 3) rfl rfl ?_
            refine g_iconst (pc := 79) E dX6_scaling_79 rfl ?_
            refine g_icmp_ne (pc := 80) (tgt := 96) E dX6_scaling_80 (by decide) (fun qh80 => ?_) (fun qh80 => absurd qh80 (by omega)) 
            exact g_wk2 (JP96 () (by omega) (by omega) (by omega) (by omega) (by omega) (by omega) (by omega)) ⟨rfl, rfl, rfl, rfl, rfl, trivial⟩
          · refine g_iload (pc := 70) E dX6_scaling_70 rfl ?_
            refine g_if_ne (pc := 72) (tgt := 78) E dX6_scaling_72 (by decide) (fun qh72 => ?_) (fun qh72 => ?_) 
            · refine g_iload_n (pc := 78) E dX6_scaling_78 (i := 3) rfl rfl ?_
              refine g_iconst (pc := 79) E dX6_scaling_79 rfl ?_
              refine g_icmp_ne (pc := 80) (tgt := 96) E dX6_scaling_80 (by decide) (fun qh80 => ?_) (fun qh80 => ?_) 
              · exact g_wk2 (JP96 () (by omega) (by omega) (by omega) (by omega) (by omega) (by omega) (by omega)) ⟨rfl, rfl, rfl, rfl, rfl, trivial⟩
              · refine g_aload_n (pc := 83) E dX6_scaling_83 (i := 0) rfl rfl ?_
                refine g_iload_n (pc := 84) E dX6_scaling_84 (i := 1) rfl rfl ?_
                refine g_iload_n (pc := 85) E dX6_scaling_85 (i := 2) rfl rfl ?_
                refine g_iconst (pc := 86) E dX6_scaling_86 rfl ?_
                refine g_callV (pc := 87) (As := [_, _, _]) E dX6_scaling_87 ml_X6_103 (ct_sum e5 hV (by omega) (by omega) (by omega) (by omega)) rfl rfl rfl rfl (by decide) (by decide) rfl (Nat.le_of_ble_eq_true rfl) (by decide) (fun x87 M87 hM87 => ?_)
                obtain ⟨rfl, rfl⟩ := hM87
                refine g_iload (pc := 90) E dX6_scaling_90 rfl ?_
                refine g_callS (pc := 92) (As := [_, _]) E dX6_scaling_92 ml_X6_94 (ct_nearest (by omega) (by omega) (by omega) (by omega)) rfl rfl (by decide) (by decide) rfl (Nat.le_of_ble_eq_true rfl) (by decide) (fun x92 M92 hM92 => ?_)
                obtain ⟨rfl, rfl⟩ := hM92
                refine g_iret (pc := 95) E hr dX6_scaling_95 ?_
                exact ⟨by rw [sclS, if_neg (by omega), if_neg (by omega), if_neg (by omega), if_neg (by omega), if_neg (by omega), if_pos (by omega)], SCm.rf M⟩
            · refine g_bipush (pc := 75) E dX6_scaling_75 rfl ?_
              refine g_iret (pc := 77) E hr dX6_scaling_77 ?_
              exact ⟨by rw [sclS, if_neg (by omega), if_neg (by omega), if_neg (by omega), if_neg (by omega), if_pos (by omega)], SCm.rf M⟩
        · refine g_iload (pc := 62) E dX6_scaling_62 rfl ?_
          refine g_iret (pc := 64) E hr dX6_scaling_64 ?_
          exact ⟨by rw [sclS, if_neg (by omega), if_neg (by omega), if_neg (by omega), if_pos (by omega)], SCm.rf M⟩
      · refine g_aload_n (pc := 38) E dX6_scaling_38 (i := 0) rfl rfl ?_
        refine g_getr (i := 184) (j := 185) (t := 6) (f := 0) (pc := 39) E dX6_scaling_39 fl_X6_9 rfl (by decide) (by decide) rfl rfl ?_
        refine g_sipush (pc := 42) E dX6_scaling_42 rfl ?_
        refine g_iconst (pc := 45) E dX6_scaling_45 rfl ?_
        refine g_iconst (pc := 46) E dX6_scaling_46 rfl ?_
        refine g_iload_n (pc := 47) E dX6_scaling_47 (i := 1) rfl rfl ?_
        refine g_imul (pc := 48) E dX6_scaling_48 ?_
        refine g_iload_n (pc := 49) E dX6_scaling_49 (i := 2) rfl rfl ?_
        refine g_iadd (pc := 50) E dX6_scaling_50 ?_
        refine g_imul (pc := 51) E dX6_scaling_51 ?_
        refine g_iadd (pc := 52) E dX6_scaling_52 ?_
        refine g_iload_n (pc := 53) E dX6_scaling_53 (i := 3) rfl rfl ?_
        refine g_iadd (pc := 54) E dX6_scaling_54 ?_
        refine g_iald (pc := 55) E dX6_scaling_55 rfl (by omega) (by omega) (congrFun e5 _) (fun _ _ => ?_)
        refine g_iret (pc := 56) E hr dX6_scaling_56 ?_
        exact ⟨by rw [sclS, if_neg (by omega), if_neg (by omega), if_pos (by omega)], SCm.rf M⟩
    · replace qh18 := bi_0.mp qh18
      refine g_bipush (pc := 21) E dX6_scaling_21 rfl ?_
      refine g_iret (pc := 23) E hr dX6_scaling_23 ?_
      exact ⟨by rw [sclS, if_neg (by omega), if_pos (by omega)], SCm.rf M⟩
  · replace qh6 := bi_0.mp qh6
    refine g_iconst (pc := 9) E dX6_scaling_9 rfl ?_
    refine g_iret (pc := 10) E hr dX6_scaling_10 ?_
    exact ⟨by rw [sclS, if_pos (by omega)], SCm.rf M⟩

theorem ct_passedCredits {cx : Cx} {M : Mem} {S : Int → Int} (e5 : M 185 = S) {mk : Int → Int} (hV : SOK S) (h194 : ∀ m, 0 ≤ m → m < S 5 → M 194 m = bi (psM S mk m)) : Ct cx yX6_passedCredits cX6_passedCredits 3 (some .int) 2 0 0 [rf cx 184] M (fun rz M' => pcrS S mk = rz ∧ M = M') := by
  refine ct_intro cd_X6_passedCredits (by decide +kernel) (Nat.le_of_ble_eq_true rfl) rfl (fun Pg Lc Ev s m args below meth c E hr => ?_)
  refine g_ent (ls' := [some (rf cx 184), none, none]) rfl ?_
  have hV0 := hV.1
  refine g_iconst (pc := 0) E dX6_passedCredits_0 rfl ?_
  refine g_istore_n (pc := 1) E dX6_passedCredits_1 (i := 1) (ls' := [_, _, _]) rfl (Nat.le_of_ble_eq_true rfl) rfl ?_
  refine g_iconst (pc := 2) E dX6_passedCredits_2 rfl ?_
  refine g_istore_n (pc := 3) E dX6_passedCredits_3 (i := 2) (ls' := [_, _, _]) rfl (Nat.le_of_ble_eq_true rfl) rfl ?_
  have LP4 : ∀ (n : Nat) (x a : Int), S 5 - x < (n : Int) → 0 ≤ x → x ≤ S 5 → a = sz (pcrF S mk) x → G cx Pg Lc Ev (rmD 2 0 0) s m args below meth c (MQ below (QI cx (fun rz M' => pcrS S mk = rz ∧ M = M')) args s 0 0 (cA0 cx)) 4 [some (rf cx 184), some (.int (oi a)), some (.int (oi x))] [] (M) 0 0 := by
    intro n
    induction n with
    | zero => intro x a hn hx0 hx1 ha; exact absurd hn (by omega)
    | succ n ih4 =>
      intro x a hn hx0 hx1 ha
      have haR := pcr_R (mk := mk) hV hx0 hx1
      refine g_iload_n (pc := 4) E dX6_passedCredits_4 (i := 2) rfl rfl ?_
      refine g_aload_n (pc := 5) E dX6_passedCredits_5 (i := 0) rfl rfl ?_
      refine g_getr (i := 184) (j := 185) (t := 6) (f := 0) (pc := 6) E dX6_passedCredits_6 fl_X6_9 rfl (by decide) (by decide) rfl rfl ?_
      refine g_iconst (pc := 9) E dX6_passedCredits_9 rfl ?_
      refine g_iald (pc := 10) E dX6_passedCredits_10 rfl (by omega) (by omega) (congrFun e5 _) (fun _ _ => ?_)
      refine g_icmp_ge (pc := 11) (tgt := 37) E dX6_passedCredits_11 (by decide) (fun qh11 => ?_) (fun qh11 => ?_) 
      · refine g_iload_n (pc := 37) E dX6_passedCredits_37 (i := 1) rfl rfl ?_
        refine g_iret (pc := 38) E hr dX6_passedCredits_38 ?_
        exact ⟨by rw [pcrS, ha, show x = S 5 by omega], rfl⟩
      · have hVm := hV.2.1 x (by omega) (by omega)
        have hbR := bi_R (psM S mk x)
        refine g_aload_n (pc := 14) E dX6_passedCredits_14 (i := 0) rfl rfl ?_
        refine g_getr (i := 184) (j := 194) (t := 6) (f := 17) (pc := 15) E dX6_passedCredits_15 fl_X6_37 rfl (by decide) (by decide) rfl rfl ?_
        refine g_iload_n (pc := 18) E dX6_passedCredits_18 (i := 2) rfl rfl ?_
        refine g_zald (pc := 19) E dX6_passedCredits_19 rfl (by omega) (by omega) (h194 x (by omega) (by omega)) (fun _ _ => ?_)
        refine g_if_eq (pc := 20) (tgt := 31) E dX6_passedCredits_20 (by decide) (fun qh20 => ?_) (fun qh20 => ?_) 
        · replace qh20 := bi_0.mp qh20
          refine g_iinc (pc := 31) E dX6_passedCredits_31 (ls' := [_, _, _]) rfl rfl rfl ?_
          refine g_goto (pc := 34) (tgt := 4) E dX6_passedCredits_34 (by decide) ?_
          exact g_wk2 (ih4 (x + 1) a (by omega) (by omega) (by omega) (by rw [sz_s hx0, ha, show pcrF S mk x = 0 from if_neg qh20]; omega)) ⟨rfl, rfl, rfl, trivial⟩
        · replace qh20 := bi_n.mp qh20
          refine g_iload_n (pc := 23) E dX6_passedCredits_23 (i := 1) rfl rfl ?_
          refine g_aload_n (pc := 24) E dX6_passedCredits_24 (i := 0) rfl rfl ?_
          refine g_iload_n (pc := 25) E dX6_passedCredits_25 (i := 2) rfl rfl ?_
          refine g_callV (pc := 26) (As := [_]) E dX6_passedCredits_26 ml_X6_146 (ct_credits e5 (by omega) (by omega)) rfl rfl rfl rfl (by decide) (by decide) rfl (Nat.le_of_ble_eq_true rfl) (by decide) (fun x26 M26 hM26 => ?_)
          obtain ⟨rfl, rfl⟩ := hM26
          refine g_iadd (pc := 29) E dX6_passedCredits_29 ?_
          refine g_istore_n (pc := 30) E dX6_passedCredits_30 (i := 1) (ls' := [_, _, _]) rfl (Nat.le_of_ble_eq_true rfl) rfl ?_
          refine g_iinc (pc := 31) E dX6_passedCredits_31 (ls' := [_, _, _]) rfl rfl rfl ?_
          refine g_goto (pc := 34) (tgt := 4) E dX6_passedCredits_34 (by decide) ?_
          exact g_wk2 (ih4 (x + 1) (a + S (9 + x)) (by omega) (by omega) (by omega) (by rw [sz_s hx0, ha, show pcrF S mk x = S (9 + x) from if_pos qh20])) ⟨rfl, rfl, rfl, trivial⟩
  exact g_wk2 (LP4 (S 5 + 1).toNat 0 0 (by omega) (by omega) (by omega) rfl) ⟨rfl, rfl, rfl, trivial⟩

set_option maxHeartbeats 4000000 in
theorem ct_account {cx : Cx} {M : Mem} {S : Int → Int} (e5 : M 185 = S) {w : Int} (hV : SOK S) (hw : -2147483648 ≤ w ∧ w ≤ 2147483647) (ho : ∀ j, 0 ≤ j → j < S 8 → 0 ≤ S (585 + j) ∧ S (585 + j) / 8 < S 7 ∧ S (585 + j) % 8 < S 6) (h7 : 0 ≤ M 184 7 ∧ M 184 7 ≤ 80) (h2 : 0 ≤ M 184 2 ∧ M 184 2 ≤ 8) : Ct cx yX6_account cX6_account 6 (some .int) 10 0 0 [rf cx 184, .int (oi w)] M (fun rz M' => acS S (M 184 7) (M 184 2) w = rz ∧ SCm M M') := by
  refine ct_intro cd_X6_account (by decide +kernel) (Nat.le_of_ble_eq_true rfl) rfl (fun Pg Lc Ev s m args below meth c E hr => ?_)
  refine g_ent (ls' := [some (rf cx 184), some (.int (oi w)), none, none, none, none]) rfl ?_
  have hV0 := hV.1
  have e5M := e5
  have hf := LKf.rf M
  have JP77 : ∀ (_ : Unit), 4 ≤ w → w ≤ 6 → G cx Pg Lc Ev (rmD 10 0 0) s m args below meth c (MQ below (QI cx (fun rz M' => acS S (M 184 7) (M 184 2) w = rz ∧ SCm M M')) args s 0 0 (cA0 cx)) 77 [some (rf cx 184), some (.int (oi w)), some (.int (oi 0)), none, none, none] [] (M) 0 0 := by
    intro _ hw4 hw6
    refine g_iconst (pc := 77) E dX6_account_77 rfl ?_
    refine g_istore_n (pc := 78) E dX6_account_78 (i := 3) (ls' := [_, _, _, _, _, _]) rfl (Nat.le_of_ble_eq_true rfl) rfl ?_
    have LP79 : ∀ (n : Nat) (x a : Int), S 8 - x < (n : Int) → 0 ≤ x → x ≤ S 8 → a = sz (acF S w) x → G cx Pg Lc Ev (rmD 10 0 0) s m args below meth c (MQ below (QI cx (fun rz M' => acS S (M 184 7) (M 184 2) w = rz ∧ SCm M M')) args s 0 0 (cA0 cx)) 79 [some (rf cx 184), some (.int (oi w)), some (.int (oi a)), some (.int (oi x)), none, none] [] (M) 0 0 := by
      intro n
      induction n with
      | zero => intro x a hn hx0 hx1 ha; exact absurd hn (by omega)
      | succ n ih79 =>
        intro x a hn hx0 hx1 ha
        have haR := sz_R (f := acF S w) (a := -1) (b := 100) hx0 (fun j q0 q1 => by
          have hoj := ho j q0 (by omega)
          have := mkS_R hV (s := S (585 + j) / 8) (p := S (585 + j) % 8) (by omega) (by omega) (by omega) (by omega)
          unfold acF
          (repeat' split) <;> omega)
        refine g_iload_n (pc := 79) E dX6_account_79 (i := 3) rfl rfl ?_
        refine g_aload_n (pc := 80) E dX6_account_80 (i := 0) rfl rfl ?_
        refine g_getr (i := 184) (j := 185) (t := 6) (f := 0) (pc := 81) E dX6_account_81 fl_X6_9 rfl (by decide) (by decide) rfl rfl ?_
        refine g_bipush (pc := 84) E dX6_account_84 rfl ?_
        refine g_iald (pc := 86) E dX6_account_86 rfl (by omega) (by omega) (congrFun e5 _) (fun _ _ => ?_)
        refine g_icmp_ge (pc := 87) (tgt := 189) E dX6_account_87 (by decide) (fun qh87 => ?_) (fun qh87 => ?_) 
        · refine g_iload_n (pc := 189) E dX6_account_189 (i := 2) rfl rfl ?_
          refine g_iret (pc := 190) E hr dX6_account_190 ?_
          exact ⟨by rw [acS, if_neg (by omega), if_neg (by omega), if_pos (by omega), ha, show x = S 8 by omega], SCm.rf M⟩
        · have hoj := ho x (by omega) (by omega)
          have hVa := hV.2.2.2.2.1 (S (585 + x) / 8) (S (585 + x) % 8) (by omega) (by omega) (by omega) (by omega)
          have hVp := hV.2.2.1 (S (585 + x) % 8) (by omega) (by omega)
          have hmR := mkS_R hV (s := S (585 + x) / 8) (p := S (585 + x) % 8) (by omega) (by omega) (by omega) (by omega)
          refine g_aload_n (pc := 90) E dX6_account_90 (i := 0) rfl rfl ?_
          refine g_getr (i := 184) (j := 185) (t := 6) (f := 0) (pc := 91) E dX6_account_91 fl_X6_9 rfl (by decide) (by decide) rfl rfl ?_
          refine g_sipush (pc := 94) E dX6_account_94 rfl ?_
          refine g_iload_n (pc := 97) E dX6_account_97 (i := 3) rfl rfl ?_
          refine g_iadd (pc := 98) E dX6_account_98 ?_
          refine g_iald (pc := 99) E dX6_account_99 rfl (by omega) (by omega) (congrFun e5 _) (fun _ _ => ?_)
          refine g_bipush (pc := 100) E dX6_account_100 rfl ?_
          refine g_idiv (pc := 102) E dX6_account_102 (by omega) (by omega) (by omega) (by omega) ?_
          refine g_istore (pc := 103) E dX6_account_103 (ls' := [_, _, _, _, _, _]) (Nat.le_of_ble_eq_true rfl) rfl ?_
          refine g_aload_n (pc := 105) E dX6_account_105 (i := 0) rfl rfl ?_
          refine g_getr (i := 184) (j := 185) (t := 6) (f := 0) (pc := 106) E dX6_account_106 fl_X6_9 rfl (by decide) (by decide) rfl rfl ?_
          refine g_sipush (pc := 109) E dX6_account_109 rfl ?_
          refine g_iload_n (pc := 112) E dX6_account_112 (i := 3) rfl rfl ?_
          refine g_iadd (pc := 113) E dX6_account_113 ?_
          refine g_iald (pc := 114) E dX6_account_114 rfl (by omega) (by omega) (congrFun e5 _) (fun _ _ => ?_)
          refine g_bipush (pc := 115) E dX6_account_115 rfl ?_
          refine g_irem (pc := 117) E dX6_account_117 (by omega) (by omega) (by omega) (by omega) ?_
          refine g_istore (pc := 118) E dX6_account_118 (ls' := [_, _, _, _, _, _]) (Nat.le_of_ble_eq_true rfl) rfl ?_
          refine g_iload_n (pc := 120) E dX6_account_120 (i := 1) rfl rfl ?_
          refine g_iconst (pc := 121) E dX6_account_121 rfl ?_
          refine g_icmp_ne (pc := 122) (tgt := 142) E dX6_account_122 (by decide) (fun qh122 => ?_) (fun qh122 => ?_) 
          · refine g_iload_n (pc := 142) E dX6_account_142 (i := 1) rfl rfl ?_
            refine g_iconst (pc := 143) E dX6_account_143 rfl ?_
            refine g_icmp_ne (pc := 144) (tgt := 166) E dX6_account_144 (by decide) (fun qh144 => ?_) (fun qh144 => ?_) 
            · refine g_iload_n (pc := 166) E dX6_account_166 (i := 1) rfl rfl ?_
              refine g_bipush (pc := 167) E dX6_account_167 rfl ?_
              refine g_icmp_ne (pc := 169) (tgt := 183) E dX6_account_169 (by decide) (fun qh169 => absurd qh169 (by omega)) (fun qh169 => ?_) 
              refine g_iload_n (pc := 172) E dX6_account_172 (i := 2) rfl rfl ?_
              refine g_aload_n (pc := 173) E dX6_account_173 (i := 0) rfl rfl ?_
              refine g_iload (pc := 174) E dX6_account_174 rfl ?_
              refine g_iload (pc := 176) E dX6_account_176 rfl ?_
              refine g_callV (pc := 178) (As := [_, _]) E dX6_account_178 ml_X6_129 (ct_markOf e5 hV (by omega) (by omega) (by omega) (by omega)) rfl rfl rfl rfl (by decide) (by decide) rfl (Nat.le_of_ble_eq_true rfl) (by decide) (fun x178 M178 hM178 => ?_)
              obtain ⟨rfl, rfl⟩ := hM178
              refine g_iadd (pc := 181) E dX6_account_181 ?_
              refine g_istore_n (pc := 182) E dX6_account_182 (i := 2) (ls' := [_, _, _, _, _, _]) rfl (Nat.le_of_ble_eq_true rfl) rfl ?_
              refine g_iinc (pc := 183) E dX6_account_183 (ls' := [_, _, _, _, _, _]) rfl rfl rfl ?_
              refine g_goto (pc := 186) (tgt := 79) E dX6_account_186 (by decide) ?_
              exact g_wk2 (ih79 (x + 1) (a + mkS S (S (585 + x) / 8) (S (585 + x) % 8)) (by omega) (by omega) (by omega) (by rw [sz_s hx0, ha, show acF S w x = mkS S (S (585 + x) / 8) (S (585 + x) % 8) from by rw [acF, if_neg (by omega), if_neg (by omega)]])) ⟨rfl, rfl, rfl, rfl, trivial⟩
            · refine g_aload_n (pc := 147) E dX6_account_147 (i := 0) rfl rfl ?_
              refine g_getr (i := 184) (j := 185) (t := 6) (f := 0) (pc := 148) E dX6_account_148 fl_X6_9 rfl (by decide) (by decide) rfl rfl ?_
              refine g_iload (pc := 151) E dX6_account_151 rfl ?_
              refine g_iload (pc := 153) E dX6_account_153 rfl ?_
              refine g_callS (pc := 155) (As := [_, _]) E dX6_account_155 ml_X6_81 ct_attemptAt rfl rfl (by decide) (by decide) rfl (Nat.le_of_ble_eq_true rfl) (by decide) (fun x155 M155 hM155 => ?_)
              obtain ⟨rfl, rfl⟩ := hM155
              refine g_iald (pc := 158) E dX6_account_158 rfl (by omega) (by omega) (congrFun e5 _) (fun _ _ => ?_)
              refine g_iconst (pc := 159) E dX6_account_159 rfl ?_
              refine g_icmp_le (pc := 160) (tgt := 166) E dX6_account_160 (by decide) (fun qh160 => ?_) (fun qh160 => ?_) 
              · refine g_iload_n (pc := 166) E dX6_account_166 (i := 1) rfl rfl ?_
                refine g_bipush (pc := 167) E dX6_account_167 rfl ?_
                refine g_icmp_ne (pc := 169) (tgt := 183) E dX6_account_169 (by decide) (fun qh169 => ?_) (fun qh169 => absurd qh169 (by omega)) 
                refine g_iinc (pc := 183) E dX6_account_183 (ls' := [_, _, _, _, _, _]) rfl rfl rfl ?_
                refine g_goto (pc := 186) (tgt := 79) E dX6_account_186 (by decide) ?_
                exact g_wk2 (ih79 (x + 1) a (by omega) (by omega) (by omega) (by rw [sz_s hx0, ha, show acF S w x = 0 from by rw [acF, if_neg (by omega), if_pos (by omega), if_neg (by omega)]]; omega)) ⟨rfl, rfl, rfl, rfl, trivial⟩
              · refine g_iinc (pc := 163) E dX6_account_163 (ls' := [_, _, _, _, _, _]) rfl rfl rfl ?_
                refine g_iload_n (pc := 166) E dX6_account_166 (i := 1) rfl rfl ?_
                refine g_bipush (pc := 167) E dX6_account_167 rfl ?_
                refine g_icmp_ne (pc := 169) (tgt := 183) E dX6_account_169 (by decide) (fun qh169 => ?_) (fun qh169 => absurd qh169 (by omega)) 
                refine g_iinc (pc := 183) E dX6_account_183 (ls' := [_, _, _, _, _, _]) rfl rfl rfl ?_
                refine g_goto (pc := 186) (tgt := 79) E dX6_account_186 (by decide) ?_
                exact g_wk2 (ih79 (x + 1) (a + 1) (by omega) (by omega) (by omega) (by rw [sz_s hx0, ha, show acF S w x = 1 from by rw [acF, if_neg (by omega), if_pos (by omega), if_pos (by omega)]])) ⟨rfl, rfl, rfl, rfl, trivial⟩
          · refine g_aload_n (pc := 125) E dX6_account_125 (i := 0) rfl rfl ?_
            refine g_getr (i := 184) (j := 185) (t := 6) (f := 0) (pc := 126) E dX6_account_126 fl_X6_9 rfl (by decide) (by decide) rfl rfl ?_
            refine g_iload (pc := 129) E dX6_account_129 rfl ?_
            refine g_iload (pc := 131) E dX6_account_131 rfl ?_
            refine g_callS (pc := 133) (As := [_, _]) E dX6_account_133 ml_X6_81 ct_attemptAt rfl rfl (by decide) (by decide) rfl (Nat.le_of_ble_eq_true rfl) (by decide) (fun x133 M133 hM133 => ?_)
            obtain ⟨rfl, rfl⟩ := hM133
            refine g_iconst (pc := 136) E dX6_account_136 rfl ?_
            refine g_iadd (pc := 137) E dX6_account_137 ?_
            refine g_iald (pc := 138) E dX6_account_138 rfl (by omega) (by omega) (congrFun e5 _) (fun _ _ => ?_)
            refine g_if_ge (pc := 139) (tgt := 163) E dX6_account_139 (by decide) (fun qh139 => ?_) (fun qh139 => ?_) 
            · refine g_iinc (pc := 163) E dX6_account_163 (ls' := [_, _, _, _, _, _]) rfl rfl rfl ?_
              refine g_iload_n (pc := 166) E dX6_account_166 (i := 1) rfl rfl ?_
              refine g_bipush (pc := 167) E dX6_account_167 rfl ?_
              refine g_icmp_ne (pc := 169) (tgt := 183) E dX6_account_169 (by decide) (fun qh169 => ?_) (fun qh169 => absurd qh169 (by omega)) 
              refine g_iinc (pc := 183) E dX6_account_183 (ls' := [_, _, _, _, _, _]) rfl rfl rfl ?_
              refine g_goto (pc := 186) (tgt := 79) E dX6_account_186 (by decide) ?_
              exact g_wk2 (ih79 (x + 1) (a + 1) (by omega) (by omega) (by omega) (by rw [sz_s hx0, ha, show acF S w x = 1 from by rw [acF, if_pos (by omega), if_pos (by omega)]])) ⟨rfl, rfl, rfl, rfl, trivial⟩
            · refine g_iload_n (pc := 142) E dX6_account_142 (i := 1) rfl rfl ?_
              refine g_iconst (pc := 143) E dX6_account_143 rfl ?_
              refine g_icmp_ne (pc := 144) (tgt := 166) E dX6_account_144 (by decide) (fun qh144 => ?_) (fun qh144 => absurd qh144 (by omega)) 
              refine g_iload_n (pc := 166) E dX6_account_166 (i := 1) rfl rfl ?_
              refine g_bipush (pc := 167) E dX6_account_167 rfl ?_
              refine g_icmp_ne (pc := 169) (tgt := 183) E dX6_account_169 (by decide) (fun qh169 => ?_) (fun qh169 => absurd qh169 (by omega)) 
              refine g_iinc (pc := 183) E dX6_account_183 (ls' := [_, _, _, _, _, _]) rfl rfl rfl ?_
              refine g_goto (pc := 186) (tgt := 79) E dX6_account_186 (by decide) ?_
              exact g_wk2 (ih79 (x + 1) a (by omega) (by omega) (by omega) (by rw [sz_s hx0, ha, show acF S w x = 0 from by rw [acF, if_pos (by omega), if_neg (by omega)]]; omega)) ⟨rfl, rfl, rfl, rfl, trivial⟩
    exact g_wk2 (LP79 (S 8 + 1).toNat 0 0 (by omega) (by omega) (by omega) rfl) ⟨rfl, rfl, rfl, rfl, trivial⟩
  refine g_iconst (pc := 0) E dX6_account_0 rfl ?_
  refine g_istore_n (pc := 1) E dX6_account_1 (i := 2) (ls' := [_, _, _, _, _, _]) rfl (Nat.le_of_ble_eq_true rfl) rfl ?_
  refine g_iload_n (pc := 2) E dX6_account_2 (i := 1) rfl rfl ?_
  by_cases qs3_0 : w = 0
  · refine g_tableIn (pc := 3) (tgt := 60) (off := 57) E dX6_account_3 (by omega) (by omega) (by rw [qs3_0]; rfl) (by decide) ?_
    refine g_aload_n (pc := 60) E dX6_account_60 (i := 0) rfl rfl ?_
    refine g_getr (i := 184) (j := 185) (t := 6) (f := 0) (pc := 61) E dX6_account_61 fl_X6_9 rfl (by decide) (by decide) rfl rfl ?_
    refine g_iconst (pc := 64) E dX6_account_64 rfl ?_
    refine g_iload_n (pc := 65) E dX6_account_65 (i := 1) rfl rfl ?_
    refine g_iadd (pc := 66) E dX6_account_66 ?_
    refine g_iald (pc := 67) E dX6_account_67 rfl (by omega) (by omega) (congrFun e5 _) (fun _ _ => ?_)
    refine g_iret (pc := 68) E hr dX6_account_68 ?_
    exact ⟨by rw [acS, if_pos (by omega)], SCm.rf M⟩
  by_cases qs3_1 : w = 1
  · refine g_tableIn (pc := 3) (tgt := 60) (off := 57) E dX6_account_3 (by omega) (by omega) (by rw [qs3_1]; rfl) (by decide) ?_
    refine g_aload_n (pc := 60) E dX6_account_60 (i := 0) rfl rfl ?_
    refine g_getr (i := 184) (j := 185) (t := 6) (f := 0) (pc := 61) E dX6_account_61 fl_X6_9 rfl (by decide) (by decide) rfl rfl ?_
    refine g_iconst (pc := 64) E dX6_account_64 rfl ?_
    refine g_iload_n (pc := 65) E dX6_account_65 (i := 1) rfl rfl ?_
    refine g_iadd (pc := 66) E dX6_account_66 ?_
    refine g_iald (pc := 67) E dX6_account_67 rfl (by omega) (by omega) (congrFun e5 _) (fun _ _ => ?_)
    refine g_iret (pc := 68) E hr dX6_account_68 ?_
    exact ⟨by rw [acS, if_pos (by omega)], SCm.rf M⟩
  by_cases qs3_2 : w = 2
  · refine g_tableIn (pc := 3) (tgt := 60) (off := 57) E dX6_account_3 (by omega) (by omega) (by rw [qs3_2]; rfl) (by decide) ?_
    refine g_aload_n (pc := 60) E dX6_account_60 (i := 0) rfl rfl ?_
    refine g_getr (i := 184) (j := 185) (t := 6) (f := 0) (pc := 61) E dX6_account_61 fl_X6_9 rfl (by decide) (by decide) rfl rfl ?_
    refine g_iconst (pc := 64) E dX6_account_64 rfl ?_
    refine g_iload_n (pc := 65) E dX6_account_65 (i := 1) rfl rfl ?_
    refine g_iadd (pc := 66) E dX6_account_66 ?_
    refine g_iald (pc := 67) E dX6_account_67 rfl (by omega) (by omega) (congrFun e5 _) (fun _ _ => ?_)
    refine g_iret (pc := 68) E hr dX6_account_68 ?_
    exact ⟨by rw [acS, if_pos (by omega)], SCm.rf M⟩
  by_cases qs3_3 : w = 3
  · refine g_tableIn (pc := 3) (tgt := 69) (off := 66) E dX6_account_3 (by omega) (by omega) (by rw [qs3_3]; rfl) (by decide) ?_
    refine g_aload_n (pc := 69) E dX6_account_69 (i := 0) rfl rfl ?_
    refine g_getr (i := 184) (j := 185) (t := 6) (f := 0) (pc := 70) E dX6_account_70 fl_X6_9 rfl (by decide) (by decide) rfl rfl ?_
    refine g_bipush (pc := 73) E dX6_account_73 rfl ?_
    refine g_iald (pc := 75) E dX6_account_75 rfl (by omega) (by omega) (congrFun e5 _) (fun _ _ => ?_)
    refine g_iret (pc := 76) E hr dX6_account_76 ?_
    exact ⟨by rw [acS, if_neg (by omega), if_pos (by omega)], SCm.rf M⟩
  by_cases qs3_4 : w = 4
  · refine g_tableIn (pc := 3) (tgt := 77) (off := 74) E dX6_account_3 (by omega) (by omega) (by rw [qs3_4]; rfl) (by decide) ?_
    exact g_wk2 (JP77 () (by omega) (by omega)) ⟨rfl, rfl, rfl, trivial⟩
  by_cases qs3_5 : w = 5
  · refine g_tableIn (pc := 3) (tgt := 77) (off := 74) E dX6_account_3 (by omega) (by omega) (by rw [qs3_5]; rfl) (by decide) ?_
    exact g_wk2 (JP77 () (by omega) (by omega)) ⟨rfl, rfl, rfl, trivial⟩
  by_cases qs3_6 : w = 6
  · refine g_tableIn (pc := 3) (tgt := 77) (off := 74) E dX6_account_3 (by omega) (by omega) (by rw [qs3_6]; rfl) (by decide) ?_
    exact g_wk2 (JP77 () (by omega) (by omega)) ⟨rfl, rfl, rfl, trivial⟩
  by_cases qs3_7 : w = 7
  · refine g_tableIn (pc := 3) (tgt := 191) (off := 188) E dX6_account_3 (by omega) (by omega) (by rw [qs3_7]; rfl) (by decide) ?_
    refine g_iconst (pc := 191) E dX6_account_191 rfl ?_
    refine g_istore_n (pc := 192) E dX6_account_192 (i := 3) (ls' := [_, _, _, _, _, _]) rfl (Nat.le_of_ble_eq_true rfl) rfl ?_
    have LP193 : ∀ (n : Nat) (x a : Int), S 5 - x < (n : Int) → 0 ≤ x → x ≤ S 5 → a = sz (aF S) x → G cx Pg Lc Ev (rmD 10 0 0) s m args below meth c (MQ below (QI cx (fun rz M' => acS S (M 184 7) (M 184 2) w = rz ∧ SCm M M')) args s 0 0 (cA0 cx)) 193 [some (rf cx 184), some (.int (oi w)), some (.int (oi a)), some (.int (oi x)), none, none] [] (M) 0 0 := by
      intro n
      induction n with
      | zero => intro x a hn hx0 hx1 ha; exact absurd hn (by omega)
      | succ n ih193 =>
        intro x a hn hx0 hx1 ha
        have haR := allS_R hV hx0 hx1
        refine g_iload_n (pc := 193) E dX6_account_193 (i := 3) rfl rfl ?_
        refine g_aload_n (pc := 194) E dX6_account_194 (i := 0) rfl rfl ?_
        refine g_getr (i := 184) (j := 185) (t := 6) (f := 0) (pc := 195) E dX6_account_195 fl_X6_9 rfl (by decide) (by decide) rfl rfl ?_
        refine g_iconst (pc := 198) E dX6_account_198 rfl ?_
        refine g_iald (pc := 199) E dX6_account_199 rfl (by omega) (by omega) (congrFun e5 _) (fun _ _ => ?_)
        refine g_icmp_ge (pc := 200) (tgt := 225) E dX6_account_200 (by decide) (fun qh200 => ?_) (fun qh200 => ?_) 
        · refine g_iload_n (pc := 225) E dX6_account_225 (i := 2) rfl rfl ?_
          refine g_iret (pc := 226) E hr dX6_account_226 ?_
          exact ⟨by rw [acS, if_neg (by omega), if_neg (by omega), if_neg (by omega), if_pos (by omega), ha, show x = S 5 by omega]; rfl, SCm.rf M⟩
        · have hVm := hV.2.1 x (by omega) (by omega)
          have hpc := pcnt_R S x
          refine g_aload_n (pc := 203) E dX6_account_203 (i := 0) rfl rfl ?_
          refine g_iload_n (pc := 204) E dX6_account_204 (i := 3) rfl rfl ?_
          refine g_callV (pc := 205) (As := [_]) E dX6_account_205 ml_X6_143 (ct_counts e5 hV (by omega)) rfl rfl rfl rfl (by decide) (by decide) rfl (Nat.le_of_ble_eq_true rfl) (by decide) (fun x205 M205 hM205 => ?_)
          obtain ⟨rfl, rfl⟩ := hM205
          refine g_if_eq (pc := 208) (tgt := 219) E dX6_account_208 (by decide) (fun qh208 => ?_) (fun qh208 => ?_) (Int.le_trans (by decide) (bi_R _).1) (Int.le_trans (bi_R _).2 (by decide))
          · replace qh208 := bi_0.mp qh208
            refine g_iinc (pc := 219) E dX6_account_219 (ls' := [_, _, _, _, _, _]) rfl rfl rfl ?_
            refine g_goto (pc := 222) (tgt := 193) E dX6_account_222 (by decide) ?_
            exact g_wk2 (ih193 (x + 1) a (by omega) (by omega) (by omega) (by rw [sz_s hx0, ha, show aF S x = 0 from if_neg (by omega)]; omega)) ⟨rfl, rfl, rfl, rfl, trivial⟩
          · replace qh208 := bi_n.mp qh208
            refine g_iload_n (pc := 211) E dX6_account_211 (i := 2) rfl rfl ?_
            refine g_aload_n (pc := 212) E dX6_account_212 (i := 0) rfl rfl ?_
            refine g_iload_n (pc := 213) E dX6_account_213 (i := 3) rfl rfl ?_
            refine g_callV (pc := 214) (As := [_]) E dX6_account_214 ml_X6_146 (ct_credits e5 (by omega) (by omega)) rfl rfl rfl rfl (by decide) (by decide) rfl (Nat.le_of_ble_eq_true rfl) (by decide) (fun x214 M214 hM214 => ?_)
            obtain ⟨rfl, rfl⟩ := hM214
            refine g_iadd (pc := 217) E dX6_account_217 ?_
            refine g_istore_n (pc := 218) E dX6_account_218 (i := 2) (ls' := [_, _, _, _, _, _]) rfl (Nat.le_of_ble_eq_true rfl) rfl ?_
            refine g_iinc (pc := 219) E dX6_account_219 (ls' := [_, _, _, _, _, _]) rfl rfl rfl ?_
            refine g_goto (pc := 222) (tgt := 193) E dX6_account_222 (by decide) ?_
            exact g_wk2 (ih193 (x + 1) (a + S (9 + x)) (by omega) (by omega) (by omega) (by rw [sz_s hx0, ha, show aF S x = S (9 + x) from if_pos (by omega)])) ⟨rfl, rfl, rfl, rfl, trivial⟩
    exact g_wk2 (LP193 (S 5 + 1).toNat 0 0 (by omega) (by omega) (by omega) rfl) ⟨rfl, rfl, rfl, rfl, trivial⟩
  by_cases qs3_8 : w = 8
  · refine g_tableIn (pc := 3) (tgt := 227) (off := 224) E dX6_account_3 (by omega) (by omega) (by rw [qs3_8]; rfl) (by decide) ?_
    refine g_iconst (pc := 227) E dX6_account_227 rfl ?_
    refine g_istore_n (pc := 228) E dX6_account_228 (i := 3) (ls' := [_, _, _, _, _, _]) rfl (Nat.le_of_ble_eq_true rfl) rfl ?_
    have LP229 : ∀ (n : Nat) (N : Mem) (x a : Int), S 7 - x < (n : Int) → 0 ≤ x → x ≤ S 7 → LKf M N → a = sz (fun s => pcrS S (lkM S s (-1) 0)) x → G cx Pg Lc Ev (rmD 10 0 0) s m args below meth c (MQ below (QI cx (fun rz M' => acS S (M 184 7) (M 184 2) w = rz ∧ SCm M M')) args s 0 0 (cA0 cx)) 229 [some (rf cx 184), some (.int (oi w)), some (.int (oi a)), some (.int (oi x)), none, none] [] (N) 0 0 := by
      intro n
      induction n with
      | zero => intro N x a hn hx0 hx1 hf ha; exact absurd hn (by omega)
      | succ n ih229 =>
        intro N x a hn hx0 hx1 hf ha
        have e5 : N 185 = S := hf.e e5M
        have haR := sz_R (f := fun s => pcrS S (lkM S s (-1) 0)) (a := 0) (b := 36) hx0 (fun j _ _ => pcr_R hV (by omega) (Int.le_refl _))
        refine g_iload_n (pc := 229) E dX6_account_229 (i := 3) rfl rfl ?_
        refine g_aload_n (pc := 230) E dX6_account_230 (i := 0) rfl rfl ?_
        refine g_getr (i := 184) (j := 185) (t := 6) (f := 0) (pc := 231) E dX6_account_231 fl_X6_9 rfl (by decide) (by decide) rfl rfl ?_
        refine g_bipush (pc := 234) E dX6_account_234 rfl ?_
        refine g_iald (pc := 236) E dX6_account_236 rfl (by omega) (by omega) (congrFun e5 _) (fun _ _ => ?_)
        refine g_icmp_ge (pc := 237) (tgt := 260) E dX6_account_237 (by decide) (fun qh237 => ?_) (fun qh237 => ?_) 
        · refine g_iload_n (pc := 260) E dX6_account_260 (i := 2) rfl rfl ?_
          refine g_iret (pc := 261) E hr dX6_account_261 ?_
          exact ⟨by rw [acS, if_neg (by omega), if_neg (by omega), if_neg (by omega), if_neg (by omega), if_pos (by omega), ha, show x = S 7 by omega], hf.sc⟩
        · refine g_aload_n (pc := 240) E dX6_account_240 (i := 0) rfl rfl ?_
          refine g_iload_n (pc := 241) E dX6_account_241 (i := 3) rfl rfl ?_
          refine g_iconst (pc := 242) E dX6_account_242 rfl ?_
          refine g_iconst (pc := 243) E dX6_account_243 rfl ?_
          refine g_callVv (pc := 244) (As := [_, _, _]) E dX6_account_244 ml_X6_90 (cv_looks e5 hV (by omega) (by omega) (by omega) (by omega)) rfl rfl rfl rfl (by decide) (by decide) rfl (Nat.le_of_ble_eq_true rfl) (by decide) (fun M244 hM244 => ?_)
          have hf244 := LKf.tr hf hM244.1
          have e5 : M244 185 = S := hf244.e e5M
          have hpR : 0 ≤ pcrS S (lkM S x (-1) 0) ∧ pcrS S (lkM S x (-1) 0) ≤ 36 := pcr_R hV (by omega) (Int.le_refl _)
          refine g_iload_n (pc := 247) E dX6_account_247 (i := 2) rfl rfl ?_
          refine g_aload_n (pc := 248) E dX6_account_248 (i := 0) rfl rfl ?_
          refine g_callV (pc := 249) (As := []) E dX6_account_249 ml_X6_202 (ct_passedCredits e5 hV (fun m h0 h1 => (hM244.2.2.1 m h0 h1).2)) rfl rfl rfl rfl (by decide) (by decide) rfl (Nat.le_of_ble_eq_true rfl) (by decide) (fun x249 M249 hM249 => ?_)
          obtain ⟨rfl, rfl⟩ := hM249
          refine g_iadd (pc := 252) E dX6_account_252 ?_
          refine g_istore_n (pc := 253) E dX6_account_253 (i := 2) (ls' := [_, _, _, _, _, _]) rfl (Nat.le_of_ble_eq_true rfl) rfl ?_
          refine g_iinc (pc := 254) E dX6_account_254 (ls' := [_, _, _, _, _, _]) rfl rfl rfl ?_
          refine g_goto (pc := 257) (tgt := 229) E dX6_account_257 (by decide) ?_
          exact g_wk2 (ih229 M244 (x + 1) (a + pcrS S (lkM S x (-1) 0)) (by omega) (by omega) (by omega) hf244 (by rw [sz_s hx0, ha])) ⟨rfl, rfl, rfl, rfl, trivial⟩
    exact g_wk2 (LP229 (S 7 + 1).toNat M 0 0 (by omega) (by omega) (by omega) hf rfl) ⟨rfl, rfl, rfl, rfl, trivial⟩
  by_cases qs3_9 : w = 9
  · refine g_tableIn (pc := 3) (tgt := 262) (off := 259) E dX6_account_3 (by omega) (by omega) (by rw [qs3_9]; rfl) (by decide) ?_
    refine g_aload_n (pc := 262) E dX6_account_262 (i := 0) rfl rfl ?_
    refine g_geti (i := 184) (t := 6) (f := 7) (fz := 7) (pc := 263) E dX6_account_263 fl_X6_206 rfl (by decide) (by decide) rfl rfl rfl (fun _ _ => ?_)
    refine g_iret (pc := 266) E hr dX6_account_266 ?_
    exact ⟨by rw [acS, if_neg (by omega), if_neg (by omega), if_neg (by omega), if_neg (by omega), if_neg (by omega), if_pos (by omega)], SCm.rf M⟩
  by_cases qs3_10 : w = 10
  · refine g_tableIn (pc := 3) (tgt := 267) (off := 264) E dX6_account_3 (by omega) (by omega) (by rw [qs3_10]; rfl) (by decide) ?_
    refine g_aload_n (pc := 267) E dX6_account_267 (i := 0) rfl rfl ?_
    refine g_geti (i := 184) (t := 6) (f := 2) (fz := 2) (pc := 268) E dX6_account_268 fl_X6_50 rfl (by decide) (by decide) rfl rfl rfl (fun _ _ => ?_)
    refine g_iret (pc := 271) E hr dX6_account_271 ?_
    exact ⟨by rw [acS, if_neg (by omega), if_neg (by omega), if_neg (by omega), if_neg (by omega), if_neg (by omega), if_neg (by omega), if_pos (by omega)], SCm.rf M⟩
  refine g_tableOut (pc := 3) (tgt := 272) E dX6_account_3 (by omega) (by decide) ?_
  refine g_iload_n (pc := 272) E dX6_account_272 (i := 1) rfl rfl ?_
  refine g_bipush (pc := 273) E dX6_account_273 rfl ?_
  refine g_bipush (pc := 275) E dX6_account_275 rfl ?_
  refine g_callS (pc := 277) (As := [_, _, _]) E dX6_account_277 ml_X6_66 (ct_in (by omega) (by omega) (by omega)) rfl rfl (by decide) (by decide) rfl (Nat.le_of_ble_eq_true rfl) (by decide) (fun x277 M277 hM277 => ?_)
  obtain ⟨rfl, rfl⟩ := hM277
  refine g_if_eq (pc := 280) (tgt := 295) E dX6_account_280 (by decide) (fun qh280 => ?_) (fun qh280 => ?_) (Int.le_trans (by decide) (bi_R _).1) (Int.le_trans (bi_R _).2 (by decide))
  · replace qh280 := bi_0.mp qh280
    refine g_bipush (pc := 295) E dX6_account_295 rfl ?_
    refine g_iret (pc := 297) E hr dX6_account_297 ?_
    exact ⟨by rw [acS, if_neg (by omega), if_neg (by omega), if_neg (by omega), if_neg (by omega), if_neg (by omega), if_neg (by omega), if_neg (by omega), if_neg (by omega)], SCm.rf M⟩
  · replace qh280 := bi_n.mp qh280
    refine g_aload_n (pc := 283) E dX6_account_283 (i := 0) rfl rfl ?_
    refine g_getr (i := 184) (j := 185) (t := 6) (f := 0) (pc := 284) E dX6_account_284 fl_X6_9 rfl (by decide) (by decide) rfl rfl ?_
    refine g_iload_n (pc := 287) E dX6_account_287 (i := 1) rfl rfl ?_
    refine g_bipush (pc := 288) E dX6_account_288 rfl ?_
    refine g_isub (pc := 290) E dX6_account_290 ?_
    refine g_iald (pc := 291) E dX6_account_291 rfl (by omega) (by omega) (congrFun e5 _) (fun _ _ => ?_)
    refine g_goto (pc := 292) (tgt := 297) E dX6_account_292 (by decide) ?_
    refine g_iret (pc := 297) E hr dX6_account_297 ?_
    exact ⟨by rw [acS, if_neg (by omega), if_neg (by omega), if_neg (by omega), if_neg (by omega), if_neg (by omega), if_neg (by omega), if_neg (by omega), if_pos (by omega)], SCm.rf M⟩

theorem LKf_row {M N O : Mem} {S S2 : Int → Int} {w v : Int} (hf : LKf M N) (e : N 185 = S) (h : LKf (st N 185 w v) O) (h2 : S2 = ru S w v) (e5 : M 185 = S) : LKf M (st O 185 w (S w)) := by
  have e2 : O 185 = S2 := h.e (by rw [st_row, h2, e]; rfl)
  refine ⟨fun i a b c d g => ?_, fun f hf2 => ?_⟩
  · by_cases hi : i = 185
    · subst hi
      rw [st_row, e2, h2, e5]
      funext y
      show (if y = w then S w else if y = w then v else S y) = S y
      by_cases hy : y = w
      · rw [if_pos hy, hy]
      · rw [if_neg hy, if_neg hy]
    · rw [st_ne hi, h.1 i a b c d g, st_ne hi, hf.1 i a b c d g]
  · rw [st_ne (by decide), h.2 f hf2, st_ne (by decide), hf.2 f hf2]

set_option maxHeartbeats 4000000 in
theorem ct_changedIf {cx : Cx} {M : Mem} {S : Int → Int} (e5 : M 185 = S) {w v : Int} (hV : SOK S) (hw : -2147483648 ≤ w ∧ w ≤ 2147483647) (hv : -2147483648 ≤ v ∧ v ≤ 2147483647) : Ct cx yX6_changedIf cX6_changedIf 7 (some .int) 10 0 0 [rf cx 184, .int (oi w), .int (oi v)] M (fun rz M' => chS S w v = rz ∧ SCm M M') := by
  refine ct_intro cd_X6_changedIf (by decide +kernel) (Nat.le_of_ble_eq_true rfl) rfl (fun Pg Lc Ev s m args below meth c E hr => ?_)
  refine g_ent (ls' := [some (rf cx 184), some (.int (oi w)), some (.int (oi v)), none, none, none, none]) rfl ?_
  have hV0 := hV.1
  have e5M := e5
  have hf := LKf.rf M
  refine g_iload_n (pc := 0) E dX6_changedIf_0 (i := 1) rfl rfl ?_
  refine g_iload_n (pc := 1) E dX6_changedIf_1 (i := 2) rfl rfl ?_
  refine g_callS (pc := 2) (As := [_, _]) E dX6_changedIf_2 ml_X6_70 (ct_isSetting (by omega) (by omega)) rfl rfl (by decide) (by decide) rfl (Nat.le_of_ble_eq_true rfl) (by decide) (fun x2 M2 hM2 => ?_)
  obtain ⟨rfl, rfl⟩ := hM2
  refine g_if_ne (pc := 5) (tgt := 11) E dX6_changedIf_5 (by decide) (fun qh5 => ?_) (fun qh5 => ?_) (Int.le_trans (by decide) (bi_R _).1) (Int.le_trans (bi_R _).2 (by decide))
  · replace qh5 := bi_n.mp qh5
    have hV2 := SOK_set hV qh5
    have h7 : ru S w v 7 = S 7 := ru_off (by omega)
    have hwR : 0 ≤ w ∧ w ≤ 4 := by unfold setOK at qh5; omega
    refine g_aload_n (pc := 11) E dX6_changedIf_11 (i := 0) rfl rfl ?_
    refine g_getr (i := 184) (j := 185) (t := 6) (f := 0) (pc := 12) E dX6_changedIf_12 fl_X6_9 rfl (by decide) (by decide) rfl rfl ?_
    refine g_iload_n (pc := 15) E dX6_changedIf_15 (i := 1) rfl rfl ?_
    refine g_iald (pc := 16) E dX6_changedIf_16 rfl (by omega) (by omega) (congrFun e5 _) (fun _ _ => ?_)
    refine g_istore_n (pc := 17) E dX6_changedIf_17 (i := 3) (ls' := [_, _, _, _, _, _, _]) rfl (Nat.le_of_ble_eq_true rfl) rfl ?_
    refine g_iconst (pc := 18) E dX6_changedIf_18 rfl ?_
    refine g_istore (pc := 19) E dX6_changedIf_19 (ls' := [_, _, _, _, _, _, _]) (Nat.le_of_ble_eq_true rfl) rfl ?_
    refine g_iconst (pc := 21) E dX6_changedIf_21 rfl ?_
    refine g_istore (pc := 22) E dX6_changedIf_22 (ls' := [_, _, _, _, _, _, _]) (Nat.le_of_ble_eq_true rfl) rfl ?_
    have LP24 : ∀ (n : Nat) (N : Mem) (x a : Int), S 7 - x < (n : Int) → 0 ≤ x → x ≤ S 7 → LKf M N → a = sz (chF S w v) x → G cx Pg Lc Ev (rmD 10 0 0) s m args below meth c (MQ below (QI cx (fun rz M' => chS S w v = rz ∧ SCm M M')) args s 0 0 (cA0 cx)) 24 [some (rf cx 184), some (.int (oi w)), some (.int (oi v)), some (.int (oi (S w))), some (.int (oi a)), some (.int (oi x)), none] [] (N) 0 0 := by
      intro n
      induction n with
      | zero => intro N x a hn hx0 hx1 hf ha; exact absurd hn (by omega)
      | succ n ih24 =>
        intro N x a hn hx0 hx1 hf ha
        have e5 : N 185 = S := hf.e e5M
        have haR := sz_R (f := chF S w v) (a := 0) (b := 1) hx0 (fun j _ _ => by unfold chF; split <;> omega)
        refine g_iload (pc := 24) E dX6_changedIf_24 rfl ?_
        refine g_aload_n (pc := 26) E dX6_changedIf_26 (i := 0) rfl rfl ?_
        refine g_getr (i := 184) (j := 185) (t := 6) (f := 0) (pc := 27) E dX6_changedIf_27 fl_X6_9 rfl (by decide) (by decide) rfl rfl ?_
        refine g_bipush (pc := 30) E dX6_changedIf_30 rfl ?_
        refine g_iald (pc := 32) E dX6_changedIf_32 rfl (by omega) (by omega) (congrFun e5 _) (fun _ _ => ?_)
        refine g_icmp_ge (pc := 33) (tgt := 90) E dX6_changedIf_33 (by decide) (fun qh33 => ?_) (fun qh33 => ?_) 
        · refine g_iload (pc := 90) E dX6_changedIf_90 rfl ?_
          refine g_iret (pc := 92) E hr dX6_changedIf_92 ?_
          exact ⟨by rw [chS, if_neg (fun h => h qh5), ha, show x = S 7 by omega], hf.sc⟩
        · refine g_aload_n (pc := 36) E dX6_changedIf_36 (i := 0) rfl rfl ?_
          refine g_iload (pc := 37) E dX6_changedIf_37 rfl ?_
          refine g_iconst (pc := 39) E dX6_changedIf_39 rfl ?_
          refine g_iconst (pc := 40) E dX6_changedIf_40 rfl ?_
          refine g_callVv (pc := 41) (As := [_, _, _]) E dX6_changedIf_41 ml_X6_90 (cv_looks e5 hV (by omega) (by omega) (by omega) (by omega)) rfl rfl rfl rfl (by decide) (by decide) rfl (Nat.le_of_ble_eq_true rfl) (by decide) (fun M41 hM41 => ?_)
          have hf41 := LKf.tr hf hM41.1
          have e5 : M41 185 = S := hf41.e e5M
          have hgR := grS_R S (lkM S x (-1) 0)
          refine g_aload_n (pc := 44) E dX6_changedIf_44 (i := 0) rfl rfl ?_
          refine g_geti (i := 184) (t := 6) (f := 21) (fz := 21) (pc := 45) E dX6_changedIf_45 fl_X6_134 rfl (by decide) (by decide) rfl rfl hM41.2.2.2.2.2.2.1 (fun _ _ => ?_)
          refine g_istore (pc := 48) E dX6_changedIf_48 (ls' := [_, _, _, _, _, _, _]) (Nat.le_of_ble_eq_true rfl) rfl ?_
          refine g_aload_n (pc := 50) E dX6_changedIf_50 (i := 0) rfl rfl ?_
          refine g_getr (i := 184) (j := 185) (t := 6) (f := 0) (pc := 51) E dX6_changedIf_51 fl_X6_9 rfl (by decide) (by decide) rfl rfl ?_
          refine g_iload_n (pc := 54) E dX6_changedIf_54 (i := 1) rfl rfl ?_
          refine g_iload_n (pc := 55) E dX6_changedIf_55 (i := 2) rfl rfl ?_
          refine g_iast (pc := 56) E dX6_changedIf_56 rfl (by omega) (by omega) ?_ 
          refine g_aload_n (pc := 57) E dX6_changedIf_57 (i := 0) rfl rfl ?_
          refine g_iload (pc := 58) E dX6_changedIf_58 rfl ?_
          refine g_iconst (pc := 60) E dX6_changedIf_60 rfl ?_
          refine g_iconst (pc := 61) E dX6_changedIf_61 rfl ?_
          refine g_callVv (pc := 62) (As := [_, _, _]) E dX6_changedIf_62 ml_X6_90 (cv_looks (S := ru S w v) (by rw [st_row, e5]; rfl) hV2 (by omega) (by omega) (by omega) (by omega)) rfl rfl rfl rfl (by decide) (by decide) rfl (Nat.le_of_ble_eq_true rfl) (by decide) (fun M62 hM62 => ?_)
          have hf62 := LKf_row hf41 e5 hM62.1 rfl e5M
          have hgR2 := grS_R (ru S w v) (lkM (ru S w v) x (-1) 0)
          refine g_aload_n (pc := 65) E dX6_changedIf_65 (i := 0) rfl rfl ?_
          refine g_geti (i := 184) (t := 6) (f := 21) (fz := 21) (pc := 66) E dX6_changedIf_66 fl_X6_134 rfl (by decide) (by decide) rfl rfl hM62.2.2.2.2.2.2.1 (fun _ _ => ?_)
          refine g_iload (pc := 69) E dX6_changedIf_69 rfl ?_
          refine g_icmp_eq (pc := 71) (tgt := 77) E dX6_changedIf_71 (by decide) (fun qh71 => ?_) (fun qh71 => ?_) 
          · refine g_aload_n (pc := 77) E dX6_changedIf_77 (i := 0) rfl rfl ?_
            refine g_getr (i := 184) (j := 185) (t := 6) (f := 0) (pc := 78) E dX6_changedIf_78 fl_X6_9 rfl (by decide) (by decide) rfl rfl ?_
            refine g_iload_n (pc := 81) E dX6_changedIf_81 (i := 1) rfl rfl ?_
            refine g_iload_n (pc := 82) E dX6_changedIf_82 (i := 3) rfl rfl ?_
            refine g_iast (pc := 83) E dX6_changedIf_83 rfl (by omega) (by omega) ?_ 
            refine g_iinc (pc := 84) E dX6_changedIf_84 (ls' := [_, _, _, _, _, _, _]) rfl rfl rfl ?_
            refine g_goto (pc := 87) (tgt := 24) E dX6_changedIf_87 (by decide) ?_
            exact g_wk2 (ih24 _ (x + 1) a (by omega) (by omega) (by omega) hf62 (by rw [sz_s hx0, ha, show chF S w v x = 0 from if_pos (by omega)]; omega)) ⟨rfl, rfl, rfl, rfl, rfl, rfl, trivial⟩
          · refine g_iinc (pc := 74) E dX6_changedIf_74 (ls' := [_, _, _, _, _, _, _]) rfl rfl rfl ?_
            refine g_aload_n (pc := 77) E dX6_changedIf_77 (i := 0) rfl rfl ?_
            refine g_getr (i := 184) (j := 185) (t := 6) (f := 0) (pc := 78) E dX6_changedIf_78 fl_X6_9 rfl (by decide) (by decide) rfl rfl ?_
            refine g_iload_n (pc := 81) E dX6_changedIf_81 (i := 1) rfl rfl ?_
            refine g_iload_n (pc := 82) E dX6_changedIf_82 (i := 3) rfl rfl ?_
            refine g_iast (pc := 83) E dX6_changedIf_83 rfl (by omega) (by omega) ?_ 
            refine g_iinc (pc := 84) E dX6_changedIf_84 (ls' := [_, _, _, _, _, _, _]) rfl rfl rfl ?_
            refine g_goto (pc := 87) (tgt := 24) E dX6_changedIf_87 (by decide) ?_
            exact g_wk2 (ih24 _ (x + 1) (a + 1) (by omega) (by omega) (by omega) hf62 (by rw [sz_s hx0, ha, show chF S w v x = 1 from if_neg (by omega)])) ⟨rfl, rfl, rfl, rfl, rfl, rfl, trivial⟩
    exact g_wk2 (LP24 (S 7 + 1).toNat M 0 0 (by omega) (by omega) (by omega) hf rfl) ⟨rfl, rfl, rfl, rfl, rfl, rfl, trivial⟩
  · replace qh5 := bi_0.mp qh5
    refine g_bipush (pc := 8) E dX6_changedIf_8 rfl ?_
    refine g_iret (pc := 10) E hr dX6_changedIf_10 ?_
    exact ⟨by rw [chS, if_pos qh5], SCm.rf M⟩
