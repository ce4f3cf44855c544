/-! the world of the run: 198 cells that stand from the start on, by their numbers
board k (0: the board, 1: the snapshot, 2..10: the slots): object 15 k, its arrays behind it; 165 History, 166 its slots; 167 Standing, 168 marks, 169 verdicts, 170 moduleMarks, 171 counting; 172 Ranks, 173 grades, 174 averages, 175 lifted; 176 EntryText, 177 signs, 178 kinds, 179 students, 180 papers, 181 marks; 182 recordText; 183 ExamBoard; 184 ExamBoardModel, 185 now, 186 kept, 187 saved, 188 tried, 189 text, 190 written, 191 mark, 192 state, 193 inModule, 194 isPassed, 195 rank, 196 grades, 197 averages -/
abbrev Mem : Type := Nat → Int → Int
def st (M : Mem) (i : Nat) (x v : Int) : Mem := fun a => if a = i then (fun y => if y = x then v else M i y) else M a
theorem st_ne {M : Mem} {i a : Nat} {x v : Int} (h : a ≠ i) : st M i x v a = M a := if_neg h
theorem st_row (M : Mem) (i : Nat) (x v : Int) : st M i x v i = fun y => if y = x then v else M i y := if_pos rfl
theorem st_self (M : Mem) (i : Nat) (x v : Int) : st M i x v i x = v := by rw [st_row]; exact if_pos rfl
theorem st_off {M : Mem} {i : Nat} {x v y : Int} (h : y ≠ x) : st M i x v i y = M i y := by rw [st_row]; exact if_neg h
def bln (k : Nat) : Nat := match k with
  | 1 => 5 | 2 => 4 | 3 => 8 | 4 => 8 | 5 => 8 | 6 => 20 | 7 => 160 | 8 => 160 | 9 => 160 | 10 => 160 | _ => 24
/-- kinds: 0 int array, 1 boolean array, 2 char array, 4 array of boards, 10 StringBuilder, 11.. the classes of vwCl; and how many places -/
def kk (i : Nat) : Nat × Nat := if i < 165 then (if i % 15 = 0 then (11, 18) else (0, bln (i % 15))) else if 198 ≤ i then (99, 0) else match i with
  | 165 => (13, 3) | 166 => (4, 9)
  | 167 => (15, 12) | 168 => (0, 8) | 169 => (0, 8) | 170 => (0, 4) | 171 => (1, 4)
  | 172 => (14, 4) | 173 => (0, 20) | 174 => (0, 20) | 175 => (1, 20)
  | 176 => (12, 7) | 177 => (10, 4) | 178 => (2, 20) | 179 => (0, 20) | 180 => (0, 20) | 181 => (0, 20)
  | 182 => (10, 4) | 183 => (16, 11) | 184 => (17, 27)
  | 185 => (0, 745) | 186 => (0, 5960) | 187 => (0, 745) | 188 => (0, 745) | 189 => (0, 80) | 190 => (0, 80)
  | 191 => (0, 8) | 192 => (0, 8) | 193 => (0, 4) | 194 => (1, 4) | 195 => (0, 20) | 196 => (0, 20) | 197 => (0, 20)
  | _ => (99, 0)
/-- the cell that a reference field (or a place of the slots) holds -/
def rr (i k : Nat) : Nat := if i < 165 then i + (k - 3) else match i, k with
  | 165, _ => 166 | 166, k => 15 * (k + 2) | 167, k => 168 + k | 172, k => 173 + k | 176, k => 177 + k
  | 183, 0 => 0 | 183, 1 => 15 | 183, 3 => 165 | 183, 4 => 167 | 183, 5 => 172 | 183, 6 => 176 | 183, _ => 182
  | 184, 0 => 185 | 184, 1 => 186 | 184, 3 => 187 | 184, 5 => 188 | 184, 6 => 189 | 184, 9 => 190 | 184, 14 => 191 | 184, 15 => 192 | 184, 16 => 193 | 184, 17 => 194 | 184, 24 => 195 | 184, 25 => 196 | 184, _ => 197
  | _, _ => 0
/-- whether field k of an object of kind t is a number -/
def isI (t k : Nat) : Bool := match t with
  | 11 => k < 4 | 12 => 5 ≤ k | 13 => 1 ≤ k | 14 => k == 3 | 15 => 4 ≤ k | 16 => k == 2 || 8 ≤ k
  | 17 => k == 2 || k == 4 || k == 7 || k == 8 || (10 ≤ k && k < 14) || (18 ≤ k && k < 24)
  | _ => true
/-- the tables' numbers of the classes and their slots; the array classes; the cells' addresses; the heap's size at the start -/
abbrev Cx : Type := va_G × (Nat → ClassId) × (Nat → Nat) × Nat
abbrev cad (cx : Cx) : Nat → Nat := cx.2.2.1
abbrev cA (cx : Cx) : Nat → ClassId := cx.2.1
abbrev cA0 (cx : Cx) : Nat → Prop := fun q => cx.2.2.2 ≤ q
abbrev rf (cx : Cx) (i : Nat) : Value := .ref (cx.2.2.1 i)
/-- the texts' hidden arrays: address, length, bytes; and a flag -/
abbrev Hid : Type := (Nat → Nat) × (Nat → Nat) × (Nat → Nat → Int32) × (Nat → Int32)
def fld (cx : Cx) (i t : Nat) (r : Int → Int) (k : Nat) : Value := if isI t k then .int (oi (r k)) else rf cx (rr i k)
def entR (cx : Cx) (hid : Hid) (i : Nat) (r : Int → Int) : va_E := match (kk i).1 with
  | 0 => .inl (cA cx 0, (kk i).2, .inl (fun j => oi (r j)))
  | 1 => .inl (cA cx 1, (kk i).2, .inl (fun j => oi (r j)))
  | 2 => .inl (cA cx 2, (kk i).2, .inl (fun j => oi (r j)))
  | 4 => .inl (cA cx 4, (kk i).2, .inr (.inr (.inr (.inr (fun j => some (cad cx (rr i j)))))))
  | 10 => .inr (0, [.ref (hid.1 i), .int 0, .int (hid.2.2.2 i), .int (oi (r 0))])
  | t => .inr (t - 10, (List.range (kk i).2).map (fld cx i t r))
abbrev hrow (cx : Cx) (hid : Hid) (i : Nat) : Nat × va_E := (hid.1 i, .inl (cA cx 3, hid.2.1 i, .inl (hid.2.2.1 i)))
def wl (cx : Cx) (M : Mem) (hid : Hid) : va_W := (List.range 198).map (fun i => (cad cx i, entR cx hid i (M i))) ++ [hrow cx hid 177, hrow cx hid 182]
theorem wl_get {cx : Cx} {M : Mem} {hid : Hid} {i : Nat} (h : i < 198) : (wl cx M hid)[i]? = some (cad cx i, entR cx hid i (M i)) := by
  unfold wl
  rw [List.getElem?_append_left (by simp; omega), List.getElem?_map, List.getElem?_range h]
  rfl
theorem wl_set {cx : Cx} {M M' : Mem} {hid : Hid} {i : Nat} {e : va_E} (h : i < 198) (ho : ∀ j, j ≠ i → M' j = M j) (he : e = entR cx hid i (M' i)) : (wl cx M hid).set i (cad cx i, e) = wl cx M' hid := by
  subst he
  apply List.ext_getElem?
  intro j
  by_cases hj : j = i
  · subst hj
    rw [List.getElem?_set_self (by simp [wl]; omega), wl_get h]
  · rw [List.getElem?_set_ne (Ne.symm hj)]
    by_cases h2 : j < 198
    · rw [wl_get h2, wl_get h2, ho j hj]
    · unfold wl
      rw [List.getElem?_append_right (by simp; omega), List.getElem?_append_right (by simp; omega)]
      simp
theorem ent_i {cx : Cx} {hid : Hid} {i n : Nat} {r : Int → Int} (h : kk i = (0, n)) : entR cx hid i r = .inl (cA cx 0, n, .inl (fun j => oi (r j))) := by
  unfold entR; rw [h]; rfl
theorem ent_z {cx : Cx} {hid : Hid} {i n : Nat} {r : Int → Int} (h : kk i = (1, n)) : entR cx hid i r = .inl (cA cx 1, n, .inl (fun j => oi (r j))) := by
  unfold entR; rw [h]; rfl
theorem ent_c {cx : Cx} {hid : Hid} {i n : Nat} {r : Int → Int} (h : kk i = (2, n)) : entR cx hid i r = .inl (cA cx 2, n, .inl (fun j => oi (r j))) := by
  unfold entR; rw [h]; rfl
theorem ent_q {cx : Cx} {hid : Hid} {i n : Nat} {r : Int → Int} (h : kk i = (4, n)) : entR cx hid i r = .inl (cA cx 4, n, .inr (.inr (.inr (.inr (fun j => some (cad cx (rr i j))))))) := by
  unfold entR; rw [h]; rfl
theorem ent_o {cx : Cx} {hid : Hid} {i t n : Nat} {r : Int → Int} (h : kk i = (t + 11, n)) : entR cx hid i r = .inr (t + 1, (List.range n).map (fld cx i (t + 11) r)) := by
  unfold entR; rw [h]; first | rfl | simp
/-- a text's cell and its hidden array -/
def SBok (M : Mem) (hid : Hid) (i : Nat) : Prop := 0 ≤ M i 0 ∧ M i 0 ≤ hid.2.1 i ∧ hid.2.1 i ≤ 400 ∧ sb_Fit (hid.2.2.1 i) ∧ ∀ j : Nat, (j : Int) < M i 0 → 0 ≤ M i (j + 1) ∧ M i (j + 1) < 128 ∧ hid.2.2.1 i j = oi (M i (j + 1))
def MemOK (M : Mem) (hid : Hid) : Prop := (∀ i j, inR (M i j)) ∧ SBok M hid 177 ∧ SBok M hid 182
theorem SBok.congr {M M' : Mem} {hid : Hid} {i : Nat} (h : SBok M hid i) (e : M' i = M i) : SBok M' hid i := by
  unfold SBok
  rw [e]
  exact h
theorem MemOK.st {M : Mem} {hid : Hid} {i : Nat} {x v : Int} (h : MemOK M hid) (h1 : i ≠ 177) (h2 : i ≠ 182) (hv : inR v) : MemOK (st M i x v) hid := by
  refine ⟨fun a j => ?_, h.2.1.congr (st_ne (Ne.symm h1)), h.2.2.congr (st_ne (Ne.symm h2))⟩
  by_cases ha : a = i
  · subst ha
    rw [st_row]
    by_cases hj : j = x
    · simp only [hj, if_true]; exact hv
    · simp only [hj, if_false]; exact h.1 a j
  · rw [st_ne ha]; exact h.1 a j
