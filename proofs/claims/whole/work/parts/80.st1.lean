def nwL : List Cond := flatC (Jvm.Cond.and given_1 narrow_1)
def nwIn (i : Nat) (w : Cond) : Bool := match nwL[i]? with
  | some v => decide (v = w)
  | none => false
def tbIn (i : Nat) (w : Cond) : Bool := match lw_tbl[i]? with
  | some v => decide (v = w)
  | none => false
def nwTab (i : Nat) (tm : Term) (ty : FieldType) (n : Nat) (g : Nat → Int32) : Bool := nwIn i (.arrayOf tm ty) && (nwIn (i + 1) (.eq (.length tm) (.int (Int32.ofNat n))) && (List.range n).all fun j => nwIn (i + 2 + j) (.eq (.elem tm (.int (Int32.ofNat j))) (.int (g j))))
section ST1
variable {args : Array Value} {s : State} {A : Nat → Prop}
theorem nwT (hgv : (Jvm.Cond.and given_1 narrow_1).before args s = true) (i : Nat) {w : Cond} (h : nwIn i w = true) : w.before args s = true := by
  unfold nwIn at h
  cases hv : nwL[i]? with
  | none => rw [hv] at h; cases h
  | some v =>
    rw [hv] at h
    rw [← of_decide_eq_true h]
    exact flat_of_before _ hgv v (List.mem_of_getElem? hv)
theorem tbT (hts : ∀ w ∈ lw_tbl, w.before args s = true) (i : Nat) {w : Cond} (h : tbIn i w = true) : w.before args s = true := by
  unfold tbIn at h
  cases hv : lw_tbl[i]? with
  | none => rw [hv] at h; cases h
  | some v =>
    rw [hv] at h
    rw [← of_decide_eq_true h]
    exact hts v (List.mem_of_getElem? hv)
theorem st_eqR {t u : Term} {a : Nat} (h : (Cond.eq t u).before args s = true) (hu : u.eval args s none [] s = some (.ref a)) : t.eval args s none [] s = some (.ref a) := by
  cases hv : t.eval args s none [] s with
  | none => simp [Cond.before, Cond.holds, Cond.value, hv] at h
  | some w =>
    simp only [Cond.before, Cond.holds, Cond.value, hv, hu] at h
    cases w <;> simp_all
theorem st_ref {t : Term} {cls : String} (h : (Cond.exactly t cls).before args s = true) (hA : ∀ a : Nat, a < s.heap.size → ¬ A a) : ∃ a : Nat, t.eval args s none [] s = some (.ref a) ∧ va_O cls a A s s.heap := by
  obtain ⟨a, c, cell, k, q1, q2, q3, q4, q5, q6, -⟩ := Cond.exactly_spec (args := args) (first := s) (o := none) (s := s) (idx := []) (t := t) (cls := cls) h
  exact ⟨a, q1, va_Oof h q1 hA⟩
theorem st_tab (hgv : (Jvm.Cond.and given_1 narrow_1).before args s = true) (hA : ∀ a : Nat, a < s.heap.size → ¬ A a) (i : Nat) {tm : Term} {ty : FieldType} {n : Nat} {g : Nat → Int32} (hn : n < 2 ^ 31) (h : nwTab i tm ty n g = true) : ∃ t : Nat, tm.eval args s none [] s = some (.ref t) ∧ va_T ty t n (fun j => .int (g j)) A s s.heap := by
  simp only [nwTab, Bool.and_eq_true] at h
  obtain ⟨h1, h2, h3⟩ := h
  exact va_Tof (f := fun j => .int (g j)) hn (nwT hgv _ h1) (va_eqt (nwT hgv _ h2)) (fun j hj => va_eqt (nwT hgv _ (List.all_eq_true.mp h3 j (List.mem_range.mpr hj)))) hA
theorem st_R (hts : ∀ w ∈ lw_tbl, w.before args s = true) (hgv : (Jvm.Cond.and given_1 narrow_1).before args s = true) (i j : Nat) {own tx : String} {k : Nat} (h1 : tbIn i (.stringRef own k tx) = true) (h2 : nwIn j (.exactly (.string own k) "java/lang/String") = true) : ∃ a, vk_R own k tx a s := by
  obtain ⟨a, h, -⟩ := st_ref (A := fun q => s.heap.size ≤ q) (nwT hgv j h2) (fun a h => Nat.not_le.mpr h)
  exact ⟨a, vk_R.of (tbT hts i h1) h⟩
/-- a String constant: its cell, its coder, its bytes -/
theorem st_str (hgv : (Jvm.Cond.and given_1 narrow_1).before args s = true) (hA : ∀ a : Nat, a < s.heap.size → ¬ A a) (i : Nat) {own : String} {k n : Nat} {g : Nat → Int32} (hn : n < 2 ^ 31) (h1 : nwIn i (.exactly (.string own k) "java/lang/String") = true) (h2 : nwIn (i + 1) (.eq (.field (.string own k) "java/lang/String" "coder" "B") (.int 0)) = true) (h3 : nwTab (i + 2) (.field (.string own k) "java/lang/String" "value" "[B") .byte n g = true) :
    ∃ a v : Nat, (Term.string own k).eval args s none [] s = some (.ref a) ∧ va_O "java/lang/String" a A s s.heap ∧ va_OF "java/lang/String" "coder" "B" (.int 0) a A s s.heap ∧ va_OF "java/lang/String" "value" "[B" (.ref v) a A s s.heap ∧ va_T .byte v n (fun j => .int (g j)) A s s.heap := by
  obtain ⟨a, h, hO⟩ := st_ref (A := A) (nwT hgv i h1) hA
  obtain ⟨v, hv, hT⟩ := st_tab hgv hA (i + 2) hn h3
  exact ⟨a, v, h, hO, vk_OFof h (va_eqt (nwT hgv _ h2)) hA, vk_OFof h hv hA, hT⟩
/-- a Word constant -/
theorem st_word (hgv : (Jvm.Cond.and given_1 narrow_1).before args s = true) (hA : ∀ a : Nat, a < s.heap.size → ¬ A a) (i : Nat) {nm : String} {k u : Nat} {z1 z2 z3 : Int32} (hu : (Term.string RX9 k).eval args s none [] s = some (.ref u)) (h1 : nwIn i (.exactly (.static RX9 nm "LPendulumGym$Word;") RX9) = true) (h2 : nwIn (i + 1) (.eq (.field (.static RX9 nm "LPendulumGym$Word;") "java/lang/Enum" "ordinal" "I") (.int z1)) = true) (h3 : nwIn (i + 2) (.eq (.field (.static RX9 nm "LPendulumGym$Word;") RX9 "spelling" "Ljava/lang/String;") (.string RX9 k)) = true) (h4 : nwIn (i + 3) (.eq (.field (.static RX9 nm "LPendulumGym$Word;") RX9 "takesDigit" "Z") (.int z2)) = true) (h5 : nwIn (i + 4) (.eq (.field (.static RX9 nm "LPendulumGym$Word;") RX9 "takesNumber" "Z") (.int z3)) = true) :
    ∃ a : Nat, (Term.static RX9 nm "LPendulumGym$Word;").eval args s none [] s = some (.ref a) ∧ va_O RX9 a A s s.heap ∧ va_OF "java/lang/Enum" "ordinal" "I" (.int z1) a A s s.heap ∧ va_OF RX9 "spelling" "Ljava/lang/String;" (.ref u) a A s s.heap ∧ va_OF RX9 "takesDigit" "Z" (.int z2) a A s s.heap ∧ va_OF RX9 "takesNumber" "Z" (.int z3) a A s s.heap := by
  obtain ⟨a, h, hO⟩ := st_ref (A := A) (nwT hgv i h1) hA
  exact ⟨a, h, hO, vk_OFof h (va_eqt (nwT hgv _ h2)) hA, vk_OFof h (st_eqR (nwT hgv _ h3) hu) hA, vk_OFof h (va_eqt (nwT hgv _ h4)) hA, vk_OFof h (va_eqt (nwT hgv _ h5)) hA⟩
theorem st_s8 (hgv : (Jvm.Cond.and given_1 narrow_1).before args s = true) (hA : ∀ a : Nat, a < s.heap.size → ¬ A a) : ∃ a v : Nat, (Term.string RX9 56).eval args s none [] s = some (.ref a) ∧ va_O "java/lang/String" a A s s.heap ∧ va_OF "java/lang/String" "coder" "B" (.int 0) a A s s.heap ∧ va_OF "java/lang/String" "value" "[B" (.ref v) a A s s.heap ∧ va_T .byte v 5 (fun j => .int ((fun j => (([104, 97, 110, 103, 32] : List Int32).getD j 0)) j)) A s s.heap := st_str hgv hA 1310 (by decide) (by decide +kernel) (by decide +kernel) (by decide +kernel)
theorem st_s9 (hgv : (Jvm.Cond.and given_1 narrow_1).before args s = true) (hA : ∀ a : Nat, a < s.heap.size → ¬ A a) : ∃ a v : Nat, (Term.string RX9 62).eval args s none [] s = some (.ref a) ∧ va_O "java/lang/String" a A s s.heap ∧ va_OF "java/lang/String" "coder" "B" (.int 0) a A s s.heap ∧ va_OF "java/lang/String" "value" "[B" (.ref v) a A s s.heap ∧ va_T .byte v 5 (fun j => .int ((fun j => (([112, 117, 115, 104, 32] : List Int32).getD j 0)) j)) A s s.heap := st_str hgv hA 1319 (by decide) (by decide +kernel) (by decide +kernel) (by decide +kernel)
theorem st_s10 (hgv : (Jvm.Cond.and given_1 narrow_1).before args s = true) (hA : ∀ a : Nat, a < s.heap.size → ¬ A a) : ∃ a v : Nat, (Term.string RX9 65).eval args s none [] s = some (.ref a) ∧ va_O "java/lang/String" a A s s.heap ∧ va_OF "java/lang/String" "coder" "B" (.int 0) a A s s.heap ∧ va_OF "java/lang/String" "value" "[B" (.ref v) a A s s.heap ∧ va_T .byte v 6 (fun j => .int ((fun j => (([99, 97, 116, 99, 104, 32] : List Int32).getD j 0)) j)) A s s.heap := st_str hgv hA 1328 (by decide) (by decide +kernel) (by decide +kernel) (by decide +kernel)
theorem st_s11 (hgv : (Jvm.Cond.and given_1 narrow_1).before args s = true) (hA : ∀ a : Nat, a < s.heap.size → ¬ A a) : ∃ a v : Nat, (Term.string RX9 68).eval args s none [] s = some (.ref a) ∧ va_O "java/lang/String" a A s s.heap ∧ va_OF "java/lang/String" "coder" "B" (.int 0) a A s s.heap ∧ va_OF "java/lang/String" "value" "[B" (.ref v) a A s s.heap ∧ va_T .byte v 9 (fun j => .int ((fun j => (([102, 114, 105, 99, 116, 105, 111, 110, 32] : List Int32).getD j 0)) j)) A s s.heap := st_str hgv hA 1338 (by decide) (by decide +kernel) (by decide +kernel) (by decide +kernel)
theorem st_s12 (hgv : (Jvm.Cond.and given_1 narrow_1).before args s = true) (hA : ∀ a : Nat, a < s.heap.size → ¬ A a) : ∃ a v : Nat, (Term.string RX9 71).eval args s none [] s = some (.ref a) ∧ va_O "java/lang/String" a A s s.heap ∧ va_OF "java/lang/String" "coder" "B" (.int 0) a A s s.heap ∧ va_OF "java/lang/String" "value" "[B" (.ref v) a A s s.heap ∧ va_T .byte v 4 (fun j => .int ((fun j => (([108, 101, 103, 32] : List Int32).getD j 0)) j)) A s s.heap := st_str hgv hA 1351 (by decide) (by decide +kernel) (by decide +kernel) (by decide +kernel)
theorem st_s13 (hgv : (Jvm.Cond.and given_1 narrow_1).before args s = true) (hA : ∀ a : Nat, a < s.heap.size → ¬ A a) : ∃ a v : Nat, (Term.string RX9 74).eval args s none [] s = some (.ref a) ∧ va_O "java/lang/String" a A s s.heap ∧ va_OF "java/lang/String" "coder" "B" (.int 0) a A s s.heap ∧ va_OF "java/lang/String" "value" "[B" (.ref v) a A s s.heap ∧ va_T .byte v 4 (fun j => .int ((fun j => (([99, 117, 116, 32] : List Int32).getD j 0)) j)) A s s.heap := st_str hgv hA 1359 (by decide) (by decide +kernel) (by decide +kernel) (by decide +kernel)
theorem st_s14 (hgv : (Jvm.Cond.and given_1 narrow_1).before args s = true) (hA : ∀ a : Nat, a < s.heap.size → ¬ A a) : ∃ a v : Nat, (Term.string RX9 77).eval args s none [] s = some (.ref a) ∧ va_O "java/lang/String" a A s s.heap ∧ va_OF "java/lang/String" "coder" "B" (.int 0) a A s s.heap ∧ va_OF "java/lang/String" "value" "[B" (.ref v) a A s s.heap ∧ va_T .byte v 5 (fun j => .int ((fun j => (([116, 105, 99, 107, 32] : List Int32).getD j 0)) j)) A s s.heap := st_str hgv hA 1367 (by decide) (by decide +kernel) (by decide +kernel) (by decide +kernel)
theorem st_s15 (hgv : (Jvm.Cond.and given_1 narrow_1).before args s = true) (hA : ∀ a : Nat, a < s.heap.size → ¬ A a) : ∃ a v : Nat, (Term.string "PendulumGym" 283).eval args s none [] s = some (.ref a) ∧ va_O "java/lang/String" a A s s.heap ∧ va_OF "java/lang/String" "coder" "B" (.int 0) a A s s.heap ∧ va_OF "java/lang/String" "value" "[B" (.ref v) a A s s.heap ∧ va_T .byte v 3 (fun j => .int ((fun j => (([99, 109, 32] : List Int32).getD j 0)) j)) A s s.heap := st_str hgv hA 1037 (by decide) (by decide +kernel) (by decide +kernel) (by decide +kernel)
theorem st_s16 (hgv : (Jvm.Cond.and given_1 narrow_1).before args s = true) (hA : ∀ a : Nat, a < s.heap.size → ¬ A a) : ∃ a v : Nat, (Term.string "PendulumGym" 292).eval args s none [] s = some (.ref a) ∧ va_O "java/lang/String" a A s s.heap ∧ va_OF "java/lang/String" "coder" "B" (.int 0) a A s s.heap ∧ va_OF "java/lang/String" "value" "[B" (.ref v) a A s s.heap ∧ va_T .byte v 4 (fun j => .int ((fun j => (([114, 101, 115, 116] : List Int32).getD j 0)) j)) A s s.heap := st_str hgv hA 1044 (by decide) (by decide +kernel) (by decide +kernel) (by decide +kernel)
theorem st_w1 (hgv : (Jvm.Cond.and given_1 narrow_1).before args s = true) (hA : ∀ a : Nat, a < s.heap.size → ¬ A a) {u : Nat} (hu : (Term.string RX9 56).eval args s none [] s = some (.ref u)) : ∃ a : Nat, (Term.static RX9 "HANG" "LPendulumGym$Word;").eval args s none [] s = some (.ref a) ∧ va_O RX9 a A s s.heap ∧ va_OF "java/lang/Enum" "ordinal" "I" (.int 0) a A s s.heap ∧ va_OF RX9 "spelling" "Ljava/lang/String;" (.ref u) a A s s.heap ∧ va_OF RX9 "takesDigit" "Z" (.int 0) a A s s.heap ∧ va_OF RX9 "takesNumber" "Z" (.int 1) a A s s.heap := st_word hgv hA 239 hu (by decide +kernel) (by decide +kernel) (by decide +kernel) (by decide +kernel) (by decide +kernel)
theorem st_w2 (hgv : (Jvm.Cond.and given_1 narrow_1).before args s = true) (hA : ∀ a : Nat, a < s.heap.size → ¬ A a) {u : Nat} (hu : (Term.string RX9 62).eval args s none [] s = some (.ref u)) : ∃ a : Nat, (Term.static RX9 "PUSH" "LPendulumGym$Word;").eval args s none [] s = some (.ref a) ∧ va_O RX9 a A s s.heap ∧ va_OF "java/lang/Enum" "ordinal" "I" (.int 1) a A s s.heap ∧ va_OF RX9 "spelling" "Ljava/lang/String;" (.ref u) a A s s.heap ∧ va_OF RX9 "takesDigit" "Z" (.int 1) a A s s.heap ∧ va_OF RX9 "takesNumber" "Z" (.int 1) a A s s.heap := st_word hgv hA 244 hu (by decide +kernel) (by decide +kernel) (by decide +kernel) (by decide +kernel) (by decide +kernel)
theorem st_w3 (hgv : (Jvm.Cond.and given_1 narrow_1).before args s = true) (hA : ∀ a : Nat, a < s.heap.size → ¬ A a) {u : Nat} (hu : (Term.string RX9 65).eval args s none [] s = some (.ref u)) : ∃ a : Nat, (Term.static RX9 "CATCH" "LPendulumGym$Word;").eval args s none [] s = some (.ref a) ∧ va_O RX9 a A s s.heap ∧ va_OF "java/lang/Enum" "ordinal" "I" (.int 2) a A s s.heap ∧ va_OF RX9 "spelling" "Ljava/lang/String;" (.ref u) a A s s.heap ∧ va_OF RX9 "takesDigit" "Z" (.int 1) a A s s.heap ∧ va_OF RX9 "takesNumber" "Z" (.int 0) a A s s.heap := st_word hgv hA 250 hu (by decide +kernel) (by decide +kernel) (by decide +kernel) (by decide +kernel) (by decide +kernel)
theorem st_w4 (hgv : (Jvm.Cond.and given_1 narrow_1).before args s = true) (hA : ∀ a : Nat, a < s.heap.size → ¬ A a) {u : Nat} (hu : (Term.string RX9 68).eval args s none [] s = some (.ref u)) : ∃ a : Nat, (Term.static RX9 "FRICTION" "LPendulumGym$Word;").eval args s none [] s = some (.ref a) ∧ va_O RX9 a A s s.heap ∧ va_OF "java/lang/Enum" "ordinal" "I" (.int 3) a A s s.heap ∧ va_OF RX9 "spelling" "Ljava/lang/String;" (.ref u) a A s s.heap ∧ va_OF RX9 "takesDigit" "Z" (.int 0) a A s s.heap ∧ va_OF RX9 "takesNumber" "Z" (.int 1) a A s s.heap := st_word hgv hA 257 hu (by decide +kernel) (by decide +kernel) (by decide +kernel) (by decide +kernel) (by decide +kernel)
theorem st_w5 (hgv : (Jvm.Cond.and given_1 narrow_1).before args s = true) (hA : ∀ a : Nat, a < s.heap.size → ¬ A a) {u : Nat} (hu : (Term.string RX9 71).eval args s none [] s = some (.ref u)) : ∃ a : Nat, (Term.static RX9 "LEG" "LPendulumGym$Word;").eval args s none [] s = some (.ref a) ∧ va_O RX9 a A s s.heap ∧ va_OF "java/lang/Enum" "ordinal" "I" (.int 4) a A s s.heap ∧ va_OF RX9 "spelling" "Ljava/lang/String;" (.ref u) a A s s.heap ∧ va_OF RX9 "takesDigit" "Z" (.int 0) a A s s.heap ∧ va_OF RX9 "takesNumber" "Z" (.int 1) a A s s.heap := st_word hgv hA 265 hu (by decide +kernel) (by decide +kernel) (by decide +kernel) (by decide +kernel) (by decide +kernel)
theorem st_w6 (hgv : (Jvm.Cond.and given_1 narrow_1).before args s = true) (hA : ∀ a : Nat, a < s.heap.size → ¬ A a) {u : Nat} (hu : (Term.string RX9 74).eval args s none [] s = some (.ref u)) : ∃ a : Nat, (Term.static RX9 "CUT" "LPendulumGym$Word;").eval args s none [] s = some (.ref a) ∧ va_O RX9 a A s s.heap ∧ va_OF "java/lang/Enum" "ordinal" "I" (.int 5) a A s s.heap ∧ va_OF RX9 "spelling" "Ljava/lang/String;" (.ref u) a A s s.heap ∧ va_OF RX9 "takesDigit" "Z" (.int 1) a A s s.heap ∧ va_OF RX9 "takesNumber" "Z" (.int 0) a A s s.heap := st_word hgv hA 274 hu (by decide +kernel) (by decide +kernel) (by decide +kernel) (by decide +kernel) (by decide +kernel)
theorem st_w7 (hgv : (Jvm.Cond.and given_1 narrow_1).before args s = true) (hA : ∀ a : Nat, a < s.heap.size → ¬ A a) {u : Nat} (hu : (Term.string RX9 77).eval args s none [] s = some (.ref u)) : ∃ a : Nat, (Term.static RX9 "TICK" "LPendulumGym$Word;").eval args s none [] s = some (.ref a) ∧ va_O RX9 a A s s.heap ∧ va_OF "java/lang/Enum" "ordinal" "I" (.int 6) a A s s.heap ∧ va_OF RX9 "spelling" "Ljava/lang/String;" (.ref u) a A s s.heap ∧ va_OF RX9 "takesDigit" "Z" (.int 0) a A s s.heap ∧ va_OF RX9 "takesNumber" "Z" (.int 1) a A s s.heap := st_word hgv hA 284 hu (by decide +kernel) (by decide +kernel) (by decide +kernel) (by decide +kernel) (by decide +kernel)
theorem st_all (hgv : (Jvm.Cond.and given_1 narrow_1).before args s = true) (hA : ∀ a : Nat, a < s.heap.size → ¬ A a) (o : Nat → Nat) (h1 : (Term.static RX9 "HANG" "LPendulumGym$Word;").eval args s none [] s = some (.ref (o 1))) (h2 : (Term.static RX9 "PUSH" "LPendulumGym$Word;").eval args s none [] s = some (.ref (o 2))) (h3 : (Term.static RX9 "CATCH" "LPendulumGym$Word;").eval args s none [] s = some (.ref (o 3))) (h4 : (Term.static RX9 "FRICTION" "LPendulumGym$Word;").eval args s none [] s = some (.ref (o 4))) (h5 : (Term.static RX9 "LEG" "LPendulumGym$Word;").eval args s none [] s = some (.ref (o 5))) (h6 : (Term.static RX9 "CUT" "LPendulumGym$Word;").eval args s none [] s = some (.ref (o 6))) (h7 : (Term.static RX9 "TICK" "LPendulumGym$Word;").eval args s none [] s = some (.ref (o 7))) : ∃ t : Nat, (Term.static RX9 "ALL" "[LPendulumGym$Word;").eval args s none [] s = some (.ref t) ∧ va_T (.object RX9) t 7 (fun j => .ref (o (1 + j))) A s s.heap := by
  refine va_Tof (f := fun j => .ref (o (1 + j))) (by decide) (nwT hgv 219 (by decide +kernel)) (va_eqt (nwT hgv 220 (by decide +kernel))) (fun j hj => ?_) hA
  rcases (by omega : j = 0 ∨ j = 1 ∨ j = 2 ∨ j = 3 ∨ j = 4 ∨ j = 5 ∨ j = 6) with rfl | rfl | rfl | rfl | rfl | rfl | rfl
  · exact st_eqR (nwT hgv 222 (by decide +kernel)) h1
  · exact st_eqR (nwT hgv 223 (by decide +kernel)) h2
  · exact st_eqR (nwT hgv 224 (by decide +kernel)) h3
  · exact st_eqR (nwT hgv 225 (by decide +kernel)) h4
  · exact st_eqR (nwT hgv 226 (by decide +kernel)) h5
  · exact st_eqR (nwT hgv 227 (by decide +kernel)) h6
  · exact st_eqR (nwT hgv 228 (by decide +kernel)) h7
theorem st_ones (hgv : (Jvm.Cond.and given_1 narrow_1).before args s = true) (hA : ∀ a : Nat, a < s.heap.size → ¬ A a) : ∃ t : Nat, (Term.static "java/lang/Integer" "DigitOnes" "[B").eval args s none [] s = some (.ref t) ∧ va_T .byte t 100 (fun j => .int (Int32.ofNat (48 + j % 10))) A s s.heap := st_tab (g := fun j => Int32.ofNat (48 + j % 10)) hgv hA 12 (by decide) (by decide +kernel)
theorem st_tens (hgv : (Jvm.Cond.and given_1 narrow_1).before args s = true) (hA : ∀ a : Nat, a < s.heap.size → ¬ A a) : ∃ t : Nat, (Term.static "java/lang/Integer" "DigitTens" "[B").eval args s none [] s = some (.ref t) ∧ va_T .byte t 100 (fun j => .int (Int32.ofNat (48 + j / 10))) A s s.heap := st_tab (g := fun j => Int32.ofNat (48 + j / 10)) hgv hA 115 (by decide) (by decide +kernel)
theorem st_sw (hgv : (Jvm.Cond.and given_1 narrow_1).before args s = true) (hA : ∀ a : Nat, a < s.heap.size → ¬ A a) : ∃ t : Nat, (Term.static RX0 "$SwitchMap$PendulumGym$Word" "[I").eval args s none [] s = some (.ref t) ∧ va_T .int t 7 (fun j => .int (([1, 2, 3, 4, 5, 6, 7] : List Int32).getD j 0)) A s s.heap := st_tab (g := fun j => ([1, 2, 3, 4, 5, 6, 7] : List Int32).getD j 0) hgv hA 230 (by decide) (by decide +kernel)
theorem st_wR (hts : ∀ w ∈ lw_tbl, w.before args s = true) (hgv : (Jvm.Cond.and given_1 narrow_1).before args s = true) : ∀ q ∈ wR, ∃ a, vk_R q.1 q.2.1 q.2.2 a s := by
  refine List.forall_mem_cons.mpr ⟨st_R hts hgv 420 407 (by decide +kernel) (by decide +kernel), ?_⟩
  refine List.forall_mem_cons.mpr ⟨st_R hts hgv 455 443 (by decide +kernel) (by decide +kernel), ?_⟩
  refine List.forall_mem_cons.mpr ⟨st_R hts hgv 471 473 (by decide +kernel) (by decide +kernel), ?_⟩
  refine List.forall_mem_cons.mpr ⟨st_R hts hgv 626 504 (by decide +kernel) (by decide +kernel), ?_⟩
  refine List.forall_mem_cons.mpr ⟨st_R hts hgv 669 533 (by decide +kernel) (by decide +kernel), ?_⟩
  refine List.forall_mem_cons.mpr ⟨st_R hts hgv 719 560 (by decide +kernel) (by decide +kernel), ?_⟩
  refine List.forall_mem_cons.mpr ⟨st_R hts hgv 724 586 (by decide +kernel) (by decide +kernel), ?_⟩
  refine List.forall_mem_cons.mpr ⟨st_R hts hgv 757 637 (by decide +kernel) (by decide +kernel), ?_⟩
  refine List.forall_mem_cons.mpr ⟨st_R hts hgv 819 662 (by decide +kernel) (by decide +kernel), ?_⟩
  refine List.forall_mem_cons.mpr ⟨st_R hts hgv 835 688 (by decide +kernel) (by decide +kernel), ?_⟩
  refine List.forall_mem_cons.mpr ⟨st_R hts hgv 845 723 (by decide +kernel) (by decide +kernel), ?_⟩
  refine List.forall_mem_cons.mpr ⟨st_R hts hgv 927 751 (by decide +kernel) (by decide +kernel), ?_⟩
  refine List.forall_mem_cons.mpr ⟨st_R hts hgv 943 775 (by decide +kernel) (by decide +kernel), ?_⟩
  refine List.forall_mem_cons.mpr ⟨st_R hts hgv 1012 814 (by decide +kernel) (by decide +kernel), ?_⟩
  refine List.forall_mem_cons.mpr ⟨st_R hts hgv 1030 854 (by decide +kernel) (by decide +kernel), ?_⟩
  refine List.forall_mem_cons.mpr ⟨st_R hts hgv 1081 905 (by decide +kernel) (by decide +kernel), ?_⟩
  refine List.forall_mem_cons.mpr ⟨st_R hts hgv 1384 1052 (by decide +kernel) (by decide +kernel), ?_⟩
  refine List.forall_mem_cons.mpr ⟨st_R hts hgv 1402 1086 (by decide +kernel) (by decide +kernel), ?_⟩
  refine List.forall_mem_cons.mpr ⟨st_R hts hgv 1407 1125 (by decide +kernel) (by decide +kernel), ?_⟩
  refine List.forall_mem_cons.mpr ⟨st_R hts hgv 1482 1147 (by decide +kernel) (by decide +kernel), ?_⟩
  refine List.forall_mem_cons.mpr ⟨st_R hts hgv 1515 1175 (by decide +kernel) (by decide +kernel), ?_⟩
  refine List.forall_mem_cons.mpr ⟨st_R hts hgv 1523 1195 (by decide +kernel) (by decide +kernel), ?_⟩
  refine List.forall_mem_cons.mpr ⟨st_R hts hgv 1531 1230 (by decide +kernel) (by decide +kernel), ?_⟩
  refine List.forall_mem_cons.mpr ⟨st_R hts hgv 1543 1258 (by decide +kernel) (by decide +kernel), ?_⟩
  refine List.forall_mem_cons.mpr ⟨st_R hts hgv 1555 1286 (by decide +kernel) (by decide +kernel), ?_⟩
  intro q h; cases h
theorem st_wNc (hgv : (Jvm.Cond.and given_1 narrow_1).before args s = true) : ∀ q ∈ wNc, va_Nc q.1 q.2 s := by
  refine List.forall_mem_cons.mpr ⟨va_Nc.of (nwT hgv 303 (by decide +kernel)), ?_⟩
  refine List.forall_mem_cons.mpr ⟨va_Nc.of (nwT hgv 304 (by decide +kernel)), ?_⟩
  refine List.forall_mem_cons.mpr ⟨va_Nc.of (nwT hgv 306 (by decide +kernel)), ?_⟩
  refine List.forall_mem_cons.mpr ⟨va_Nc.of (nwT hgv 307 (by decide +kernel)), ?_⟩
  refine List.forall_mem_cons.mpr ⟨va_Nc.of (nwT hgv 319 (by decide +kernel)), ?_⟩
  refine List.forall_mem_cons.mpr ⟨va_Nc.of (nwT hgv 320 (by decide +kernel)), ?_⟩
  refine List.forall_mem_cons.mpr ⟨va_Nc.of (nwT hgv 322 (by decide +kernel)), ?_⟩
  refine List.forall_mem_cons.mpr ⟨va_Nc.of (nwT hgv 323 (by decide +kernel)), ?_⟩
  refine List.forall_mem_cons.mpr ⟨va_Nc.of (nwT hgv 335 (by decide +kernel)), ?_⟩
  refine List.forall_mem_cons.mpr ⟨va_Nc.of (nwT hgv 336 (by decide +kernel)), ?_⟩
  refine List.forall_mem_cons.mpr ⟨va_Nc.of (nwT hgv 337 (by decide +kernel)), ?_⟩
  refine List.forall_mem_cons.mpr ⟨va_Nc.of (nwT hgv 338 (by decide +kernel)), ?_⟩
  refine List.forall_mem_cons.mpr ⟨va_Nc.of (nwT hgv 349 (by decide +kernel)), ?_⟩
  refine List.forall_mem_cons.mpr ⟨va_Nc.of (nwT hgv 350 (by decide +kernel)), ?_⟩
  refine List.forall_mem_cons.mpr ⟨va_Nc.of (nwT hgv 351 (by decide +kernel)), ?_⟩
  refine List.forall_mem_cons.mpr ⟨va_Nc.of (nwT hgv 353 (by decide +kernel)), ?_⟩
  refine List.forall_mem_cons.mpr ⟨va_Nc.of (nwT hgv 365 (by decide +kernel)), ?_⟩
  refine List.forall_mem_cons.mpr ⟨va_Nc.of (nwT hgv 366 (by decide +kernel)), ?_⟩
  refine List.forall_mem_cons.mpr ⟨va_Nc.of (nwT hgv 367 (by decide +kernel)), ?_⟩
  refine List.forall_mem_cons.mpr ⟨va_Nc.of (nwT hgv 369 (by decide +kernel)), ?_⟩
  intro q h; cases h
theorem st_nest (hts : ∀ w ∈ lw_tbl, w.before args s = true) : ∀ w ∈ lw_nest, va_Nw w s := fun w hw => va_Nw.of (List.all_eq_true.mp (show lw_nest.all Cond.onTables = true by decide +kernel) w hw) (hts w (nest_in w hw))
end ST1
