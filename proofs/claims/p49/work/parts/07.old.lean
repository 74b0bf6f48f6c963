/-! ===== AW: a machine whose heap is a function of numbers; each row says what the kit's row says ===== -/
abbrev o0 : Nat := 67
abbrev GT : Type := va_G × (Nat → ClassId) × Nat × (Nat → Nat) × Nat × (Nat → Int32)
abbrev MT : Type := String × ByteArray × Nat × Option FieldType × List ExceptionTableEntry × String
abbrev HT : Type := Nat → va_E
abbrev PT : Type := (Option Value ⊕ String) → HT → Nat → Prop
def nilc : va_E := .inr (99, [])
abbrev gD (G : GT) : va_G := G.1
abbrev gA (G : GT) : Nat → ClassId := G.2.1
abbrev gZ (G : GT) : Nat := G.2.2.1
abbrev gO (G : GT) : Nat → Nat := G.2.2.2.1
abbrev gN (G : GT) : Nat := G.2.2.2.2.1
abbrev gX (G : GT) : Nat → Int32 := G.2.2.2.2.2
def gF (G : GT) : Nat → Prop := fun q => gZ G ≤ q
def tyK (G : GT) : List (ClassId × FieldType) := [(gA G 0, .int), (gA G 1, .char), (gA G 2, .int), (gA G 3, .int), (gA G 4, .byte), (gA G 5, .object RX8), (gA G 6, .object RX9)]
def cv (ρ : Nat → Nat) : Value → Value
  | .ref k => .ref (ρ k)
  | v => v
def cA (d : Nat → ClassId) (ρ : Nat → Nat) : va_E → va_E
  | .inl (t, (N, .inr (.inr (.inr (.inr g))))) => .inl (d t, (N, .inr (.inr (.inr (.inr fun j => (g j).map ρ)))))
  | .inl (t, a) => .inl (d t, a)
  | .inr (c, vs) => .inr (c, vs.map (cv ρ))
def vOK (n : Nat) : Value → Prop
  | .ref k => k < n
  | _ => True
def cOK (n : Nat) : va_E → Prop
  | .inl (_, (_, .inr (.inr (.inr (.inr g))))) => ∀ j k, g j = some k → k < n
  | .inl _ => True
  | .inr (_, vs) => ∀ v ∈ vs, vOK n v
theorem up_self {α : Type} {f : Nat → α} {k : Nat} {v : α} : va_up f k v k = v := va_up_self f k v
theorem up_ne {α : Type} {f : Nat → α} {k j : Nat} {v : α} (h : j ≠ k) : va_up f k v j = f j := va_up_ne f v h
theorem cv_cat (ρ : Nat → Nat) (v : Value) : (cv ρ v).category = v.category := by cases v <;> rfl
theorem cv_ext {ρ ρ' : Nat → Nat} {n : Nat} (h : ∀ k, k < n → ρ' k = ρ k) {v : Value} (hv : vOK n v) : cv ρ' v = cv ρ v := by
  cases v <;> try rfl
  exact congrArg Value.ref (h _ hv)
theorem cvs_ext {ρ ρ' : Nat → Nat} {n : Nat} (h : ∀ k, k < n → ρ' k = ρ k) {vs : List Value} (hv : ∀ v ∈ vs, vOK n v) : vs.map (cv ρ') = vs.map (cv ρ) := List.map_congr_left fun v hm => cv_ext h (hv v hm)
theorem cvl_ext {ρ ρ' : Nat → Nat} {n : Nat} (h : ∀ k, k < n → ρ' k = ρ k) {L : List (Nat × Value)} (hv : ∀ q ∈ L, vOK n q.2) : L.map (fun q => (q.1, cv ρ' q.2)) = L.map (fun q => (q.1, cv ρ q.2)) := List.map_congr_left fun q hm => by rw [cv_ext h (hv q hm)]
theorem cA_ext {d : Nat → ClassId} {ρ ρ' : Nat → Nat} {n : Nat} (h : ∀ k, k < n → ρ' k = ρ k) {c : va_E} (hc : cOK n c) : cA d ρ' c = cA d ρ c := by
  rcases c with ⟨t, N, a⟩ | ⟨c, vs⟩
  · rcases a with a | a | a | a | g <;> try rfl
    have hg : (fun j => (g j).map ρ') = fun j => (g j).map ρ := by
      funext j
      cases hj : g j with
      | none => rfl
      | some k => exact congrArg some (h k (hc j k hj))
    show (Sum.inl (d t, (N, .inr (.inr (.inr (.inr fun j => (g j).map ρ'))))) : va_E) = _
    rw [hg]
    rfl
  · show (Sum.inr (c, vs.map (cv ρ')) : va_E) = _
    rw [cvs_ext h hc]
    rfl
theorem vOK.mono {n n' : Nat} (h : n ≤ n') {v : Value} (hv : vOK n v) : vOK n' v := by
  cases v <;> first | exact Nat.lt_of_lt_of_le hv h | trivial
theorem cOK.mono {n n' : Nat} (h : n ≤ n') {c : va_E} (hc : cOK n c) : cOK n' c := by
  rcases c with ⟨t, N, a⟩ | ⟨c, vs⟩
  · rcases a with a | a | a | a | g
    · trivial
    · trivial
    · trivial
    · trivial
    · exact fun j k hj => Nat.lt_of_lt_of_le (hc j k hj) h
  · exact fun v hv => (hc v hv).mono h
def wl (d : Nat → ClassId) (ρ : Nat → Nat) (n : Nat) (f : HT) : va_W := (List.range (n - o0)).map fun i => (ρ (o0 + i), cA d ρ (f (o0 + i)))
/-- the world: the cells of f, at the addresses ρ -/
def Wd (G : GT) (ρ : Nat → Nat) (n : Nat) (f : HT) (H : Heap) : Prop :=
  va_P (gD G) clW (wl (gA G) ρ n f) H ∧ va_D (gF G) (wl (gA G) ρ n f) ∧ o0 ≤ n ∧ (∀ k, f k ≠ nilc → o0 ≤ k ∧ k < n) ∧ (∀ k, k < o0 → ρ k = gO G k) ∧ ∀ k, cOK n (f k)
theorem wl_get {G : GT} {ρ : Nat → Nat} {n : Nat} {f : HT} {H : Heap} (h : Wd G ρ n f H) {a : Nat} {c : va_E} (hf : f a = c) (hc : c ≠ nilc) : (wl (gA G) ρ n f)[a - o0]? = some (ρ a, cA (gA G) ρ c) := by
  obtain ⟨h1, h2⟩ := h.2.2.2.1 a (by rw [hf]; exact hc)
  have e : o0 + (a - o0) = a := by omega
  simp only [wl, List.getElem?_map]
  rw [List.getElem?_range (by omega), Option.map_some, e, hf]
theorem wl_set {d : Nat → ClassId} {ρ : Nat → Nat} {n a : Nat} {f : HT} (ha : o0 ≤ a) (c : va_E) : (wl d ρ n f).set (a - o0) (ρ a, cA d ρ c) = wl d ρ n (va_up f a c) := by
  apply List.ext_getElem?
  intro i
  by_cases hi : i < n - o0
  · by_cases hia : i = a - o0
    · subst hia
      rw [List.getElem?_set_self (by simpa [wl] using hi)]
      have e : o0 + (a - o0) = a := by omega
      simp only [wl, List.getElem?_map]
      rw [List.getElem?_range hi, Option.map_some, e]
      simp [va_up]
    · rw [List.getElem?_set_ne (fun z => hia z.symm)]
      simp only [wl, List.getElem?_map]
      rw [List.getElem?_range hi, Option.map_some, Option.map_some]
      have e : o0 + i ≠ a := by omega
      simp [va_up, e]
  · rw [List.getElem?_eq_none (by simp [wl]; omega), List.getElem?_eq_none (by simp [wl]; omega)]
theorem wl_push {d : Nat → ClassId} {ρ : Nat → Nat} {n q : Nat} {f : HT} (hn : o0 ≤ n) (hf : ∀ k, cOK n (f k)) (c : va_E) : wl d (va_up ρ n q) (n + 1) (va_up f n c) = wl d ρ n f ++ [(q, cA d (va_up ρ n q) c)] := by
  have e : n + 1 - o0 = (n - o0) + 1 := by omega
  have e2 : o0 + (n - o0) = n := by omega
  unfold wl
  rw [e, List.range_succ, List.map_append]
  congr 1
  · refine List.map_congr_left fun i hi => ?_
    have hi := List.mem_range.mp hi
    have hne : o0 + i ≠ n := by omega
    have h1 : ∀ k, k < n → (va_up ρ n q) k = ρ k := fun k hk => by simp [va_up, Nat.ne_of_lt hk]
    rw [h1 _ (by omega), up_ne hne, cA_ext h1 (hf _)]
  · simp [e2, va_up]
/-- a cell changes -/
theorem Wd.set {G : GT} {ρ : Nat → Nat} {n a : Nat} {f : HT} {H H1 : Heap} {c0 c : va_E} (h : Wd G ρ n f H) (hf : f a = c0) (h0 : c0 ≠ nilc) (hc : cOK n c)
    (hP : va_P (gD G) clW ((wl (gA G) ρ n f).set (a - o0) (ρ a, cA (gA G) ρ c)) H1) (hD : va_D (gF G) ((wl (gA G) ρ n f).set (a - o0) (ρ a, cA (gA G) ρ c))) : Wd G ρ n (va_up f a c) H1 := by
  have hb := h.2.2.2.1 a (by rw [hf]; exact h0)
  rw [wl_set hb.1] at hP hD
  refine ⟨hP, hD, h.2.2.1, fun k hk => ?_, h.2.2.2.2.1, fun k => ?_⟩
  · by_cases hka : k = a
    · subst hka; exact hb
    · rw [up_ne hka] at hk; exact h.2.2.2.1 k hk
  · by_cases hka : k = a
    · subst hka; rw [up_self]; exact hc
    · rw [up_ne hka]; exact h.2.2.2.2.2 k
/-- a cell comes -/
theorem Wd.push {G : GT} {ρ : Nat → Nat} {n q : Nat} {f : HT} {H H1 : Heap} {c : va_E} (h : Wd G ρ n f H) (hc : cOK (n + 1) c) (hP : va_P (gD G) clW (wl (gA G) ρ n f ++ [(q, cA (gA G) (va_up ρ n q) c)]) H1) (hD : va_D (gF G) (wl (gA G) ρ n f ++ [(q, cA (gA G) (va_up ρ n q) c)])) : Wd G (va_up ρ n q) (n + 1) (va_up f n c) H1 := by
  rw [← wl_push h.2.2.1 h.2.2.2.2.2 c] at hP hD
  have hn := h.2.2.1
  refine ⟨hP, hD, by omega, fun k hk => ?_, fun k hk => ?_, fun k => ?_⟩
  · by_cases hka : k = n
    · omega
    · rw [up_ne hka] at hk
      have := h.2.2.2.1 k hk
      omega
  · rw [up_ne (by omega)]; exact h.2.2.2.2.1 k hk
  · by_cases hka : k = n
    · subst hka; rw [up_self]; exact hc
    · rw [up_ne hka]; exact (h.2.2.2.2.2 k).mono (Nat.le_succ n)
def wOF : List (String × String × String × Value × Nat) := [("java/lang/Enum", "ordinal", "I", .int 0, 1), (RX9, "spelling", "Ljava/lang/String;", .ref 8, 1), (RX9, "takesDigit", "Z", .int 0, 1), (RX9, "takesNumber", "Z", .int 1, 1), ("java/lang/Enum", "ordinal", "I", .int 1, 2), (RX9, "spelling", "Ljava/lang/String;", .ref 9, 2), (RX9, "takesDigit", "Z", .int 1, 2), (RX9, "takesNumber", "Z", .int 1, 2), ("java/lang/Enum", "ordinal", "I", .int 2, 3), (RX9, "spelling", "Ljava/lang/String;", .ref 10, 3), (RX9, "takesDigit", "Z", .int 1, 3), (RX9, "takesNumber", "Z", .int 0, 3), ("java/lang/Enum", "ordinal", "I", .int 3, 4), (RX9, "spelling", "Ljava/lang/String;", .ref 11, 4), (RX9, "takesDigit", "Z", .int 0, 4), (RX9, "takesNumber", "Z", .int 1, 4), ("java/lang/Enum", "ordinal", "I", .int 4, 5), (RX9, "spelling", "Ljava/lang/String;", .ref 12, 5), (RX9, "takesDigit", "Z", .int 0, 5), (RX9, "takesNumber", "Z", .int 1, 5), ("java/lang/Enum", "ordinal", "I", .int 5, 6), (RX9, "spelling", "Ljava/lang/String;", .ref 13, 6), (RX9, "takesDigit", "Z", .int 1, 6), (RX9, "takesNumber", "Z", .int 0, 6), ("java/lang/Enum", "ordinal", "I", .int 6, 7), (RX9, "spelling", "Ljava/lang/String;", .ref 14, 7), (RX9, "takesDigit", "Z", .int 0, 7), (RX9, "takesNumber", "Z", .int 1, 7), ("java/lang/String", "coder", "B", .int 0, 8), ("java/lang/String", "value", "[B", .ref 17, 8), ("java/lang/String", "coder", "B", .int 0, 9), ("java/lang/String", "value", "[B", .ref 18, 9), ("java/lang/String", "coder", "B", .int 0, 10), ("java/lang/String", "value", "[B", .ref 19, 10), ("java/lang/String", "coder", "B", .int 0, 11), ("java/lang/String", "value", "[B", .ref 20, 11), ("java/lang/String", "coder", "B", .int 0, 12), ("java/lang/String", "value", "[B", .ref 21, 12), ("java/lang/String", "coder", "B", .int 0, 13), ("java/lang/String", "value", "[B", .ref 22, 13), ("java/lang/String", "coder", "B", .int 0, 14), ("java/lang/String", "value", "[B", .ref 23, 14), ("java/lang/String", "coder", "B", .int 0, 15), ("java/lang/String", "value", "[B", .ref 24, 15), ("java/lang/String", "coder", "B", .int 0, 16), ("java/lang/String", "value", "[B", .ref 25, 16), ("java/lang/String", "coder", "B", .int 0, 31), ("java/lang/String", "value", "[B", .ref 49, 31), ("java/lang/String", "coder", "B", .int 0, 32), ("java/lang/String", "value", "[B", .ref 50, 32), ("java/lang/String", "coder", "B", .int 0, 33), ("java/lang/String", "value", "[B", .ref 51, 33), ("java/lang/String", "coder", "B", .int 0, 34), ("java/lang/String", "value", "[B", .ref 52, 34), ("java/lang/String", "coder", "B", .int 0, 35), ("java/lang/String", "value", "[B", .ref 53, 35), ("java/lang/String", "coder", "B", .int 0, 36), ("java/lang/String", "value", "[B", .ref 54, 36), ("java/lang/String", "coder", "B", .int 0, 37), ("java/lang/String", "value", "[B", .ref 55, 37), ("java/lang/String", "coder", "B", .int 0, 38), ("java/lang/String", "value", "[B", .ref 56, 38), ("java/lang/String", "coder", "B", .int 0, 39), ("java/lang/String", "value", "[B", .ref 57, 39), ("java/lang/String", "coder", "B", .int 0, 40), ("java/lang/String", "value", "[B", .ref 58, 40), ("java/lang/String", "coder", "B", .int 0, 41), ("java/lang/String", "value", "[B", .ref 59, 41), ("java/lang/String", "coder", "B", .int 0, 42), ("java/lang/String", "value", "[B", .ref 60, 42), ("java/lang/String", "coder", "B", .int 0, 43), ("java/lang/String", "value", "[B", .ref 61, 43), ("java/lang/String", "coder", "B", .int 0, 44), ("java/lang/String", "value", "[B", .ref 62, 44), ("java/lang/String", "coder", "B", .int 0, 45), ("java/lang/String", "value", "[B", .ref 63, 45), ("java/lang/String", "coder", "B", .int 0, 46), ("java/lang/String", "value", "[B", .ref 64, 46), ("java/lang/String", "coder", "B", .int 0, 47), ("java/lang/String", "value", "[B", .ref 65, 47), ("java/lang/String", "coder", "B", .int 0, 48), ("java/lang/String", "value", "[B", .ref 66, 48)]
def wO : List (String × Nat) := [(RX9, 1), (RX9, 2), (RX9, 3), (RX9, 4), (RX9, 5), (RX9, 6), (RX9, 7), ("java/lang/String", 8), ("java/lang/String", 9), ("java/lang/String", 10), ("java/lang/String", 11), ("java/lang/String", 12), ("java/lang/String", 13), ("java/lang/String", 14), ("java/lang/String", 15), ("java/lang/String", 16), ("java/lang/String", 31), ("java/lang/String", 32), ("java/lang/String", 33), ("java/lang/String", 34), ("java/lang/String", 35), ("java/lang/String", 36), ("java/lang/String", 37), ("java/lang/String", 38), ("java/lang/String", 39), ("java/lang/String", 40), ("java/lang/String", 41), ("java/lang/String", 42), ("java/lang/String", 43), ("java/lang/String", 44), ("java/lang/String", 45), ("java/lang/String", 46), ("java/lang/String", 47), ("java/lang/String", 48)]
def wT : List (FieldType × Nat × Nat × (Nat → Value)) := [(.byte, 17, 5, fun j => .int (([104, 97, 110, 103, 32] : List Int32).getD j 0)), (.byte, 18, 5, fun j => .int (([112, 117, 115, 104, 32] : List Int32).getD j 0)), (.byte, 19, 6, fun j => .int (([99, 97, 116, 99, 104, 32] : List Int32).getD j 0)), (.byte, 20, 9, fun j => .int (([102, 114, 105, 99, 116, 105, 111, 110, 32] : List Int32).getD j 0)), (.byte, 21, 4, fun j => .int (([108, 101, 103, 32] : List Int32).getD j 0)), (.byte, 22, 4, fun j => .int (([99, 117, 116, 32] : List Int32).getD j 0)), (.byte, 23, 5, fun j => .int (([116, 105, 99, 107, 32] : List Int32).getD j 0)), (.byte, 24, 3, fun j => .int (([99, 109, 32] : List Int32).getD j 0)), (.byte, 25, 4, fun j => .int (([114, 101, 115, 116] : List Int32).getD j 0)), (.object RX9, 26, 7, fun j => .ref (1 + j)), (.int, 27, 7, fun j => .int (([1, 2, 3, 4, 5, 6, 7] : List Int32).getD j 0)), (.byte, 28, 100, fun j => .int (Int32.ofNat (48 + j % 10))), (.byte, 29, 100, fun j => .int (Int32.ofNat (48 + j / 10))), (.byte, 49, 25, fun j => .int (([102, 114, 105, 99, 116, 105, 111, 110, 32, 57, 59, 116, 105, 99, 107, 32, 52, 48, 59, 116, 105, 99, 107, 32, 55] : List Int32).getD j 0)), (.byte, 50, 15, fun j => .int (([116, 105, 99, 107, 32, 49, 59, 116, 105, 99, 107, 32, 53, 48, 49] : List Int32).getD j 0)), (.byte, 51, 7, fun j => .int (([99, 97, 116, 99, 104, 32, 57] : List Int32).getD j 0)), (.byte, 52, 1, fun j => .int (([99] : List Int32).getD j 0)), (.byte, 53, 6, fun j => .int (([112, 117, 115, 104, 32, 48] : List Int32).getD j 0)), (.byte, 54, 9, fun j => .int (([104, 97, 110, 103, 32, 49, 50, 51, 52] : List Int32).getD j 0)), (.byte, 55, 0, fun j => .int (([] : List Int32).getD j 0)), (.byte, 56, 6, fun j => .int (([99, 117, 116, 32, 48, 59] : List Int32).getD j 0)), (.byte, 57, 2, fun j => .int (([99, 120] : List Int32).getD j 0)), (.byte, 58, 3, fun j => .int (([108, 101, 103] : List Int32).getD j 0)), (.byte, 59, 6, fun j => .int (([99, 117, 116, 32, 49, 50] : List Int32).getD j 0)), (.byte, 60, 10, fun j => .int (([102, 114, 105, 99, 116, 105, 111, 110, 32, 120] : List Int32).getD j 0)), (.byte, 61, 1, fun j => .int (([122] : List Int32).getD j 0)), (.byte, 62, 37, fun j => .int (([104, 97, 110, 103, 32, 49, 59, 104, 97, 110, 103, 32, 52, 59, 104, 97, 110, 103, 32, 50, 53, 59, 104, 97, 110, 103, 32, 57, 57, 59, 112, 117, 115, 104, 32, 48, 32] : List Int32).getD j 0)), (.byte, 63, 16, fun j => .int (([59, 116, 105, 99, 107, 32, 51, 59, 112, 117, 115, 104, 32, 49, 32, 56] : List Int32).getD j 0)), (.byte, 64, 11, fun j => .int (([50, 58, 50, 53, 99, 109, 32, 114, 101, 115, 116] : List Int32).getD j 0)), (.byte, 65, 6, fun j => .int (([48, 58, 49, 99, 109, 32] : List Int32).getD j 0)), (.byte, 66, 3, fun j => .int (([64, 48, 42] : List Int32).getD j 0))]
def wZ : List (String × String × String × Value) := [("java/lang/String", "COMPACT_STRINGS", "Z", .int 1), (RX9, "ALL", "[LPendulumGym$Word;", .ref 26), (RX0, "$SwitchMap$PendulumGym$Word", "[I", .ref 27), ("java/lang/Integer", "DigitOnes", "[B", .ref 28), ("java/lang/Integer", "DigitTens", "[B", .ref 29)]
def wNc : List (String × String) := [("java/lang/IllegalArgumentException", "java/lang/IndexOutOfBoundsException"), ("java/lang/IllegalStateException", "java/lang/IndexOutOfBoundsException"), ("java/util/NoSuchElementException", "java/lang/IndexOutOfBoundsException"), ("java/lang/ArithmeticException", "java/lang/IndexOutOfBoundsException"), ("java/lang/IndexOutOfBoundsException", "java/lang/IllegalArgumentException"), ("java/lang/IllegalStateException", "java/lang/IllegalArgumentException"), ("java/util/NoSuchElementException", "java/lang/IllegalArgumentException"), ("java/lang/ArithmeticException", "java/lang/IllegalArgumentException"), ("java/lang/IndexOutOfBoundsException", "java/lang/IllegalStateException"), ("java/lang/IllegalArgumentException", "java/lang/IllegalStateException"), ("java/util/NoSuchElementException", "java/lang/IllegalStateException"), ("java/lang/ArithmeticException", "java/lang/IllegalStateException"), ("java/lang/IndexOutOfBoundsException", "java/util/NoSuchElementException"), ("java/lang/IllegalArgumentException", "java/util/NoSuchElementException"), ("java/lang/IllegalStateException", "java/util/NoSuchElementException"), ("java/lang/ArithmeticException", "java/util/NoSuchElementException")]
def wR : List (String × Nat × String) := [(RX10, 362, "there is no such pendulum or leg"), (RX10, 364, "the number is out of range"), (RX10, 366, "the state does not allow it"), (RX10, 371, "there is no such pendulum"), (RX10, 373, "the pendulum is at rest"), (RX10, 382, "there is no such class"), (RX10, 384, "no pendulum of the class has been pushed so far"), (RX10, 163, "there is no such rank"), (RX10, 180, "ticks go from 0 to 500"), (RX10, 375, "one of the pendulums is at rest"), (RX10, 377, "the pendulums never meet"), (RX10, 391, "there are fewer pendulums than legs"), (RX10, 389, "there is no such leg"), (RX10, 393, "the number of swings is out of range"), (RX10, 395, "all pendulums together cannot do so many swings"), (RX10, 267, "all pendulums are at rest"), (RX10, 332, "the program is malformed"), (RX10, 340, "a command failed"), (RX10, 347, "no command failed so far"), (RX10, 352, "there is nothing to undo"), (RX10, 357, "there is no snapshot"), (RX10, 309, "the character is not from 32 to 126"), (RX10, 317, "the buffer is full"), (RX10, 302, "the card has no such character"), (RX10, 345, "no program was malformed so far")]
def wS : List (String × Nat × String × Nat) := [("PendulumGym", 283, "cm ", 15), ("PendulumGym", 292, "rest", 16), (RL, 144, "friction 9;tick 40;tick 7", 31), (RL, 156, "tick 1;tick 501", 32), (RL, 164, "catch 9", 33), (RL, 166, "c", 34), (RL, 172, "push 0", 35), (RL, 174, "hang 1234", 36), (RL, 176, "", 37), (RL, 178, "cut 0;", 38), (RL, 180, "cx", 39), (RL, 182, "leg", 40), (RL, 184, "cut 12", 41), (RL, 186, "friction x", 42), (RL, 188, "z", 43), (RL, 199, "hang 1;hang 4;hang 25;hang 99;push 0 ", 44), (RL, 208, ";tick 3;push 1 8", 45), (RL, 238, "2:25cm rest", 46), (RL, 244, "0:1cm ", 47), (RL, 246, "@0*", 48)]
def lw_nest : List Cond := [Cond.methodLinkNest RX10 9 yX8_init "PendulumGym", Cond.methodLinkNest RX2 24 yX8_init "PendulumGym", Cond.methodLinkNest RX10 31 yX1_init "PendulumGym", Cond.methodLinkNest RX10 38 yX7_init "PendulumGym", Cond.methodLinkNest RX10 45 yX5_init "PendulumGym", Cond.fieldLinkNest RX5 68 "PendulumGym$Word" "ALL" "[LPendulumGym$Word;" "PendulumGym", Cond.privateMethod yJ5_ensureCapacityInternal_d00df, Cond.privateMethod yJ5_newCapacity_0f7a4, Cond.privateMethod yJ5_putStringAt_47b60, Cond.privateMethod yJ5_inflateIfNeededFor_a7421, Cond.declares ⟨"java/lang/Enum", "ordinal", "()I"⟩, Cond.declares ⟨"java/lang/RuntimeException", "<init>", "(Ljava/lang/String;)V"⟩, Cond.declares ⟨"java/lang/Exception", "<init>", "(Ljava/lang/String;)V"⟩, Cond.declares ⟨"java/lang/Throwable", "<init>", "(Ljava/lang/String;)V"⟩, Cond.castable "java/lang/IndexOutOfBoundsException" "java/lang/IndexOutOfBoundsException", Cond.castable "java/lang/IllegalArgumentException" "java/lang/IllegalArgumentException", Cond.castable "java/lang/IllegalStateException" "java/lang/IllegalStateException", Cond.castable "java/util/NoSuchElementException" "java/util/NoSuchElementException", Cond.castable "java/lang/ArithmeticException" "java/lang/ArithmeticException"]
theorem nest_warm : ∀ w ∈ lw_nest, ∀ {s U : State}, s.WarmedH U.vm → va_Nw w s → va_Nw w U := by
  intro w hw s U hW h
  simp only [lw_nest, List.mem_cons, List.not_mem_nil, or_false] at hw
  rcases hw with rfl | rfl | rfl | rfl | rfl | rfl | rfl | rfl | rfl | rfl | rfl | rfl | rfl | rfl | rfl | rfl | rfl | rfl | rfl
  · exact h.warmM hW
  · exact h.warmM hW
  · exact h.warmM hW
  · exact h.warmM hW
  · exact h.warmM hW
  · exact h.warmF hW
  · exact va_tabs rfl (rfl : (s.setVm U.vm).vm = U.vm) (by rw [Cond.privateMethod_setVm hW.alike]; exact h)
  · exact va_tabs rfl (rfl : (s.setVm U.vm).vm = U.vm) (by rw [Cond.privateMethod_setVm hW.alike]; exact h)
  · exact va_tabs rfl (rfl : (s.setVm U.vm).vm = U.vm) (by rw [Cond.privateMethod_setVm hW.alike]; exact h)
  · exact va_tabs rfl (rfl : (s.setVm U.vm).vm = U.vm) (by rw [Cond.privateMethod_setVm hW.alike]; exact h)
  · exact h.warmD hW
  · exact h.warmD hW
  · exact h.warmD hW
  · exact h.warmD hW
  · exact h.warmC hW
  · exact h.warmC hW
  · exact h.warmC hW
  · exact h.warmC hW
  · exact h.warmC hW
theorem nest_in : ∀ w ∈ lw_nest, w ∈ lw_tbl := by
  intro w hw
  simp only [lw_nest, List.mem_cons, List.not_mem_nil, or_false] at hw
  rcases hw with rfl | rfl | rfl | rfl | rfl | rfl | rfl | rfl | rfl | rfl | rfl | rfl | rfl | rfl | rfl | rfl | rfl | rfl | rfl
  · exact mlN_X10_9
  · exact mlN_X2_24
  · exact mlN_X10_31
  · exact mlN_X10_38
  · exact mlN_X10_45
  · exact slN_X5_68
  · exact (List.mem_of_getElem? (i := 920) (by decide +kernel))
  · exact (List.mem_of_getElem? (i := 924) (by decide +kernel))
  · exact (List.mem_of_getElem? (i := 989) (by decide +kernel))
  · exact (List.mem_of_getElem? (i := 993) (by decide +kernel))
  · exact (List.mem_of_getElem? (i := 1290) (by decide +kernel))
  · exact (List.mem_of_getElem? (i := 280) (by decide +kernel))
  · exact (List.mem_of_getElem? (i := 282) (by decide +kernel))
  · exact (List.mem_of_getElem? (i := 284) (by decide +kernel))
  · exact (List.mem_of_getElem? (i := 278) (by decide +kernel))
  · exact (List.mem_of_getElem? (i := 349) (by decide +kernel))
  · exact (List.mem_of_getElem? (i := 365) (by decide +kernel))
  · exact (List.mem_of_getElem? (i := 504) (by decide +kernel))
  · exact (List.mem_of_getElem? (i := 871) (by decide +kernel))
/-! what was there before the law began: fields, classes, arrays, statics, strings -/
def OldA (G : GT) (U : State) (H : Heap) : Prop :=
  (∀ q ∈ wOF, va_OF q.1 q.2.1 q.2.2.1 (cv (gO G) q.2.2.2.1) (gO G q.2.2.2.2) (gF G) U H) ∧
  (∀ q ∈ wO, va_O q.1 (gO G q.2) (gF G) U H) ∧
  (∀ q ∈ wT, va_T q.1 (gO G q.2.1) q.2.2.1 (fun j => cv (gO G) (q.2.2.2 j)) (gF G) U H) ∧
  va_T .int (gO G 0) (gN G) (fun j => .int (gX G j)) (gF G) U H ∧
  (∀ q ∈ wZ, va_Z q.1 q.2.1 q.2.2.1 (cv (gO G) q.2.2.2) (gF G) U H) ∧
  (vx_Zq Bundle.tN "UNASSIGNED_STACK" Bundle.steD (gF G) U H ∧ vx_Zq Bundle.tN "SUPPRESSED_SENTINEL" Bundle.listD (gF G) U H) ∧
  (∀ q ∈ wNc, va_Nc q.1 q.2 U) ∧
  (∀ q ∈ wR, ∃ a, vk_R q.1 q.2.1 q.2.2 a U) ∧
  (∀ q ∈ wS, vk_R q.1 q.2.1 q.2.2.1 (gO G q.2.2.2) U) ∧
  (∀ w ∈ lw_nest, va_Nw w U) ∧ (va_AO RX8 U ∧ va_AO RX9 U) ∧ (va_Z "jdk/internal/util/Preconditions" "SIOOBE_FORMATTER" "Ljava/util/function/BiFunction;" (cv (gO G) (.ref 30)) (gF G) U H ∨ va_Z "jdk/internal/util/Preconditions" "SIOOBE_FORMATTER" "Ljava/util/function/BiFunction;" .null (gF G) U H)
theorem OldA.warm {G : GT} {s U : State} {H : Heap} (hW : s.WarmedH U.vm) (h : OldA G s H) : OldA G U H := by
  have hv := hW.alike
  obtain ⟨h1, h2, h3, h4, h5, h6, h7, h8, h9, h10, h11⟩ := h
  exact ⟨fun q hq => va_OF.moved hv (h1 q hq), fun q hq => va_O.moved hv (h2 q hq), fun q hq => va_T.moved hv (h3 q hq), va_T.moved hv h4, fun q hq => va_Z.moved hv (h5 q hq), ⟨vx_Zq.moved hv h6.1, vx_Zq.moved hv h6.2⟩, fun q hq => va_Nc.moved hv (h7 q hq),
    fun q hq => by obtain ⟨a, ha⟩ := h8 q hq; exact ⟨a, ha.warm hW⟩, fun q hq => (h9 q hq).warm hW, fun w hw => nest_warm w hw hW (h10 w hw), ⟨va_AO.moved hv h11.1.1, va_AO.moved hv h11.1.2⟩, h11.2.imp (va_Z.moved hv) (va_Z.moved hv)⟩
theorem OldA.kept {G : GT} {U : State} {H H1 : Heap} (hq : ∀ a : Nat, a < H.size → ¬ gF G a → H1[a]? = H[a]?) (h : OldA G U H) : OldA G U H1 := by
  obtain ⟨h1, h2, h3, h4, h5, h6, h7, h8, h9, h10, h11⟩ := h
  exact ⟨fun q hm => (h1 q hm).kept hq, fun q hm => (h2 q hm).kept hq, fun q hm => (h3 q hm).kept hq, h4.kept hq, fun q hm => (h5 q hm).kept hq, ⟨h6.1.kept hq, h6.2.kept hq⟩, h7, h8, h9, h10, h11.1, h11.2.imp (fun h => h.kept hq) (fun h => h.kept hq)⟩
