/-! what the changes do to the gymnasium's numbers -/
def opAdd (V : Nat → Nat) (a : Int32) : Nat × Nat × (Nat → Nat) :=
  if inB a (nI 1) (nI 99) = false then (1, 0, V) else if V 2 = 8 then (2, 0, V) else (0, V 2, va_up (va_up V (4 + V 2) a.toNatClampNeg) 2 (V 2 + 1))
def pushV (V : Nat → Nat) (k a : Nat) : Nat → Nat :=
  let W := va_up (if V (12 + k) = 0 then va_up V (20 + k) (V 0) else V) (12 + k) a
  if V (36 + kindN (V (4 + k))) < a then va_up (va_up W (36 + kindN (V (4 + k))) a) (39 + kindN (V (4 + k))) k else W
def opPush (V : Nat → Nat) (p d : Int32) : Nat × Nat × (Nat → Nat) :=
  if isK p (V 2) = false then (1, 0, V) else if inB d (nI 1) (nI 60) = false then (2, 0, V) else
  if 60 < V (12 + p.toNatClampNeg) + d.toNatClampNeg then (3, 0, V) else (0, V (12 + p.toNatClampNeg) + d.toNatClampNeg, pushV V p.toNatClampNeg (V (12 + p.toNatClampNeg) + d.toNatClampNeg))
def opCatch (V : Nat → Nat) (p : Int32) : Nat × Nat × (Nat → Nat) :=
  if isK p (V 2) = false then (1, 0, V) else if V (12 + p.toNatClampNeg) = 0 then (2, 0, V) else (0, V (12 + p.toNatClampNeg), va_up V (12 + p.toNatClampNeg) 0)
def opFric (V : Nat → Nat) (a : Int32) : Nat × Nat × (Nat → Nat) :=
  if inB a (nI 0) (nI 30) = false then (1, 0, V) else (0, V 1, va_up V 1 a.toNatClampNeg)
/-- does k swing in the next tick -/
def swg (V : Nat → Nat) (k : Nat) : Bool := decide (V (12 + k) ≠ 0 ∧ (V 0 + 1 - V (20 + k)) % perN (V (4 + k)) = 0)
/-- the next tick, seen by the pendulums below u -/
def tkV (V : Nat → Nat) (u : Nat) : Nat → Nat := fun j =>
  if j = 0 then V 0 + 1 else if 12 ≤ j ∧ j < 12 + u ∧ swg V (j - 12) = true then swN (V 1) (V j) else if 28 ≤ j ∧ j < 28 + u ∧ swg V (j - 28) = true then V j + 1 else V j
def tkC (V : Nat → Nat) : Nat → Nat
  | 0 => 0
  | u + 1 => tkC V u + (if swg V u = true then 1 else 0)
def tks : Nat → (Nat → Nat) → (Nat → Nat)
  | 0, V => V
  | t + 1, V => tks t (tkV V (V 2))
def tkcs : Nat → (Nat → Nat) → Nat
  | 0, _ => 0
  | t + 1, V => tkC V (V 2) + tkcs t (tkV V (V 2))
def opPass (V : Nat → Nat) (t : Int32) : Nat × Nat × (Nat → Nat) :=
  if inB t (nI 1) (nI 500) = false then (1, 0, V) else (0, tkcs t.toNatClampNeg V, tks t.toNatClampNeg V)
def opLeg (V : Nat → Nat) (a : Int32) : Nat × Nat × (Nat → Nat) :=
  if inB a (nI 1) (nI 60) = false then (1, 0, V) else if V 3 = 6 then (2, 0, V) else (0, V 3 + 1, va_up (va_up V (42 + V 3) a.toNatClampNeg) 3 (V 3 + 1))
/-- the wishes behind k move up by one, as far as u -/
def cutV (V : Nat → Nat) (k u : Nat) : Nat → Nat := fun j => if 42 + k ≤ j ∧ j < 42 + u then V (j + 1) else V j
def opCut (V : Nat → Nat) (p : Int32) : Nat × Nat × (Nat → Nat) :=
  if isK p (V 3) = false then (1, 0, V) else (0, V (42 + p.toNatClampNeg), va_up (cutV V p.toNatClampNeg 5) 3 (V 3 - 1))
theorem nIc {k : Nat} (h : k < 2 ^ 31) : (nI k).toNatClampNeg = k := nI_clamp h
theorem tkV_0 {V : Nat → Nat} : tkV V 0 = va_up V 0 (V 0 + 1) := by
  funext j
  by_cases hj : j = 0
  · subst hj; rw [up_self]; rfl
  · rw [up_ne hj]
    unfold tkV
    rw [if_neg hj, if_neg (by omega), if_neg (by omega)]
theorem tkV_t {V : Nat → Nat} {u : Nat} (hu : u < 8) (h : swg V u = true) : tkV V (u + 1) = va_up (va_up (tkV V u) (12 + u) (swN (V 1) (V (12 + u)))) (28 + u) (V (28 + u) + 1) := by
  funext j
  by_cases h1 : j = 28 + u
  · subst h1
    rw [up_self]
    unfold tkV
    rw [if_neg (by omega), if_neg (by omega), if_pos ⟨by omega, by omega, by rw [show 28 + u - 28 = u by omega]; exact h⟩]
  · rw [up_ne h1]
    by_cases h2 : j = 12 + u
    · subst h2
      rw [up_self]
      unfold tkV
      rw [if_neg (by omega), if_pos ⟨by omega, by omega, by rw [show 12 + u - 12 = u by omega]; exact h⟩]
    · rw [up_ne h2]
      unfold tkV
      by_cases h0 : j = 0
      · rw [if_pos h0, if_pos h0]
      · rw [if_neg h0, if_neg h0]
        have e1 : (12 ≤ j ∧ j < 12 + (u + 1) ∧ swg V (j - 12) = true) ↔ (12 ≤ j ∧ j < 12 + u ∧ swg V (j - 12) = true) := ⟨fun q => ⟨q.1, by omega, q.2.2⟩, fun q => ⟨q.1, by omega, q.2.2⟩⟩
        have e2 : (28 ≤ j ∧ j < 28 + (u + 1) ∧ swg V (j - 28) = true) ↔ (28 ≤ j ∧ j < 28 + u ∧ swg V (j - 28) = true) := ⟨fun q => ⟨q.1, by omega, q.2.2⟩, fun q => ⟨q.1, by omega, q.2.2⟩⟩
        simp only [e1, e2]
theorem tkV_f {V : Nat → Nat} {u : Nat} (h : swg V u = false) : tkV V (u + 1) = tkV V u := by
  funext j
  unfold tkV
  have e1 : (12 ≤ j ∧ j < 12 + (u + 1) ∧ swg V (j - 12) = true) ↔ (12 ≤ j ∧ j < 12 + u ∧ swg V (j - 12) = true) := ⟨fun q => ⟨q.1, by
    rcases Nat.lt_or_ge j (12 + u) with z | z
    · exact z
    · have e : j - 12 = u := by omega
      rw [e, h] at q; exact absurd q.2.2 (by decide), q.2.2⟩, fun q => ⟨q.1, by omega, q.2.2⟩⟩
  have e2 : (28 ≤ j ∧ j < 28 + (u + 1) ∧ swg V (j - 28) = true) ↔ (28 ≤ j ∧ j < 28 + u ∧ swg V (j - 28) = true) := ⟨fun q => ⟨q.1, by
    rcases Nat.lt_or_ge j (28 + u) with z | z
    · exact z
    · have e : j - 28 = u := by omega
      rw [e, h] at q; exact absurd q.2.2 (by decide), q.2.2⟩, fun q => ⟨q.1, by omega, q.2.2⟩⟩
  simp only [e1, e2]
theorem swN_le {fr a : Nat} : swN fr a ≤ a := Nat.sub_le _ _
theorem per_pos {L : Nat} (h : 1 ≤ L) : 1 ≤ perN L := by
  have h1 : (0 + 1) * (0 + 1) ≤ 36 * L := by omega
  have h2 := perG_step (r := 0) (by decide) h1
  have key : ∀ n r, r ≤ perG n r L := by
    intro n
    induction n with
    | zero => intro r; exact Nat.le_refl _
    | succ n ih =>
      intro r
      unfold perG
      split
      · exact Nat.le_trans (Nat.le_succ r) (ih (r + 1))
      · exact Nat.le_refl _
  have h3 := key (60 - (0 + 1)) (0 + 1)
  unfold perN
  rw [show (60 : Nat) = 60 - 0 from rfl, h2]
  exact h3
theorem per_le {L : Nat} (hL : L ≤ 99) : perN L ≤ 59 := by
  have key : ∀ L, L < 100 → perN L ≤ 59 := by decide +kernel
  exact key L (by omega)
theorem per_ge {L : Nat} (h1 : 1 ≤ L) (hL : L ≤ 99) : 6 ≤ perN L := by
  have key : ∀ L, L < 100 → 1 ≤ L → 6 ≤ perN L := by decide +kernel
  exact key L (by omega) h1
/-- the bounds hold behind a tick -/
theorem VB.tick {K : Nat} {V : Nat → Nat} (h : VB K V) (hK : K + 1 < 16000000) {u : Nat} (hu : u ≤ V 2) : VB (K + 1) (tkV V u) := by
  have h0 := h.now
  have hc := h.cnt
  have e0 : tkV V u 0 = V 0 + 1 := rfl
  have keep : ∀ j, j ≠ 0 → (j < 12 ∨ 12 + u ≤ j) → (j < 28 ∨ 28 + u ≤ j) → tkV V u j = V j := fun j hj h1 h2 => by
    unfold tkV
    rw [if_neg hj, if_neg (by omega), if_neg (by omega)]
  have amp : ∀ j, 12 ≤ j → j < 20 → tkV V u j ≤ V j := fun j h1 h2 => by
    unfold tkV
    rw [if_neg (by omega)]
    split
    · exact swN_le
    · rw [if_neg (by omega)]; exact Nat.le_refl _
  have sw : ∀ j, 28 ≤ j → j < 36 → tkV V u j ≤ V j + 1 := fun j h1 h2 => by
    unfold tkV
    rw [if_neg (by omega), if_neg (by omega)]
    split
    · exact Nat.le_refl _
    · exact Nat.le_succ _
  refine ⟨by omega, hK, ?_, ?_, ?_, fun k hk => ?_, fun k hk => ?_, fun k hk => ?_, fun k hk => ?_⟩
  · rw [keep 1 (by omega) (by omega) (by omega)]; exact h.fric
  · rw [keep 2 (by omega) (by omega) (by omega)]; exact h.cnt
  · rw [keep 3 (by omega) (by omega) (by omega)]; exact h.legs
  · rw [keep (4 + k) (by omega) (by omega) (by omega), keep 2 (by omega) (by omega) (by omega)]; exact ⟨h.len hk, fun z => h.len1 z⟩
  · rw [keep (20 + k) (by omega) (by omega) (by omega), keep 2 (by omega) (by omega) (by omega), e0]
    have ha := amp (12 + k) (by omega) (by omega)
    have hs := sw (28 + k) (by omega) (by omega)
    have h1 := h.amp hk
    have h2 := h.start hk
    have h3 := h.sw hk
    refine ⟨by omega, by omega, by omega, fun z => ?_⟩
    rw [keep (12 + k) (by omega) (by omega) (by omega), keep (28 + k) (by omega) (by omega) (by omega)]
    exact h.dead hk z
  · rw [keep (36 + k) (by omega) (by omega) (by omega), keep (39 + k) (by omega) (by omega) (by omega)]; exact ⟨h.rec hk, h.hol hk⟩
  · rw [keep (42 + k) (by omega) (by omega) (by omega)]; exact h.wish hk
theorem VB.mono {K K' : Nat} {V : Nat → Nat} (h : VB K V) (h1 : K ≤ K') (h2 : K' < 16000000) : VB K' V := ⟨Nat.le_trans h.1 h1, h2, h.2.2⟩
theorem VB.tks {K : Nat} {V : Nat → Nat} : ∀ (t : Nat) {K : Nat} {V : Nat → Nat}, VB K V → K + t < 16000000 → VB (K + t) (tks t V) := by
  intro t
  induction t with
  | zero => intro K V h _; exact h
  | succ t ih =>
    intro K V h hK
    have := ih (h.tick (by omega) (Nat.le_refl _)) (by omega)
    rw [show K + 1 + t = K + (t + 1) by omega] at this
    exact this
