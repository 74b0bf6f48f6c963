/-! quotas: the greatest first -/
def wkN (V : Nat → Nat) (k : Nat) : Nat := 168 / perN (V (4 + k))
theorem few_low {V : Nat → Nat} {t s : Nat} : ∀ S, s < S → t ≤ togN V s → fewG V t S ≤ memN s := by
  intro S
  induction S with
  | zero => intro h; omega
  | succ S ih =>
    intro h ht
    rw [few_s]
    by_cases e : s = S
    · subst e; split <;> omega
    · have := ih (by omega) ht; split <;> omega
theorem few_at {V : Nat → Nat} {t : Nat} : ∀ S, fewG V t S = 9 ∨ ∃ s, s < S ∧ t ≤ togN V s ∧ memN s = fewG V t S := by
  intro S
  induction S with
  | zero => exact Or.inl rfl
  | succ S ih =>
    rw [few_s]
    split
    · next h => exact Or.inr ⟨S, Nat.lt_succ_self S, h.1, rfl⟩
    · rcases ih with h | ⟨s, h1, h2, h3⟩
      · exact Or.inl h
      · exact Or.inr ⟨s, by omega, h2, h3⟩
theorem bit_hi {s n k : Nat} (h : s < 2 ^ n) (hk : n ≤ k) : bitN s k = 0 := by
  unfold bitN
  have : 2 ^ n ≤ 2 ^ k := Nat.pow_le_pow_right (by decide) hk
  rw [Nat.div_eq_of_lt (by omega)]
theorem mem_hi {s n : Nat} (h : s < 2 ^ n) (hn : n ≤ 8) : memN s = memC s n := by
  have key : ∀ d, n + d ≤ 8 → memC s (n + d) = memC s n := by
    intro d
    induction d with
    | zero => intro _; rfl
    | succ d ih => intro hd; show memC s (n + d) + bitN s (n + d) = _; rw [ih (by omega), bit_hi h (by omega)]; rfl
  have := key (8 - n) (by omega)
  rw [show n + (8 - n) = 8 by omega] at this
  exact this
/-- a set whose weights are all at least th, those outside at most th, beats all sets of its size -/
theorem greedy {V : Nat → Nat} {G s th : Nat} (n : Nat) (h1 : ∀ k, k < n → bitN G k = 1 → th ≤ wkN V k) (h2 : ∀ k, k < n → bitN G k ≠ 1 → wkN V k ≤ th) : togC V s n + th * memC G n ≤ togC V G n + th * memC s n := by
  have key : ∀ u, u ≤ n → togC V s u + th * memC G u ≤ togC V G u + th * memC s u := by
    intro u
    induction u with
    | zero => intro _; exact Nat.le_refl _
    | succ u ih =>
      intro hu
      have := ih (by omega)
      show togC V s u + (if bitN s u = 1 then wkN V u else 0) + th * (memC G u + bitN G u) ≤ togC V G u + (if bitN G u = 1 then wkN V u else 0) + th * (memC s u + bitN s u)
      have b1 := bit_lt s u
      have b2 := bit_lt G u
      rw [Nat.mul_add, Nat.mul_add]
      by_cases hs : bitN s u = 1
      · by_cases hG : bitN G u = 1
        · rw [if_pos hs, if_pos hG, hs, hG]; omega
        · have hG0 : bitN G u = 0 := by omega
          have := h2 u (by omega) hG
          rw [if_pos hs, if_neg hG, hs, hG0]; omega
      · have hs0 : bitN s u = 0 := by omega
        by_cases hG : bitN G u = 1
        · have := h1 u (by omega) hG
          rw [if_neg hs, if_pos hG, hs0, hG]; omega
        · have hG0 : bitN G u = 0 := by omega
          rw [if_neg hs, if_neg hG, hs0, hG0]; omega
  exact key n (Nat.le_refl _)
/-- the greatest free one below u: (which, whether there is one) -/
def gfF (V : Nat → Nat) (s : Nat) : Nat → Nat × Nat
  | 0 => (0, 0)
  | u + 1 => if bitN s u ≠ 1 ∧ (gfF V s u).2 < wkN V u + 1 then (u, wkN V u + 1) else gfF V s u
def gfN (V : Nat → Nat) (s : Nat) : Nat := (gfF V s (V 2)).1
theorem gf_le {V : Nat → Nat} {s : Nat} : ∀ u, (gfF V s u).2 = 0 ∨ ((gfF V s u).1 < u ∧ bitN s (gfF V s u).1 ≠ 1 ∧ (gfF V s u).2 = wkN V (gfF V s u).1 + 1) := by
  intro u
  induction u with
  | zero => exact Or.inl rfl
  | succ u ih =>
    unfold gfF
    split
    · next h => exact Or.inr ⟨Nat.lt_succ_self u, h.1, rfl⟩
    · rcases ih with h | ⟨a, b, c⟩
      · exact Or.inl h
      · exact Or.inr ⟨by omega, b, c⟩
theorem gf_max {V : Nat → Nat} {s k : Nat} : ∀ u, k < u → bitN s k ≠ 1 → wkN V k + 1 ≤ (gfF V s u).2 := by
  intro u
  induction u with
  | zero => intro h; omega
  | succ u ih =>
    intro h hb
    unfold gfF
    by_cases e : k = u
    · subst e
      split
      · exact Nat.le_refl _
      · next h1 => exact Nat.le_of_not_lt (fun z => h1 ⟨hb, z⟩)
    · have := ih (by omega) hb
      split
      · next h1 => show wkN V k + 1 ≤ wkN V u + 1; omega
      · exact this
/-- the free one found: a pendulum, not taken, none of the free ones is better -/
theorem gf_ok {V : Nat → Nat} {s : Nat} (hm : memN s < V 2) (hc : V 2 ≤ 8) : gfN V s < V 2 ∧ bitN s (gfN V s) ≠ 1 ∧ ∀ k, k < V 2 → bitN s k ≠ 1 → wkN V k ≤ wkN V (gfN V s) := by
  obtain ⟨r, hr, hb⟩ := mem_free hm hc
  have h0 := gf_max (V := V) (V 2) hr hb
  rcases gf_le (V := V) (s := s) (V 2) with h | ⟨a, b, c⟩
  · omega
  · refine ⟨a, b, fun k hk hb => ?_⟩
    have := gf_max (V := V) (V 2) hk hb
    unfold gfN
    omega
def gsN (V : Nat → Nat) : Nat → Nat
  | 0 => 0
  | j + 1 => gsN V j ||| 2 ^ gfN V (gsN V j)
theorem or_bit {s r k : Nat} (hs : s < 256) (hr : r < 8) (hk : k < 8) : bitN (s ||| 2 ^ r) k = if k = r then 1 else bitN s k := by
  have key : ∀ r, r < 8 → ∀ k, k < 8 → ∀ s, s < 256 → bitN (s ||| 2 ^ r) k = if k = r then 1 else bitN s k := by decide +kernel
  exact key r hr k hk s hs
theorem or_pow {s r n : Nat} (hs : s < 2 ^ n) (hr : r < n) : s ||| 2 ^ r < 2 ^ n := Nat.or_lt_two_pow hs (Nat.pow_lt_pow_right (by decide) hr)
theorem tog_or {V : Nat → Nat} {s r : Nat} (hs : s < 256) (hr : r < V 2) (hc : V 2 ≤ 8) (hb : bitN s r ≠ 1) : togN V (s ||| 2 ^ r) = togN V s + wkN V r := by
  have key : ∀ u, u ≤ V 2 → togC V (s ||| 2 ^ r) u = togC V s u + (if r < u then wkN V r else 0) := by
    intro u
    induction u with
    | zero => intro _; rfl
    | succ u ih =>
      intro hu
      show togC V (s ||| 2 ^ r) u + (if bitN (s ||| 2 ^ r) u = 1 then wkN V u else 0) = togC V s u + (if bitN s u = 1 then wkN V u else 0) + _
      rw [ih (by omega), or_bit hs (by omega) (by omega)]
      by_cases e : u = r
      · subst e; rw [if_neg (Nat.lt_irrefl u), if_pos rfl, if_pos rfl, if_neg hb, if_pos (Nat.lt_succ_self u)]
      · rw [if_neg e]
        by_cases h : r < u
        · rw [if_pos h, if_pos (show r < u + 1 by omega)]; omega
        · rw [if_neg h, if_neg (show ¬ r < u + 1 by omega)]; omega
  have := key (V 2) (Nat.le_refl _)
  rw [if_pos hr] at this
  exact this
theorem gs_ok {V : Nat → Nat} (hc : V 2 ≤ 8) : ∀ j, j ≤ V 2 → gsN V j < 2 ^ V 2 ∧ memN (gsN V j) = j ∧ (j = 0 ∨ ∃ th, (∀ k, k < V 2 → bitN (gsN V j) k = 1 → th ≤ wkN V k) ∧ ∀ k, k < V 2 → bitN (gsN V j) k ≠ 1 → wkN V k ≤ th) := by
  intro j
  have hpw : 2 ^ V 2 ≤ 256 := Nat.pow_le_pow_right (by decide) hc
  induction j with
  | zero => intro _; exact ⟨Nat.two_pow_pos _, (by decide : memN 0 = 0), Or.inl rfl⟩
  | succ j ih =>
    intro hj
    obtain ⟨a, b, c⟩ := ih (by omega)
    obtain ⟨d, e, f⟩ := gf_ok (V := V) (s := gsN V j) (by omega) hc
    refine ⟨or_pow a d, by show memN (gsN V j ||| 2 ^ _) = _; rw [mem_or (by omega) (by omega) e, b], Or.inr ⟨wkN V (gfN V (gsN V j)), fun k hk hb => ?_, fun k hk hb => ?_⟩⟩
    · have hb : bitN (gsN V j ||| 2 ^ gfN V (gsN V j)) k = 1 := hb
      rw [or_bit (by omega) (by omega) (by omega)] at hb
      by_cases z : k = gfN V (gsN V j)
      · rw [z]; exact Nat.le_refl _
      · rw [if_neg z] at hb
        rcases c with c | ⟨th, c1, c2⟩
        · subst c; exact absurd hb (by unfold bitN gsN; rw [Nat.zero_div]; decide)
        · exact Nat.le_trans (c2 _ d e) (c1 k hk hb)
    · have hb : bitN (gsN V j ||| 2 ^ gfN V (gsN V j)) k ≠ 1 := hb
      rw [or_bit (by omega) (by omega) (by omega)] at hb
      by_cases z : k = gfN V (gsN V j)
      · rw [if_pos z] at hb; exact absurd rfl hb
      · rw [if_neg z] at hb; exact f k hk hb
theorem gs_max {V : Nat → Nat} (hc : V 2 ≤ 8) {j s : Nat} (hj : j ≤ V 2) (hs : s < 2 ^ V 2) (hm : memN s ≤ j) : togN V s ≤ togN V (gsN V j) := by
  obtain ⟨a, b, c⟩ := gs_ok hc j hj
  have m1 := mem_hi hs hc
  have m2 := mem_hi a hc
  rcases c with c | ⟨th, c1, c2⟩
  · subst c
    have hz : ∀ u, memC s u = 0 → togC V s u = 0 := by
      intro u
      induction u with
      | zero => intro _; rfl
      | succ u ih =>
        intro h
        have h : memC s u + bitN s u = 0 := h
        show togC V s u + (if bitN s u = 1 then _ else 0) = 0
        rw [ih (by omega), if_neg (by omega)]
    show togC V s (V 2) ≤ _
    rw [hz _ (by omega)]; exact Nat.zero_le _
  · have h := greedy (V := V) (G := gsN V j) (s := s) (th := th) (V 2) c1 c2
    have h9 : th * memC s (V 2) ≤ th * memC (gsN V j) (V 2) := Nat.mul_le_mul_left _ (by omega)
    show togC V s (V 2) ≤ togC V (gsN V j) (V 2)
    omega
/-- the first number of greatest ones that is enough -/
theorem few_greedy {V : Nat → Nat} (hc : V 2 ≤ 8) {t j : Nat} (hj : j + 1 ≤ V 2) (h1 : togN V (gsN V j) < t) (h2 : t ≤ togN V (gsN V (j + 1))) : fewG V t (2 ^ V 2) = j + 1 := by
  obtain ⟨a, b, -⟩ := gs_ok hc (j + 1) hj
  have h3 := few_low (2 ^ V 2) a h2
  rcases few_at (V := V) (t := t) (2 ^ V 2) with h | ⟨s, h4, h5, h6⟩
  · omega
  · rcases Nat.lt_or_ge (memN s) (j + 1) with z | z
    · have := gs_max hc (j := j) (by omega) h4 (by omega)
      omega
    · omega
theorem few_never {V : Nat → Nat} (hc : V 2 ≤ 8) {t : Nat} (h1 : togN V (gsN V (V 2)) < t) : fewG V t (2 ^ V 2) = 9 := by
  rcases few_at (V := V) (t := t) (2 ^ V 2) with h | ⟨s, h4, h5, h6⟩
  · exact h
  · have m1 := mem_hi h4 hc
    have := memC_le s (V 2)
    have := gs_max hc (j := V 2) (Nat.le_refl _) h4 (by omega)
    omega
theorem bc_key {s : Nat} (hs : s < 256) : (((((((((nI s) - ((((nI s).toUInt32 >>> ((nI 1).toUInt32 &&& Int32.toUInt32 31)).toInt32) &&& (nI 1431655765))) &&& (nI 858993459)) + (((((nI s) - ((((nI s).toUInt32 >>> ((nI 1).toUInt32 &&& Int32.toUInt32 31)).toInt32) &&& (nI 1431655765))).toUInt32 >>> ((nI 2).toUInt32 &&& Int32.toUInt32 31)).toInt32) &&& (nI 858993459))) + ((((((nI s) - ((((nI s).toUInt32 >>> ((nI 1).toUInt32 &&& Int32.toUInt32 31)).toInt32) &&& (nI 1431655765))) &&& (nI 858993459)) + (((((nI s) - ((((nI s).toUInt32 >>> ((nI 1).toUInt32 &&& Int32.toUInt32 31)).toInt32) &&& (nI 1431655765))).toUInt32 >>> ((nI 2).toUInt32 &&& Int32.toUInt32 31)).toInt32) &&& (nI 858993459))).toUInt32 >>> ((nI 4).toUInt32 &&& Int32.toUInt32 31)).toInt32)) &&& (nI 252645135)) + ((((((((nI s) - ((((nI s).toUInt32 >>> ((nI 1).toUInt32 &&& Int32.toUInt32 31)).toInt32) &&& (nI 1431655765))) &&& (nI 858993459)) + (((((nI s) - ((((nI s).toUInt32 >>> ((nI 1).toUInt32 &&& Int32.toUInt32 31)).toInt32) &&& (nI 1431655765))).toUInt32 >>> ((nI 2).toUInt32 &&& Int32.toUInt32 31)).toInt32) &&& (nI 858993459))) + ((((((nI s) - ((((nI s).toUInt32 >>> ((nI 1).toUInt32 &&& Int32.toUInt32 31)).toInt32) &&& (nI 1431655765))) &&& (nI 858993459)) + (((((nI s) - ((((nI s).toUInt32 >>> ((nI 1).toUInt32 &&& Int32.toUInt32 31)).toInt32) &&& (nI 1431655765))).toUInt32 >>> ((nI 2).toUInt32 &&& Int32.toUInt32 31)).toInt32) &&& (nI 858993459))).toUInt32 >>> ((nI 4).toUInt32 &&& Int32.toUInt32 31)).toInt32)) &&& (nI 252645135)).toUInt32 >>> ((nI 8).toUInt32 &&& Int32.toUInt32 31)).toInt32)) + (((((((((nI s) - ((((nI s).toUInt32 >>> ((nI 1).toUInt32 &&& Int32.toUInt32 31)).toInt32) &&& (nI 1431655765))) &&& (nI 858993459)) + (((((nI s) - ((((nI s).toUInt32 >>> ((nI 1).toUInt32 &&& Int32.toUInt32 31)).toInt32) &&& (nI 1431655765))).toUInt32 >>> ((nI 2).toUInt32 &&& Int32.toUInt32 31)).toInt32) &&& (nI 858993459))) + ((((((nI s) - ((((nI s).toUInt32 >>> ((nI 1).toUInt32 &&& Int32.toUInt32 31)).toInt32) &&& (nI 1431655765))) &&& (nI 858993459)) + (((((nI s) - ((((nI s).toUInt32 >>> ((nI 1).toUInt32 &&& Int32.toUInt32 31)).toInt32) &&& (nI 1431655765))).toUInt32 >>> ((nI 2).toUInt32 &&& Int32.toUInt32 31)).toInt32) &&& (nI 858993459))).toUInt32 >>> ((nI 4).toUInt32 &&& Int32.toUInt32 31)).toInt32)) &&& (nI 252645135)) + ((((((((nI s) - ((((nI s).toUInt32 >>> ((nI 1).toUInt32 &&& Int32.toUInt32 31)).toInt32) &&& (nI 1431655765))) &&& (nI 858993459)) + (((((nI s) - ((((nI s).toUInt32 >>> ((nI 1).toUInt32 &&& Int32.toUInt32 31)).toInt32) &&& (nI 1431655765))).toUInt32 >>> ((nI 2).toUInt32 &&& Int32.toUInt32 31)).toInt32) &&& (nI 858993459))) + ((((((nI s) - ((((nI s).toUInt32 >>> ((nI 1).toUInt32 &&& Int32.toUInt32 31)).toInt32) &&& (nI 1431655765))) &&& (nI 858993459)) + (((((nI s) - ((((nI s).toUInt32 >>> ((nI 1).toUInt32 &&& Int32.toUInt32 31)).toInt32) &&& (nI 1431655765))).toUInt32 >>> ((nI 2).toUInt32 &&& Int32.toUInt32 31)).toInt32) &&& (nI 858993459))).toUInt32 >>> ((nI 4).toUInt32 &&& Int32.toUInt32 31)).toInt32)) &&& (nI 252645135)).toUInt32 >>> ((nI 8).toUInt32 &&& Int32.toUInt32 31)).toInt32)).toUInt32 >>> ((nI 16).toUInt32 &&& Int32.toUInt32 31)).toInt32)) &&& (nI 63)) = nI (memN s) := by
  have key : ∀ s, s < 256 → (((((((((nI s) - ((((nI s).toUInt32 >>> ((nI 1).toUInt32 &&& Int32.toUInt32 31)).toInt32) &&& (nI 1431655765))) &&& (nI 858993459)) + (((((nI s) - ((((nI s).toUInt32 >>> ((nI 1).toUInt32 &&& Int32.toUInt32 31)).toInt32) &&& (nI 1431655765))).toUInt32 >>> ((nI 2).toUInt32 &&& Int32.toUInt32 31)).toInt32) &&& (nI 858993459))) + ((((((nI s) - ((((nI s).toUInt32 >>> ((nI 1).toUInt32 &&& Int32.toUInt32 31)).toInt32) &&& (nI 1431655765))) &&& (nI 858993459)) + (((((nI s) - ((((nI s).toUInt32 >>> ((nI 1).toUInt32 &&& Int32.toUInt32 31)).toInt32) &&& (nI 1431655765))).toUInt32 >>> ((nI 2).toUInt32 &&& Int32.toUInt32 31)).toInt32) &&& (nI 858993459))).toUInt32 >>> ((nI 4).toUInt32 &&& Int32.toUInt32 31)).toInt32)) &&& (nI 252645135)) + ((((((((nI s) - ((((nI s).toUInt32 >>> ((nI 1).toUInt32 &&& Int32.toUInt32 31)).toInt32) &&& (nI 1431655765))) &&& (nI 858993459)) + (((((nI s) - ((((nI s).toUInt32 >>> ((nI 1).toUInt32 &&& Int32.toUInt32 31)).toInt32) &&& (nI 1431655765))).toUInt32 >>> ((nI 2).toUInt32 &&& Int32.toUInt32 31)).toInt32) &&& (nI 858993459))) + ((((((nI s) - ((((nI s).toUInt32 >>> ((nI 1).toUInt32 &&& Int32.toUInt32 31)).toInt32) &&& (nI 1431655765))) &&& (nI 858993459)) + (((((nI s) - ((((nI s).toUInt32 >>> ((nI 1).toUInt32 &&& Int32.toUInt32 31)).toInt32) &&& (nI 1431655765))).toUInt32 >>> ((nI 2).toUInt32 &&& Int32.toUInt32 31)).toInt32) &&& (nI 858993459))).toUInt32 >>> ((nI 4).toUInt32 &&& Int32.toUInt32 31)).toInt32)) &&& (nI 252645135)).toUInt32 >>> ((nI 8).toUInt32 &&& Int32.toUInt32 31)).toInt32)) + (((((((((nI s) - ((((nI s).toUInt32 >>> ((nI 1).toUInt32 &&& Int32.toUInt32 31)).toInt32) &&& (nI 1431655765))) &&& (nI 858993459)) + (((((nI s) - ((((nI s).toUInt32 >>> ((nI 1).toUInt32 &&& Int32.toUInt32 31)).toInt32) &&& (nI 1431655765))).toUInt32 >>> ((nI 2).toUInt32 &&& Int32.toUInt32 31)).toInt32) &&& (nI 858993459))) + ((((((nI s) - ((((nI s).toUInt32 >>> ((nI 1).toUInt32 &&& Int32.toUInt32 31)).toInt32) &&& (nI 1431655765))) &&& (nI 858993459)) + (((((nI s) - ((((nI s).toUInt32 >>> ((nI 1).toUInt32 &&& Int32.toUInt32 31)).toInt32) &&& (nI 1431655765))).toUInt32 >>> ((nI 2).toUInt32 &&& Int32.toUInt32 31)).toInt32) &&& (nI 858993459))).toUInt32 >>> ((nI 4).toUInt32 &&& Int32.toUInt32 31)).toInt32)) &&& (nI 252645135)) + ((((((((nI s) - ((((nI s).toUInt32 >>> ((nI 1).toUInt32 &&& Int32.toUInt32 31)).toInt32) &&& (nI 1431655765))) &&& (nI 858993459)) + (((((nI s) - ((((nI s).toUInt32 >>> ((nI 1).toUInt32 &&& Int32.toUInt32 31)).toInt32) &&& (nI 1431655765))).toUInt32 >>> ((nI 2).toUInt32 &&& Int32.toUInt32 31)).toInt32) &&& (nI 858993459))) + ((((((nI s) - ((((nI s).toUInt32 >>> ((nI 1).toUInt32 &&& Int32.toUInt32 31)).toInt32) &&& (nI 1431655765))) &&& (nI 858993459)) + (((((nI s) - ((((nI s).toUInt32 >>> ((nI 1).toUInt32 &&& Int32.toUInt32 31)).toInt32) &&& (nI 1431655765))).toUInt32 >>> ((nI 2).toUInt32 &&& Int32.toUInt32 31)).toInt32) &&& (nI 858993459))).toUInt32 >>> ((nI 4).toUInt32 &&& Int32.toUInt32 31)).toInt32)) &&& (nI 252645135)).toUInt32 >>> ((nI 8).toUInt32 &&& Int32.toUInt32 31)).toInt32)).toUInt32 >>> ((nI 16).toUInt32 &&& Int32.toUInt32 31)).toInt32)) &&& (nI 63)) = nI (memN s) := by decide +kernel
  exact key s hs
theorem and_0 {s k : Nat} (hs : s < 256) (hk : k < 8) : nI s &&& nI (2 ^ k) = 0 ↔ bitN s k ≠ 1 := by
  have key : ∀ k, k < 8 → ∀ s, s < 256 → (nI s &&& nI (2 ^ k) = 0 ↔ bitN s k ≠ 1) := by decide +kernel
  exact key k hk s hs
def fwI (x : Nat) : Int32 := if x = 9 then -1 else nI x
theorem fwI_n {x : Nat} (h : x ≠ 9) : fwI x = nI x := if_neg h
theorem fwI_m {x : Nat} (h : x ≤ 9) : fwI x = -1 ↔ x = 9 := by
  unfold fwI
  by_cases z : x = 9
  · rw [if_pos z]; exact ⟨fun _ => z, fun _ => rfl⟩
  · rw [if_neg z]; exact ⟨fun y => (nI_m1 (show x < 2 ^ 31 by omega) y).elim, fun y => absurd y z⟩
def gmI (x : Nat) : Int32 := if x = 0 then -1 else nI (x - 1)
theorem gm_s {w : Nat} : gmI (w + 1) = nI w := by
  unfold gmI
  rw [if_neg (by omega), Nat.add_sub_cancel]
theorem gm_le {w m : Nat} (hw : w < 1000) (hm : m < 1000) : nI w ≤ gmI m ↔ ¬ m < w + 1 := by
  unfold gmI
  split
  · next z => subst z; rw [Int32.le_iff_toInt_le, nI_toInt (by omega)]; have : (-1 : Int32).toInt = -1 := by decide
              omega
  · rw [Int32.le_iff_toInt_le, nI_toInt (by omega), nI_toInt (by omega)]; omega
theorem wk_le (V : Nat → Nat) (k : Nat) : wkN V k ≤ 168 := Nat.div_le_self _ _
theorem gfF_lt {V : Nat → Nat} {s u : Nat} : (gfF V s u).2 ≤ 169 := by
  rcases gf_le (V := V) (s := s) u with h | ⟨_, _, c⟩
  · omega
  · have := wk_le V (gfF V s u).1; omega
abbrev MJ6_bitCount_0f7a4 : MT := (RJ6, cJ6_bitCount_0f7a4, 1, (some .int), [], "bitCount")
set_option maxHeartbeats 4000000 in
theorem n_bc {l : Launch} {G : GT} {n : Nat} {f : HT} {s : Nat} (hs : s < 256) : AM l G yJ6_bitCount_0f7a4 (.code yJ6_bitCount_0f7a4 cJ6_bitCount_0f7a4 1 (some .int)) 0 0 0 0 [.int (nI s)] (f) n (rI (nI (memN s)) f n) := by
  refine aw_enter (M := MJ6_bitCount_0f7a4) rfl rfl (by decide +kernel) rfl (Nat.le_of_ble_eq_true rfl) ?_
  show AW l G MJ6_bitCount_0f7a4 0 0 0 0 _ n 0 0 0 [(0, .int (nI s))] [] _ n
  refine aw_iload_n dJ6_bitCount_0f7a4_0 rfl rfl ?_
  refine aw_iload_n dJ6_bitCount_0f7a4_1 rfl rfl ?_
  refine aw_iconst_n 1 dJ6_bitCount_0f7a4_2 (by decide) ?_
  refine aw_iushr dJ6_bitCount_0f7a4_3 ?_
  refine aw_ldcw (v := nI 1431655765) kc_J6_265 dJ6_bitCount_0f7a4_4 ?_
  refine aw_iand dJ6_bitCount_0f7a4_7 ?_
  refine aw_isub dJ6_bitCount_0f7a4_8 ?_
  refine aw_istore_n (L' := [(0, .int ((nI s) - ((((nI s).toUInt32 >>> ((nI 1).toUInt32 &&& Int32.toUInt32 31)).toInt32) &&& (nI 1431655765))))]) dJ6_bitCount_0f7a4_9 rfl (by decide) rfl ?_
  refine aw_iload_n dJ6_bitCount_0f7a4_10 rfl rfl ?_
  refine aw_ldcw (v := nI 858993459) kc_J6_266 dJ6_bitCount_0f7a4_11 ?_
  refine aw_iand dJ6_bitCount_0f7a4_14 ?_
  refine aw_iload_n dJ6_bitCount_0f7a4_15 rfl rfl ?_
  refine aw_iconst_n 2 dJ6_bitCount_0f7a4_16 (by decide) ?_
  refine aw_iushr dJ6_bitCount_0f7a4_17 ?_
  refine aw_ldcw (v := nI 858993459) kc_J6_266 dJ6_bitCount_0f7a4_18 ?_
  refine aw_iand dJ6_bitCount_0f7a4_21 ?_
  refine aw_iadd dJ6_bitCount_0f7a4_22 ?_
  refine aw_istore_n (L' := [(0, .int ((((nI s) - ((((nI s).toUInt32 >>> ((nI 1).toUInt32 &&& Int32.toUInt32 31)).toInt32) &&& (nI 1431655765))) &&& (nI 858993459)) + (((((nI s) - ((((nI s).toUInt32 >>> ((nI 1).toUInt32 &&& Int32.toUInt32 31)).toInt32) &&& (nI 1431655765))).toUInt32 >>> ((nI 2).toUInt32 &&& Int32.toUInt32 31)).toInt32) &&& (nI 858993459))))]) dJ6_bitCount_0f7a4_23 rfl (by decide) rfl ?_
  refine aw_iload_n dJ6_bitCount_0f7a4_24 rfl rfl ?_
  refine aw_iload_n dJ6_bitCount_0f7a4_25 rfl rfl ?_
  refine aw_iconst_n 4 dJ6_bitCount_0f7a4_26 (by decide) ?_
  refine aw_iushr dJ6_bitCount_0f7a4_27 ?_
  refine aw_iadd dJ6_bitCount_0f7a4_28 ?_
  refine aw_ldcw (v := nI 252645135) kc_J6_267 dJ6_bitCount_0f7a4_29 ?_
  refine aw_iand dJ6_bitCount_0f7a4_32 ?_
  refine aw_istore_n (L' := [(0, .int ((((((nI s) - ((((nI s).toUInt32 >>> ((nI 1).toUInt32 &&& Int32.toUInt32 31)).toInt32) &&& (nI 1431655765))) &&& (nI 858993459)) + (((((nI s) - ((((nI s).toUInt32 >>> ((nI 1).toUInt32 &&& Int32.toUInt32 31)).toInt32) &&& (nI 1431655765))).toUInt32 >>> ((nI 2).toUInt32 &&& Int32.toUInt32 31)).toInt32) &&& (nI 858993459))) + ((((((nI s) - ((((nI s).toUInt32 >>> ((nI 1).toUInt32 &&& Int32.toUInt32 31)).toInt32) &&& (nI 1431655765))) &&& (nI 858993459)) + (((((nI s) - ((((nI s).toUInt32 >>> ((nI 1).toUInt32 &&& Int32.toUInt32 31)).toInt32) &&& (nI 1431655765))).toUInt32 >>> ((nI 2).toUInt32 &&& Int32.toUInt32 31)).toInt32) &&& (nI 858993459))).toUInt32 >>> ((nI 4).toUInt32 &&& Int32.toUInt32 31)).toInt32)) &&& (nI 252645135)))]) dJ6_bitCount_0f7a4_33 rfl (by decide) rfl ?_
  refine aw_iload_n dJ6_bitCount_0f7a4_34 rfl rfl ?_
  refine aw_iload_n dJ6_bitCount_0f7a4_35 rfl rfl ?_
  refine aw_bipush_n 8 dJ6_bitCount_0f7a4_36 (by decide) ?_
  refine aw_iushr dJ6_bitCount_0f7a4_38 ?_
  refine aw_iadd dJ6_bitCount_0f7a4_39 ?_
  refine aw_istore_n (L' := [(0, .int (((((((nI s) - ((((nI s).toUInt32 >>> ((nI 1).toUInt32 &&& Int32.toUInt32 31)).toInt32) &&& (nI 1431655765))) &&& (nI 858993459)) + (((((nI s) - ((((nI s).toUInt32 >>> ((nI 1).toUInt32 &&& Int32.toUInt32 31)).toInt32) &&& (nI 1431655765))).toUInt32 >>> ((nI 2).toUInt32 &&& Int32.toUInt32 31)).toInt32) &&& (nI 858993459))) + ((((((nI s) - ((((nI s).toUInt32 >>> ((nI 1).toUInt32 &&& Int32.toUInt32 31)).toInt32) &&& (nI 1431655765))) &&& (nI 858993459)) + (((((nI s) - ((((nI s).toUInt32 >>> ((nI 1).toUInt32 &&& Int32.toUInt32 31)).toInt32) &&& (nI 1431655765))).toUInt32 >>> ((nI 2).toUInt32 &&& Int32.toUInt32 31)).toInt32) &&& (nI 858993459))).toUInt32 >>> ((nI 4).toUInt32 &&& Int32.toUInt32 31)).toInt32)) &&& (nI 252645135)) + ((((((((nI s) - ((((nI s).toUInt32 >>> ((nI 1).toUInt32 &&& Int32.toUInt32 31)).toInt32) &&& (nI 1431655765))) &&& (nI 858993459)) + (((((nI s) - ((((nI s).toUInt32 >>> ((nI 1).toUInt32 &&& Int32.toUInt32 31)).toInt32) &&& (nI 1431655765))).toUInt32 >>> ((nI 2).toUInt32 &&& Int32.toUInt32 31)).toInt32) &&& (nI 858993459))) + ((((((nI s) - ((((nI s).toUInt32 >>> ((nI 1).toUInt32 &&& Int32.toUInt32 31)).toInt32) &&& (nI 1431655765))) &&& (nI 858993459)) + (((((nI s) - ((((nI s).toUInt32 >>> ((nI 1).toUInt32 &&& Int32.toUInt32 31)).toInt32) &&& (nI 1431655765))).toUInt32 >>> ((nI 2).toUInt32 &&& Int32.toUInt32 31)).toInt32) &&& (nI 858993459))).toUInt32 >>> ((nI 4).toUInt32 &&& Int32.toUInt32 31)).toInt32)) &&& (nI 252645135)).toUInt32 >>> ((nI 8).toUInt32 &&& Int32.toUInt32 31)).toInt32)))]) dJ6_bitCount_0f7a4_40 rfl (by decide) rfl ?_
  refine aw_iload_n dJ6_bitCount_0f7a4_41 rfl rfl ?_
  refine aw_iload_n dJ6_bitCount_0f7a4_42 rfl rfl ?_
  refine aw_bipush_n 16 dJ6_bitCount_0f7a4_43 (by decide) ?_
  refine aw_iushr dJ6_bitCount_0f7a4_45 ?_
  refine aw_iadd dJ6_bitCount_0f7a4_46 ?_
  refine aw_istore_n (L' := [(0, .int ((((((((nI s) - ((((nI s).toUInt32 >>> ((nI 1).toUInt32 &&& Int32.toUInt32 31)).toInt32) &&& (nI 1431655765))) &&& (nI 858993459)) + (((((nI s) - ((((nI s).toUInt32 >>> ((nI 1).toUInt32 &&& Int32.toUInt32 31)).toInt32) &&& (nI 1431655765))).toUInt32 >>> ((nI 2).toUInt32 &&& Int32.toUInt32 31)).toInt32) &&& (nI 858993459))) + ((((((nI s) - ((((nI s).toUInt32 >>> ((nI 1).toUInt32 &&& Int32.toUInt32 31)).toInt32) &&& (nI 1431655765))) &&& (nI 858993459)) + (((((nI s) - ((((nI s).toUInt32 >>> ((nI 1).toUInt32 &&& Int32.toUInt32 31)).toInt32) &&& (nI 1431655765))).toUInt32 >>> ((nI 2).toUInt32 &&& Int32.toUInt32 31)).toInt32) &&& (nI 858993459))).toUInt32 >>> ((nI 4).toUInt32 &&& Int32.toUInt32 31)).toInt32)) &&& (nI 252645135)) + ((((((((nI s) - ((((nI s).toUInt32 >>> ((nI 1).toUInt32 &&& Int32.toUInt32 31)).toInt32) &&& (nI 1431655765))) &&& (nI 858993459)) + (((((nI s) - ((((nI s).toUInt32 >>> ((nI 1).toUInt32 &&& Int32.toUInt32 31)).toInt32) &&& (nI 1431655765))).toUInt32 >>> ((nI 2).toUInt32 &&& Int32.toUInt32 31)).toInt32) &&& (nI 858993459))) + ((((((nI s) - ((((nI s).toUInt32 >>> ((nI 1).toUInt32 &&& Int32.toUInt32 31)).toInt32) &&& (nI 1431655765))) &&& (nI 858993459)) + (((((nI s) - ((((nI s).toUInt32 >>> ((nI 1).toUInt32 &&& Int32.toUInt32 31)).toInt32) &&& (nI 1431655765))).toUInt32 >>> ((nI 2).toUInt32 &&& Int32.toUInt32 31)).toInt32) &&& (nI 858993459))).toUInt32 >>> ((nI 4).toUInt32 &&& Int32.toUInt32 31)).toInt32)) &&& (nI 252645135)).toUInt32 >>> ((nI 8).toUInt32 &&& Int32.toUInt32 31)).toInt32)) + (((((((((nI s) - ((((nI s).toUInt32 >>> ((nI 1).toUInt32 &&& Int32.toUInt32 31)).toInt32) &&& (nI 1431655765))) &&& (nI 858993459)) + (((((nI s) - ((((nI s).toUInt32 >>> ((nI 1).toUInt32 &&& Int32.toUInt32 31)).toInt32) &&& (nI 1431655765))).toUInt32 >>> ((nI 2).toUInt32 &&& Int32.toUInt32 31)).toInt32) &&& (nI 858993459))) + ((((((nI s) - ((((nI s).toUInt32 >>> ((nI 1).toUInt32 &&& Int32.toUInt32 31)).toInt32) &&& (nI 1431655765))) &&& (nI 858993459)) + (((((nI s) - ((((nI s).toUInt32 >>> ((nI 1).toUInt32 &&& Int32.toUInt32 31)).toInt32) &&& (nI 1431655765))).toUInt32 >>> ((nI 2).toUInt32 &&& Int32.toUInt32 31)).toInt32) &&& (nI 858993459))).toUInt32 >>> ((nI 4).toUInt32 &&& Int32.toUInt32 31)).toInt32)) &&& (nI 252645135)) + ((((((((nI s) - ((((nI s).toUInt32 >>> ((nI 1).toUInt32 &&& Int32.toUInt32 31)).toInt32) &&& (nI 1431655765))) &&& (nI 858993459)) + (((((nI s) - ((((nI s).toUInt32 >>> ((nI 1).toUInt32 &&& Int32.toUInt32 31)).toInt32) &&& (nI 1431655765))).toUInt32 >>> ((nI 2).toUInt32 &&& Int32.toUInt32 31)).toInt32) &&& (nI 858993459))) + ((((((nI s) - ((((nI s).toUInt32 >>> ((nI 1).toUInt32 &&& Int32.toUInt32 31)).toInt32) &&& (nI 1431655765))) &&& (nI 858993459)) + (((((nI s) - ((((nI s).toUInt32 >>> ((nI 1).toUInt32 &&& Int32.toUInt32 31)).toInt32) &&& (nI 1431655765))).toUInt32 >>> ((nI 2).toUInt32 &&& Int32.toUInt32 31)).toInt32) &&& (nI 858993459))).toUInt32 >>> ((nI 4).toUInt32 &&& Int32.toUInt32 31)).toInt32)) &&& (nI 252645135)).toUInt32 >>> ((nI 8).toUInt32 &&& Int32.toUInt32 31)).toInt32)).toUInt32 >>> ((nI 16).toUInt32 &&& Int32.toUInt32 31)).toInt32)))]) dJ6_bitCount_0f7a4_47 rfl (by decide) rfl ?_
  refine aw_iload_n dJ6_bitCount_0f7a4_48 rfl rfl ?_
  refine aw_bipush_n 63 dJ6_bitCount_0f7a4_49 (by decide) ?_
  refine aw_iand dJ6_bitCount_0f7a4_51 ?_
  exact aw_iret rfl (by decide) (by decide) dJ6_bitCount_0f7a4_52 (rI_of (bc_key hs))
abbrev MX6_contains : MT := (RX6, cX6_contains, 2, (some .boolean), [], "contains")
set_option maxHeartbeats 4000000 in
theorem q_has {l : Launch} {G : GT} {n : Nat} {f : HT} {s k : Nat} (hs : s < 256) (hk : k < 8) : AM l G yX6_contains (.code yX6_contains cX6_contains 2 (some .boolean)) 0 0 0 0 [.int (nI s), .int (nI k)] (f) n (rI (bI (decide (bitN s k = 1))) f n) := by
  refine aw_enter (M := MX6_contains) rfl rfl (by decide +kernel) rfl (Nat.le_of_ble_eq_true rfl) ?_
  show AW l G MX6_contains 0 0 0 0 _ n 0 0 0 [(0, .int (nI s)), (1, .int (nI k))] [] _ n
  refine aw_iload_n dX6_contains_0 rfl rfl ?_
  refine aw_iconst_n 1 dX6_contains_1 (by decide) ?_
  refine aw_iload_n dX6_contains_2 rfl rfl ?_
  refine aw_shl (k := k) (by omega) dX6_contains_3 (fun hpw_1 => ?_)
  refine aw_iand dX6_contains_4 ?_
  refine aw_if_eq (tgt := 12) dX6_contains_5 (by decide) (fun c_2 => ?_) (fun c_2 => ?_)
  · refine aw_iconst_n 0 dX6_contains_12 (by decide) ?_
    have e : decide (bitN s k = 1) = false := decide_eq_false ((and_0 (by omega) (by omega)).mp c_2)
    exact aw_zret rfl rfl (by decide) (by decide) dX6_contains_13 (rI_of (by rw [e]; rfl))
  · refine aw_iconst_n 1 dX6_contains_8 (by decide) ?_
    refine aw_goto (tgt := 13) dX6_contains_9 (by decide) ?_
    have e : decide (bitN s k = 1) = true := decide_eq_true (by have := mt (and_0 (s := s) (k := k) (by omega) (by omega)).mpr c_2; omega)
    exact aw_zret rfl rfl (by decide) (by decide) dX6_contains_13 (rI_of (by rw [e]; rfl))
abbrev MX6_sumOf : MT := (RX6, cX6_sumOf, 4, (some .int), [], "sumOf")
set_option maxHeartbeats 4000000 in
theorem q_sum_loop {l : Launch} {G : GT} {n : Nat} {f : HT} {o : Nat} {J : Nat → Int32} {B : Nat → Nat → Int32} {K : Nat} {V : Nat → Nat} (hS : SV J B V) (hB : VB K V) {s : Nat} (hs : s < 256) : ∀ (N : Nat) (u : Nat), (V 2 - u = N) → (u ≤ V 2) → AW l G MX6_sumOf 3 180 0 0 (rI (nI (togN V s)) (sU f o J B) n) n 0 0 4 [(3, .int (nI u)), (2, .int (nI (togC V s u))), (0, .ref o), (1, .int (nI s))] [] (sU f o J B) n := by
  intro N
  induction N using Nat.strongRecOn with
  | ind N ih =>
    intro u hN hu
    have hcnt := VB.cnt hB
    have hleg := VB.legs hB
    have hfr := VB.fric hB
    have hnow := VB.now hB
    have hkk := VB.kk hB
    have hwk := wk_le V u
    have htl := tog_le V s u
    refine aw_iload_n dX6_sumOf_4 rfl rfl ?_
    refine aw_aload_n dX6_sumOf_5 rfl rfl ?_
    refine aw_get (v := .int (nI (V 2))) fl_X6_9 sU_0 (congrArg (fun z => some (Value.int z)) hS.cnt) dX6_sumOf_6 ?_
    refine aw_icmp_ge_n (by omega) (by omega) (tgt := 34) dX6_sumOf_9 (by decide) (fun c_1 => ?_) (fun c_1 => ?_)
    · refine aw_iload_n dX6_sumOf_34 rfl rfl ?_
      exact aw_iret rfl (by decide) (by decide) dX6_sumOf_35 (rI_of (by rw [show u = V 2 by omega]; rfl))
    · refine aw_iload_n dX6_sumOf_12 rfl rfl ?_
      refine aw_iload_n dX6_sumOf_13 rfl rfl ?_
      refine aw_sI (as := [Value.int (nI s), Value.int (nI u)]) (rest := []) mS_X6_contains (q_has (by omega) (by omega)) ml_X6_25 dX6_sumOf_14 rfl rfl (by decide) (Nat.le_of_ble_eq_true rfl) (by decide) ?_
      refine aw_if_eq_b (tgt := 28) dX6_sumOf_17 (by decide) (fun c_2 => ?_) (fun c_2 => ?_)
      · refine aw_iinc_n (L' := [(3, .int (nI (u + 1))), (2, .int (nI (togC V s u))), (0, .ref o), (1, .int (nI s))]) 1 dX6_sumOf_28 rfl (by decide) (by decide) rfl ?_
        refine aw_goto (tgt := 4) dX6_sumOf_31 (by decide) ?_
        have d_1 := of_decide_eq_false c_2
        have e : togC V s (u + 1) = togC V s u := by show togC V s u + (if bitN s u = 1 then wkN V u else 0) = _; rw [if_neg d_1, Nat.add_zero]
        refine aw_sub [(3, .int (nI (u + 1))), (2, .int (nI (togC V s (u + 1)))), (0, .ref o), (1, .int (nI s))] (by rw [e]; simp) ?_
        exact ih _ (by omega) (u + 1) rfl (by omega)
      · refine aw_iload_n dX6_sumOf_20 rfl rfl ?_
        refine aw_aload_n dX6_sumOf_21 rfl rfl ?_
        refine aw_iload_n dX6_sumOf_22 rfl rfl ?_
        refine aw_vI (as := [Value.int (nI u)]) (rest := [Value.int (nI (togC V s u))]) mV_X8_swingsInWeek (s_week hS hB (k := u) (by omega)) ml_X6_21 sU_0 rfl dX6_sumOf_23 rfl rfl (by decide) (Nat.le_of_ble_eq_true rfl) (by decide) ?_
        refine aw_iadd_n dX6_sumOf_26 ?_
        refine aw_istore_n (L' := [(2, .int (nI ((togC V s u) + (wkN V u)))), (3, .int (nI u)), (0, .ref o), (1, .int (nI s))]) dX6_sumOf_27 rfl (by decide) rfl ?_
        refine aw_iinc_n (L' := [(3, .int (nI (u + 1))), (2, .int (nI ((togC V s u) + (wkN V u)))), (0, .ref o), (1, .int (nI s))]) 1 dX6_sumOf_28 rfl (by decide) (by decide) rfl ?_
        refine aw_goto (tgt := 4) dX6_sumOf_31 (by decide) ?_
        have d_1 := of_decide_eq_true c_2
        have e : togC V s (u + 1) = (togC V s u) + (wkN V u) := by show togC V s u + (if bitN s u = 1 then wkN V u else 0) = _; rw [if_pos d_1]
        refine aw_sub [(3, .int (nI (u + 1))), (2, .int (nI (togC V s (u + 1)))), (0, .ref o), (1, .int (nI s))] (by rw [e]; simp) ?_
        exact ih _ (by omega) (u + 1) rfl (by omega)
set_option maxHeartbeats 4000000 in
theorem q_sum {l : Launch} {G : GT} {n : Nat} {f : HT} {o : Nat} {J : Nat → Int32} {B : Nat → Nat → Int32} {K : Nat} {V : Nat → Nat} (hS : SV J B V) (hB : VB K V) {s : Nat} (hs : s < 256) : AM l G yX6_sumOf (.code yX6_sumOf cX6_sumOf 4 (some .int)) 3 180 0 0 [.ref o, .int (nI s)] (sU f o J B) n (rI (nI (togN V s)) (sU f o J B) n) := by
  refine aw_enter (M := MX6_sumOf) rfl rfl (by decide +kernel) rfl (Nat.le_of_ble_eq_true rfl) ?_
  show AW l G MX6_sumOf 3 180 0 0 _ n 0 0 0 [(0, .ref o), (1, .int (nI s))] [] _ n
  refine aw_iconst_n 0 dX6_sumOf_0 (by decide) ?_
  refine aw_istore_n (L' := [(2, .int (nI 0)), (0, .ref o), (1, .int (nI s))]) dX6_sumOf_1 rfl (by decide) rfl ?_
  refine aw_iconst_n 0 dX6_sumOf_2 (by decide) ?_
  refine aw_istore_n (L' := [(3, .int (nI 0)), (2, .int (nI 0)), (0, .ref o), (1, .int (nI s))]) dX6_sumOf_3 rfl (by decide) rfl ?_
  exact aw_sub [(3, .int (nI 0)), (2, .int (nI 0)), (0, .ref o), (1, .int (nI s))] (by simp [togC]) (q_sum_loop hS hB hs _ 0 rfl (Nat.zero_le _))
abbrev MX6_fewestOfAllSets : MT := (RX6, cX6_fewestOfAllSets, 5, (some .int), [], "fewestOfAllSets")
set_option maxHeartbeats 4000000 in
theorem q_all_loop {l : Launch} {G : GT} {n : Nat} {f : HT} {o : Nat} {J : Nat → Int32} {B : Nat → Nat → Int32} {K : Nat} {V : Nat → Nat} (hS : SV J B V) (hB : VB K V) {t : Nat} (ht1 : 1 ≤ t) (ht : t ≤ 999) : ∀ (N : Nat) (s : Nat), (2 ^ V 2 - s = N) → (s ≤ 2 ^ V 2) → AW l G MX6_fewestOfAllSets 4 240 0 0 (rI (fwI (fewG V t (2 ^ V 2))) (sU f o J B) n) n 0 0 4 [(3, .int (nI s)), (2, .int (fwI (fewG V t s))), (0, .ref o), (1, .int (nI t))] [] (sU f o J B) n := by
  intro N
  induction N using Nat.strongRecOn with
  | ind N ih =>
    intro s hN hs
    have hcnt := VB.cnt hB
    have hleg := VB.legs hB
    have hfr := VB.fric hB
    have hnow := VB.now hB
    have hkk := VB.kk hB
    have hpw := pow_le hcnt
    have htg : togN V s ≤ 168 * V 2 := tog_le V s (V 2)
    have hmm : memN s ≤ 8 := memC_le s 8
    have hfl := few_le V t s
    refine aw_iload_n dX6_fewestOfAllSets_4 rfl rfl ?_
    refine aw_iconst_n 1 dX6_fewestOfAllSets_5 (by decide) ?_
    refine aw_aload_n dX6_fewestOfAllSets_6 rfl rfl ?_
    refine aw_get (v := .int (nI (V 2))) fl_X6_9 sU_0 (congrArg (fun z => some (Value.int z)) hS.cnt) dX6_fewestOfAllSets_7 ?_
    refine aw_shl (k := V 2) (by omega) dX6_fewestOfAllSets_10 (fun hpw2 => ?_)
    refine aw_icmp_ge_n (by omega) (by omega) (tgt := 49) dX6_fewestOfAllSets_11 (by decide) (fun c_1 => ?_) (fun c_1 => ?_)
    · refine aw_iload_n dX6_fewestOfAllSets_49 rfl rfl ?_
      exact aw_iret rfl (by decide) (by decide) dX6_fewestOfAllSets_50 (rI_of (by rw [show s = 2 ^ V 2 by omega]))
    · refine aw_iload_n dX6_fewestOfAllSets_14 rfl rfl ?_
      refine aw_sI (as := [Value.int (nI s)]) (rest := []) mS_J6_bitCount_0f7a4 (n_bc (by omega)) ml_X6_29 dX6_fewestOfAllSets_15 rfl rfl (by decide) (Nat.le_of_ble_eq_true rfl) (by decide) ?_
      refine aw_istore (L' := [(4, .int (nI (memN s))), (3, .int (nI s)), (2, .int (fwI (fewG V t s))), (0, .ref o), (1, .int (nI t))]) dX6_fewestOfAllSets_18 (by decide) rfl ?_
      refine aw_aload_n dX6_fewestOfAllSets_20 rfl rfl ?_
      refine aw_iload_n dX6_fewestOfAllSets_21 rfl rfl ?_
      refine aw_sI (as := [Value.ref o, Value.int (nI s)]) (rest := []) mS_X6_sumOf (q_sum hS hB (by omega)) ml_X6_34 dX6_fewestOfAllSets_22 rfl rfl (by decide) (Nat.le_of_ble_eq_true rfl) (by decide) ?_
      refine aw_iload_n dX6_fewestOfAllSets_25 rfl rfl ?_
      refine aw_icmp_lt_n (by omega) (by omega) (tgt := 43) dX6_fewestOfAllSets_26 (by decide) (fun c_2 => ?_) (fun c_2 => ?_)
      · refine aw_iinc_n (L' := [(3, .int (nI (s + 1))), (4, .int (nI (memN s))), (2, .int (fwI (fewG V t s))), (0, .ref o), (1, .int (nI t))]) 1 dX6_fewestOfAllSets_43 rfl (by decide) (by decide) rfl ?_
        refine aw_goto (tgt := 4) dX6_fewestOfAllSets_46 (by decide) ?_
        have e : fwI (fewG V t (s + 1)) = (fwI (fewG V t s)) := by
          rw [few_s]
          first | (rw [if_neg (by omega)]; done) | (rw [if_neg (by omega)]; exact fwI_n (by omega)) | (rw [if_pos (by omega)]; exact fwI_n (by omega))
        refine aw_sub [(3, .int (nI (s + 1))), (2, .int (fwI (fewG V t (s + 1)))), (0, .ref o), (1, .int (nI t))] (by rw [e]; simp) ?_
        exact ih _ (by omega) (s + 1) rfl (by omega)
      · refine aw_iload_n dX6_fewestOfAllSets_29 rfl rfl ?_
        refine aw_iconst (v := -1) dX6_fewestOfAllSets_30 (by decide) ?_
        refine aw_icmp_eq (tgt := 40) dX6_fewestOfAllSets_31 (by decide) (fun c_3 => ?_) (fun c_3 => ?_)
        · have d_3 := (fwI_m hfl).mp c_3
          refine aw_iload dX6_fewestOfAllSets_40 rfl ?_
          refine aw_istore_n (L' := [(2, .int (nI (memN s))), (4, .int (nI (memN s))), (3, .int (nI s)), (0, .ref o), (1, .int (nI t))]) dX6_fewestOfAllSets_42 rfl (by decide) rfl ?_
          refine aw_iinc_n (L' := [(3, .int (nI (s + 1))), (2, .int (nI (memN s))), (4, .int (nI (memN s))), (0, .ref o), (1, .int (nI t))]) 1 dX6_fewestOfAllSets_43 rfl (by decide) (by decide) rfl ?_
          refine aw_goto (tgt := 4) dX6_fewestOfAllSets_46 (by decide) ?_
          have e : fwI (fewG V t (s + 1)) = (nI (memN s)) := by
            rw [few_s]
            first | (rw [if_neg (by omega)]; done) | (rw [if_neg (by omega)]; exact fwI_n (by omega)) | (rw [if_pos (by omega)]; exact fwI_n (by omega))
          refine aw_sub [(3, .int (nI (s + 1))), (2, .int (fwI (fewG V t (s + 1)))), (0, .ref o), (1, .int (nI t))] (by rw [e]; simp) ?_
          exact ih _ (by omega) (s + 1) rfl (by omega)
        · have d_3 := mt (fwI_m hfl).mpr c_3
          rw [fwI_n d_3]
          refine aw_iload dX6_fewestOfAllSets_34 rfl ?_
          refine aw_iload_n dX6_fewestOfAllSets_36 rfl rfl ?_
          refine aw_icmp_ge_n (by omega) (by omega) (tgt := 43) dX6_fewestOfAllSets_37 (by decide) (fun c_4 => ?_) (fun c_4 => ?_)
          · refine aw_iinc_n (L' := [(3, .int (nI (s + 1))), (4, .int (nI (memN s))), (2, .int (nI (fewG V t s))), (0, .ref o), (1, .int (nI t))]) 1 dX6_fewestOfAllSets_43 rfl (by decide) (by decide) rfl ?_
            refine aw_goto (tgt := 4) dX6_fewestOfAllSets_46 (by decide) ?_
            have e : fwI (fewG V t (s + 1)) = (nI (fewG V t s)) := by
              rw [few_s]
              first | (rw [if_neg (by omega)]; done) | (rw [if_neg (by omega)]; exact fwI_n (by omega)) | (rw [if_pos (by omega)]; exact fwI_n (by omega))
            refine aw_sub [(3, .int (nI (s + 1))), (2, .int (fwI (fewG V t (s + 1)))), (0, .ref o), (1, .int (nI t))] (by rw [e]; simp) ?_
            exact ih _ (by omega) (s + 1) rfl (by omega)
          · refine aw_iload dX6_fewestOfAllSets_40 rfl ?_
            refine aw_istore_n (L' := [(2, .int (nI (memN s))), (4, .int (nI (memN s))), (3, .int (nI s)), (0, .ref o), (1, .int (nI t))]) dX6_fewestOfAllSets_42 rfl (by decide) rfl ?_
            refine aw_iinc_n (L' := [(3, .int (nI (s + 1))), (2, .int (nI (memN s))), (4, .int (nI (memN s))), (0, .ref o), (1, .int (nI t))]) 1 dX6_fewestOfAllSets_43 rfl (by decide) (by decide) rfl ?_
            refine aw_goto (tgt := 4) dX6_fewestOfAllSets_46 (by decide) ?_
            have e : fwI (fewG V t (s + 1)) = (nI (memN s)) := by
              rw [few_s]
              first | (rw [if_neg (by omega)]; done) | (rw [if_neg (by omega)]; exact fwI_n (by omega)) | (rw [if_pos (by omega)]; exact fwI_n (by omega))
            refine aw_sub [(3, .int (nI (s + 1))), (2, .int (fwI (fewG V t (s + 1)))), (0, .ref o), (1, .int (nI t))] (by rw [e]; simp) ?_
            exact ih _ (by omega) (s + 1) rfl (by omega)
set_option maxHeartbeats 4000000 in
theorem q_all {l : Launch} {G : GT} {n : Nat} {f : HT} {o : Nat} {J : Nat → Int32} {B : Nat → Nat → Int32} {K : Nat} {V : Nat → Nat} (hS : SV J B V) (hB : VB K V) {t : Nat} (ht1 : 1 ≤ t) (ht : t ≤ 999) : AM l G yX6_fewestOfAllSets (.code yX6_fewestOfAllSets cX6_fewestOfAllSets 5 (some .int)) 4 240 0 0 [.ref o, .int (nI t)] (sU f o J B) n (rI (fwI (fewG V t (2 ^ V 2))) (sU f o J B) n) := by
  refine aw_enter (M := MX6_fewestOfAllSets) rfl rfl (by decide +kernel) rfl (Nat.le_of_ble_eq_true rfl) ?_
  show AW l G MX6_fewestOfAllSets 4 240 0 0 _ n 0 0 0 [(0, .ref o), (1, .int (nI t))] [] _ n
  refine aw_iconst (v := -1) dX6_fewestOfAllSets_0 (by decide) ?_
  refine aw_istore_n (L' := [(2, .int (-1)), (0, .ref o), (1, .int (nI t))]) dX6_fewestOfAllSets_1 rfl (by decide) rfl ?_
  refine aw_iconst_n 0 dX6_fewestOfAllSets_2 (by decide) ?_
  refine aw_istore_n (L' := [(3, .int (nI 0)), (2, .int (-1)), (0, .ref o), (1, .int (nI t))]) dX6_fewestOfAllSets_3 rfl (by decide) rfl ?_
  exact aw_sub [(3, .int (nI 0)), (2, .int (-1)), (0, .ref o), (1, .int (nI t))] (by simp) (q_all_loop hS hB ht1 ht _ 0 rfl (Nat.zero_le _))
abbrev MX6_setsWithExactly : MT := (RX6, cX6_setsWithExactly, 4, (some .int), [], "setsWithExactly")
set_option maxHeartbeats 4000000 in
theorem q_exa_loop {l : Launch} {G : GT} {n : Nat} {f : HT} {o : Nat} {J : Nat → Int32} {B : Nat → Nat → Int32} {K : Nat} {V : Nat → Nat} (hS : SV J B V) (hB : VB K V) {t : Nat} (ht : t ≤ 999) : ∀ (N : Nat) (s : Nat), (2 ^ V 2 - s = N) → (s ≤ 2 ^ V 2) → AW l G MX6_setsWithExactly 4 240 0 0 (rI (nI (exaG V t (2 ^ V 2))) (sU f o J B) n) n 0 0 4 [(3, .int (nI s)), (2, .int (nI (exaG V t s))), (0, .ref o), (1, .int (nI t))] [] (sU f o J B) n := by
  intro N
  induction N using Nat.strongRecOn with
  | ind N ih =>
    intro s hN hs
    have hcnt := VB.cnt hB
    have hleg := VB.legs hB
    have hfr := VB.fric hB
    have hnow := VB.now hB
    have hkk := VB.kk hB
    have hpw := pow_le hcnt
    have htg : togN V s ≤ 168 * V 2 := tog_le V s (V 2)
    have hmm : memN s ≤ 8 := memC_le s 8
    have hfl := exa_le V t s
    refine aw_iload_n dX6_setsWithExactly_4 rfl rfl ?_
    refine aw_iconst_n 1 dX6_setsWithExactly_5 (by decide) ?_
    refine aw_aload_n dX6_setsWithExactly_6 rfl rfl ?_
    refine aw_get (v := .int (nI (V 2))) fl_X6_9 sU_0 (congrArg (fun z => some (Value.int z)) hS.cnt) dX6_setsWithExactly_7 ?_
    refine aw_shl (k := V 2) (by omega) dX6_setsWithExactly_10 (fun hpw2 => ?_)
    refine aw_icmp_ge_n (by omega) (by omega) (tgt := 32) dX6_setsWithExactly_11 (by decide) (fun c_1 => ?_) (fun c_1 => ?_)
    · refine aw_iload_n dX6_setsWithExactly_32 rfl rfl ?_
      exact aw_iret rfl (by decide) (by decide) dX6_setsWithExactly_33 (rI_of (by rw [show s = 2 ^ V 2 by omega]))
    · refine aw_aload_n dX6_setsWithExactly_14 rfl rfl ?_
      refine aw_iload_n dX6_setsWithExactly_15 rfl rfl ?_
      refine aw_sI (as := [Value.ref o, Value.int (nI s)]) (rest := []) mS_X6_sumOf (q_sum hS hB (by omega)) ml_X6_34 dX6_setsWithExactly_16 rfl rfl (by decide) (Nat.le_of_ble_eq_true rfl) (by decide) ?_
      refine aw_iload_n dX6_setsWithExactly_19 rfl rfl ?_
      refine aw_icmp_ne_n (by omega) (by omega) (tgt := 26) dX6_setsWithExactly_20 (by decide) (fun c_2 => ?_) (fun c_2 => ?_)
      · refine aw_iinc_n (L' := [(3, .int (nI (s + 1))), (2, .int (nI (exaG V t s))), (0, .ref o), (1, .int (nI t))]) 1 dX6_setsWithExactly_26 rfl (by decide) (by decide) rfl ?_
        refine aw_goto (tgt := 4) dX6_setsWithExactly_29 (by decide) ?_
        have e : exaG V t (s + 1) = exaG V t s := by rw [exa_s]; first | rw [if_pos (by omega)] | rw [if_neg (by omega), Nat.add_zero]
        refine aw_sub [(3, .int (nI (s + 1))), (2, .int (nI (exaG V t (s + 1)))), (0, .ref o), (1, .int (nI t))] (by rw [e]; simp) ?_
        exact ih _ (by omega) (s + 1) rfl (by omega)
      · refine aw_iinc_n (L' := [(2, .int (nI ((exaG V t s) + 1))), (3, .int (nI s)), (0, .ref o), (1, .int (nI t))]) 1 dX6_setsWithExactly_23 rfl (by decide) (by decide) rfl ?_
        refine aw_iinc_n (L' := [(3, .int (nI (s + 1))), (2, .int (nI ((exaG V t s) + 1))), (0, .ref o), (1, .int (nI t))]) 1 dX6_setsWithExactly_26 rfl (by decide) (by decide) rfl ?_
        refine aw_goto (tgt := 4) dX6_setsWithExactly_29 (by decide) ?_
        have e : exaG V t (s + 1) = (exaG V t s) + 1 := by rw [exa_s]; first | rw [if_pos (by omega)] | rw [if_neg (by omega), Nat.add_zero]
        refine aw_sub [(3, .int (nI (s + 1))), (2, .int (nI (exaG V t (s + 1)))), (0, .ref o), (1, .int (nI t))] (by rw [e]; simp) ?_
        exact ih _ (by omega) (s + 1) rfl (by omega)
set_option maxHeartbeats 4000000 in
theorem q_exa {l : Launch} {G : GT} {n : Nat} {f : HT} {o : Nat} {J : Nat → Int32} {B : Nat → Nat → Int32} {K : Nat} {V : Nat → Nat} (hS : SV J B V) (hB : VB K V) {t : Nat} (ht : t ≤ 999) : AM l G yX6_setsWithExactly (.code yX6_setsWithExactly cX6_setsWithExactly 4 (some .int)) 4 240 0 0 [.ref o, .int (nI t)] (sU f o J B) n (rI (nI (exaG V t (2 ^ V 2))) (sU f o J B) n) := by
  refine aw_enter (M := MX6_setsWithExactly) rfl rfl (by decide +kernel) rfl (Nat.le_of_ble_eq_true rfl) ?_
  show AW l G MX6_setsWithExactly 4 240 0 0 _ n 0 0 0 [(0, .ref o), (1, .int (nI t))] [] _ n
  refine aw_iconst_n 0 dX6_setsWithExactly_0 (by decide) ?_
  refine aw_istore_n (L' := [(2, .int (nI 0)), (0, .ref o), (1, .int (nI t))]) dX6_setsWithExactly_1 rfl (by decide) rfl ?_
  refine aw_iconst_n 0 dX6_setsWithExactly_2 (by decide) ?_
  refine aw_istore_n (L' := [(3, .int (nI 0)), (2, .int (nI 0)), (0, .ref o), (1, .int (nI t))]) dX6_setsWithExactly_3 rfl (by decide) rfl ?_
  exact aw_sub [(3, .int (nI 0)), (2, .int (nI 0)), (0, .ref o), (1, .int (nI t))] (by simp [exaG]) (q_exa_loop hS hB ht _ 0 rfl (Nat.zero_le _))
abbrev MX6_greatestFree : MT := (RX6, cX6_greatestFree, 6, (some .int), [], "greatestFree")
set_option maxHeartbeats 4000000 in
theorem q_gf_loop {l : Launch} {G : GT} {n : Nat} {f : HT} {o : Nat} {J : Nat → Int32} {B : Nat → Nat → Int32} {K : Nat} {V : Nat → Nat} (hS : SV J B V) (hB : VB K V) {s : Nat} (hs : s < 256) : ∀ (N : Nat) (u : Nat), (V 2 - u = N) → (u ≤ V 2) → AW l G MX6_greatestFree 3 180 0 0 (rI (nI (gfN V s)) (sU f o J B) n) n 0 0 7 [(4, .int (nI u)), (3, .int (gmI (gfF V s u).2)), (2, .int (nI ((gfF V s u).1))), (0, .ref o), (1, .int (nI s))] [] (sU f o J B) n := by
  intro N
  induction N using Nat.strongRecOn with
  | ind N ih =>
    intro u hN hu
    have hcnt := VB.cnt hB
    have hleg := VB.legs hB
    have hfr := VB.fric hB
    have hnow := VB.now hB
    have hkk := VB.kk hB
    have hwk := wk_le V u
    have hgl := gfF_lt (V := V) (s := s) (u := u)
    refine aw_iload dX6_greatestFree_7 rfl ?_
    refine aw_aload_n dX6_greatestFree_9 rfl rfl ?_
    refine aw_get (v := .int (nI (V 2))) fl_X6_9 sU_0 (congrArg (fun z => some (Value.int z)) hS.cnt) dX6_greatestFree_10 ?_
    refine aw_icmp_ge_n (by omega) (by omega) (tgt := 63) dX6_greatestFree_13 (by decide) (fun c_1 => ?_) (fun c_1 => ?_)
    · refine aw_iload_n dX6_greatestFree_63 rfl rfl ?_
      exact aw_iret rfl (by decide) (by decide) dX6_greatestFree_64 (rI_of (by rw [show u = V 2 by omega]; rfl))
    · refine aw_iload_n dX6_greatestFree_16 rfl rfl ?_
      refine aw_iload dX6_greatestFree_17 rfl ?_
      refine aw_sI (as := [Value.int (nI s), Value.int (nI u)]) (rest := []) mS_X6_contains (q_has (by omega) (by omega)) ml_X6_25 dX6_greatestFree_19 rfl rfl (by decide) (Nat.le_of_ble_eq_true rfl) (by decide) ?_
      refine aw_if_ne_b (tgt := 29) dX6_greatestFree_22 (by decide) (fun c_2 => ?_) (fun c_2 => ?_)
      · have d_1 := of_decide_eq_true c_2
        refine aw_iconst_n 0 dX6_greatestFree_29 (by decide) ?_
        refine aw_istore (L' := [(5, .int (nI 0)), (4, .int (nI u)), (3, .int (gmI (gfF V s u).2)), (2, .int (nI ((gfF V s u).1))), (0, .ref o), (1, .int (nI s))]) dX6_greatestFree_30 (by decide) rfl ?_
        refine aw_iload dX6_greatestFree_32 rfl ?_
        refine aw_if_eq_n (by omega) (tgt := 57) dX6_greatestFree_34 (by decide) (fun c_3 => ?_) (fun c_3 => by exfalso; omega)
        refine aw_iinc_n (L' := [(4, .int (nI (u + 1))), (5, .int (nI 0)), (3, .int (gmI (gfF V s u).2)), (2, .int (nI ((gfF V s u).1))), (0, .ref o), (1, .int (nI s))]) 1 dX6_greatestFree_57 rfl (by decide) (by decide) rfl ?_
        refine aw_goto (tgt := 7) dX6_greatestFree_60 (by decide) ?_
        have e : gfF V s (u + 1) = gfF V s u := by show (if _ then _ else _) = _; rw [if_neg (fun z => z.1 d_1)]
        refine aw_sub [(4, .int (nI (u + 1))), (3, .int (gmI (gfF V s (u + 1)).2)), (2, .int (nI (gfF V s (u + 1)).1)), (0, .ref o), (1, .int (nI s))] (by rw [e]; simp [gm_s]) ?_
        exact ih _ (by omega) (u + 1) rfl (by omega)
      · have d_1 := of_decide_eq_false c_2
        refine aw_iconst_n 1 dX6_greatestFree_25 (by decide) ?_
        refine aw_goto (tgt := 30) dX6_greatestFree_26 (by decide) ?_
        refine aw_istore (L' := [(5, .int (nI 1)), (4, .int (nI u)), (3, .int (gmI (gfF V s u).2)), (2, .int (nI ((gfF V s u).1))), (0, .ref o), (1, .int (nI s))]) dX6_greatestFree_30 (by decide) rfl ?_
        refine aw_iload dX6_greatestFree_32 rfl ?_
        refine aw_if_eq_n (by omega) (tgt := 57) dX6_greatestFree_34 (by decide) (fun c_4 => by exfalso; omega) (fun c_4 => ?_)
        refine aw_aload_n dX6_greatestFree_37 rfl rfl ?_
        refine aw_iload dX6_greatestFree_38 rfl ?_
        refine aw_vI (as := [Value.int (nI u)]) (rest := []) mV_X8_swingsInWeek (s_week hS hB (k := u) (by omega)) ml_X6_21 sU_0 rfl dX6_greatestFree_40 rfl rfl (by decide) (Nat.le_of_ble_eq_true rfl) (by decide) ?_
        refine aw_iload_n dX6_greatestFree_43 rfl rfl ?_
        refine aw_icmp_le (tgt := 57) dX6_greatestFree_44 (by decide) (fun c_5 => ?_) (fun c_5 => ?_)
        · have d_2 := (gm_le (w := wkN V u) (m := (gfF V s u).2) (by omega) (by omega)).mp c_5
          refine aw_iinc_n (L' := [(4, .int (nI (u + 1))), (5, .int (nI 1)), (3, .int (gmI (gfF V s u).2)), (2, .int (nI ((gfF V s u).1))), (0, .ref o), (1, .int (nI s))]) 1 dX6_greatestFree_57 rfl (by decide) (by decide) rfl ?_
          refine aw_goto (tgt := 7) dX6_greatestFree_60 (by decide) ?_
          have e : gfF V s (u + 1) = gfF V s u := by show (if _ then _ else _) = _; rw [if_neg (fun z => d_2 z.2)]
          refine aw_sub [(4, .int (nI (u + 1))), (3, .int (gmI (gfF V s (u + 1)).2)), (2, .int (nI (gfF V s (u + 1)).1)), (0, .ref o), (1, .int (nI s))] (by rw [e]; simp [gm_s]) ?_
          exact ih _ (by omega) (u + 1) rfl (by omega)
        · have d_2 := Classical.not_not.mp (mt (gm_le (w := wkN V u) (m := (gfF V s u).2) (by omega) (by omega)).mpr c_5)
          refine aw_iload dX6_greatestFree_47 rfl ?_
          refine aw_istore_n (L' := [(2, .int (nI u)), (5, .int (nI 1)), (4, .int (nI u)), (3, .int (gmI (gfF V s u).2)), (0, .ref o), (1, .int (nI s))]) dX6_greatestFree_49 rfl (by decide) rfl ?_
          refine aw_aload_n dX6_greatestFree_50 rfl rfl ?_
          refine aw_iload dX6_greatestFree_51 rfl ?_
          refine aw_vI (as := [Value.int (nI u)]) (rest := []) mV_X8_swingsInWeek (s_week hS hB (k := u) (by omega)) ml_X6_21 sU_0 rfl dX6_greatestFree_53 rfl rfl (by decide) (Nat.le_of_ble_eq_true rfl) (by decide) ?_
          refine aw_istore_n (L' := [(3, .int (nI (wkN V u))), (2, .int (nI u)), (5, .int (nI 1)), (4, .int (nI u)), (0, .ref o), (1, .int (nI s))]) dX6_greatestFree_56 rfl (by decide) rfl ?_
          refine aw_iinc_n (L' := [(4, .int (nI (u + 1))), (3, .int (nI (wkN V u))), (2, .int (nI u)), (5, .int (nI 1)), (0, .ref o), (1, .int (nI s))]) 1 dX6_greatestFree_57 rfl (by decide) (by decide) rfl ?_
          refine aw_goto (tgt := 7) dX6_greatestFree_60 (by decide) ?_
          have e : gfF V s (u + 1) = (u, wkN V u + 1) := by show (if _ then _ else _) = _; rw [if_pos ⟨by omega, by omega⟩]
          refine aw_sub [(4, .int (nI (u + 1))), (3, .int (gmI (gfF V s (u + 1)).2)), (2, .int (nI (gfF V s (u + 1)).1)), (0, .ref o), (1, .int (nI s))] (by rw [e]; simp [gm_s]) ?_
          exact ih _ (by omega) (u + 1) rfl (by omega)
set_option maxHeartbeats 4000000 in
theorem q_gf {l : Launch} {G : GT} {n : Nat} {f : HT} {o : Nat} {J : Nat → Int32} {B : Nat → Nat → Int32} {K : Nat} {V : Nat → Nat} (hS : SV J B V) (hB : VB K V) {s : Nat} (hs : s < 256) : AM l G yX6_greatestFree (.code yX6_greatestFree cX6_greatestFree 6 (some .int)) 3 180 0 0 [.ref o, .int (nI s)] (sU f o J B) n (rI (nI (gfN V s)) (sU f o J B) n) := by
  refine aw_enter (M := MX6_greatestFree) rfl rfl (by decide +kernel) rfl (Nat.le_of_ble_eq_true rfl) ?_
  show AW l G MX6_greatestFree 3 180 0 0 _ n 0 0 0 [(0, .ref o), (1, .int (nI s))] [] _ n
  refine aw_iconst_n 0 dX6_greatestFree_0 (by decide) ?_
  refine aw_istore_n (L' := [(2, .int (nI 0)), (0, .ref o), (1, .int (nI s))]) dX6_greatestFree_1 rfl (by decide) rfl ?_
  refine aw_iconst (v := -1) dX6_greatestFree_2 (by decide) ?_
  refine aw_istore_n (L' := [(3, .int (-1)), (2, .int (nI 0)), (0, .ref o), (1, .int (nI s))]) dX6_greatestFree_3 rfl (by decide) rfl ?_
  refine aw_iconst_n 0 dX6_greatestFree_4 (by decide) ?_
  refine aw_istore (L' := [(4, .int (nI 0)), (3, .int (-1)), (2, .int (nI 0)), (0, .ref o), (1, .int (nI s))]) dX6_greatestFree_5 (by decide) rfl ?_
  exact aw_sub [(4, .int (nI 0)), (3, .int (-1)), (2, .int (nI 0)), (0, .ref o), (1, .int (nI s))] (by simp [gfF, gmI]) (q_gf_loop hS hB hs _ 0 rfl (Nat.zero_le _))
abbrev MX6_fewestGreatestFirst : MT := (RX6, cX6_fewestGreatestFirst, 6, (some .int), [], "fewestGreatestFirst")
set_option maxHeartbeats 4000000 in
theorem q_few_loop {l : Launch} {G : GT} {n : Nat} {f : HT} {o : Nat} {J : Nat → Int32} {B : Nat → Nat → Int32} {K : Nat} {V : Nat → Nat} (hS : SV J B V) (hB : VB K V) {t : Nat} (ht1 : 1 ≤ t) (ht : t ≤ 999) : ∀ (N : Nat) (j : Nat), (V 2 - j = N) → (j ≤ V 2) → (togN V (gsN V j) < t) → AW l G MX6_fewestGreatestFirst 4 240 0 0 (rI (fwI (fewG V t (2 ^ V 2))) (sU f o J B) n) n 0 0 7 [(4, .int (nI (j + 1))), (3, .int (nI (togN V (gsN V j)))), (2, .int (nI (gsN V j))), (0, .ref o), (1, .int (nI t))] [] (sU f o J B) n := by
  intro N
  induction N using Nat.strongRecOn with
  | ind N ih =>
    intro j hN hj hs9
    have hcnt := VB.cnt hB
    have hleg := VB.legs hB
    have hfr := VB.fric hB
    have hnow := VB.now hB
    have hkk := VB.kk hB
    have hpw := pow_le hcnt
    obtain ⟨g1, g2, -⟩ := gs_ok hcnt j hj
    refine aw_iload dX6_fewestGreatestFirst_7 rfl ?_
    refine aw_aload_n dX6_fewestGreatestFirst_9 rfl rfl ?_
    refine aw_get (v := .int (nI (V 2))) fl_X6_9 sU_0 (congrArg (fun z => some (Value.int z)) hS.cnt) dX6_fewestGreatestFirst_10 ?_
    refine aw_icmp_gt_n (by omega) (by omega) (tgt := 53) dX6_fewestGreatestFirst_13 (by decide) (fun c_1 => ?_) (fun c_1 => ?_)
    · refine aw_iconst (v := -1) dX6_fewestGreatestFirst_53 (by decide) ?_
      have e : j = V 2 := by omega
      subst e
      exact aw_iret rfl (by decide) (by decide) dX6_fewestGreatestFirst_54 (rI_of (by rw [few_never hcnt hs9]; rfl))
    · obtain ⟨g3, g4, -⟩ := gf_ok (V := V) (s := gsN V j) (by omega) hcnt
      have e9 : togN V (gsN V (j + 1)) = togN V (gsN V j) + wkN V (gfN V (gsN V j)) := tog_or (by omega) g3 hcnt g4
      have hwk := wk_le V (gfN V (gsN V j))
      refine aw_aload_n dX6_fewestGreatestFirst_16 rfl rfl ?_
      refine aw_iload_n dX6_fewestGreatestFirst_17 rfl rfl ?_
      refine aw_sI (as := [Value.ref o, Value.int (nI (gsN V j))]) (rest := []) mS_X6_greatestFree (q_gf hS hB (by omega)) ml_X6_15 dX6_fewestGreatestFirst_18 rfl rfl (by decide) (Nat.le_of_ble_eq_true rfl) (by decide) ?_
      refine aw_istore (L' := [(5, .int (nI (gfN V (gsN V j)))), (4, .int (nI (j + 1))), (3, .int (nI (togN V (gsN V j)))), (2, .int (nI (gsN V j))), (0, .ref o), (1, .int (nI t))]) dX6_fewestGreatestFirst_21 (by decide) rfl ?_
      refine aw_iload_n dX6_fewestGreatestFirst_23 rfl rfl ?_
      refine aw_iconst_n 1 dX6_fewestGreatestFirst_24 (by decide) ?_
      refine aw_iload dX6_fewestGreatestFirst_25 rfl ?_
      refine aw_shl (k := gfN V (gsN V j)) (by omega) dX6_fewestGreatestFirst_27 (fun hpw_2 => ?_)
      refine aw_or (a := gsN V j) (k := gfN V (gsN V j)) (by omega) (by omega) dX6_fewestGreatestFirst_28 (fun hor_3 => ?_)
      refine aw_istore_n (L' := [(2, .int (nI ((gsN V j) ||| 2 ^ (gfN V (gsN V j))))), (5, .int (nI (gfN V (gsN V j)))), (4, .int (nI (j + 1))), (3, .int (nI (togN V (gsN V j)))), (0, .ref o), (1, .int (nI t))]) dX6_fewestGreatestFirst_29 rfl (by decide) rfl ?_
      refine aw_iload_n dX6_fewestGreatestFirst_30 rfl rfl ?_
      refine aw_aload_n dX6_fewestGreatestFirst_31 rfl rfl ?_
      refine aw_iload dX6_fewestGreatestFirst_32 rfl ?_
      refine aw_vI (as := [Value.int (nI (gfN V (gsN V j)))]) (rest := [Value.int (nI (togN V (gsN V j)))]) mV_X8_swingsInWeek (s_week hS hB (k := (gfN V (gsN V j))) (by omega)) ml_X6_21 sU_0 rfl dX6_fewestGreatestFirst_34 rfl rfl (by decide) (Nat.le_of_ble_eq_true rfl) (by decide) ?_
      refine aw_iadd_n dX6_fewestGreatestFirst_37 ?_
      refine aw_istore_n (L' := [(3, .int (nI ((togN V (gsN V j)) + (wkN V (gfN V (gsN V j)))))), (2, .int (nI ((gsN V j) ||| 2 ^ (gfN V (gsN V j))))), (5, .int (nI (gfN V (gsN V j)))), (4, .int (nI (j + 1))), (0, .ref o), (1, .int (nI t))]) dX6_fewestGreatestFirst_38 rfl (by decide) rfl ?_
      refine aw_iload_n dX6_fewestGreatestFirst_39 rfl rfl ?_
      refine aw_iload_n dX6_fewestGreatestFirst_40 rfl rfl ?_
      refine aw_icmp_lt_n (by omega) (by omega) (tgt := 47) dX6_fewestGreatestFirst_41 (by decide) (fun c_4 => ?_) (fun c_4 => ?_)
      · refine aw_iinc_n (L' := [(4, .int (nI (j + 1 + 1))), (3, .int (nI ((togN V (gsN V j)) + (wkN V (gfN V (gsN V j)))))), (2, .int (nI ((gsN V j) ||| 2 ^ (gfN V (gsN V j))))), (5, .int (nI (gfN V (gsN V j)))), (0, .ref o), (1, .int (nI t))]) 1 dX6_fewestGreatestFirst_47 rfl (by decide) (by decide) rfl ?_
        refine aw_goto (tgt := 7) dX6_fewestGreatestFirst_50 (by decide) ?_
        refine aw_sub [(4, .int (nI (j + 1 + 1))), (3, .int (nI (togN V (gsN V (j + 1))))), (2, .int (nI (gsN V (j + 1)))), (0, .ref o), (1, .int (nI t))] (by rw [e9]; simp [gsN]) ?_
        exact ih _ (by omega) (j + 1) rfl (by omega) (by omega)
      · refine aw_iload dX6_fewestGreatestFirst_44 rfl ?_
        exact aw_iret rfl (by decide) (by decide) dX6_fewestGreatestFirst_46 (rI_of (by rw [few_greedy hcnt (j := j) (by omega) hs9 (by omega), fwI_n (by omega)]))
set_option maxHeartbeats 4000000 in
theorem q_few {l : Launch} {G : GT} {n : Nat} {f : HT} {o : Nat} {J : Nat → Int32} {B : Nat → Nat → Int32} {K : Nat} {V : Nat → Nat} (hS : SV J B V) (hB : VB K V) {t : Nat} (ht1 : 1 ≤ t) (ht : t ≤ 999) : AM l G yX6_fewestGreatestFirst (.code yX6_fewestGreatestFirst cX6_fewestGreatestFirst 6 (some .int)) 4 240 0 0 [.ref o, .int (nI t)] (sU f o J B) n (rI (fwI (fewG V t (2 ^ V 2))) (sU f o J B) n) := by
  refine aw_enter (M := MX6_fewestGreatestFirst) rfl rfl (by decide +kernel) rfl (Nat.le_of_ble_eq_true rfl) ?_
  show AW l G MX6_fewestGreatestFirst 4 240 0 0 _ n 0 0 0 [(0, .ref o), (1, .int (nI t))] [] _ n
  refine aw_iconst_n 0 dX6_fewestGreatestFirst_0 (by decide) ?_
  refine aw_istore_n (L' := [(2, .int (nI 0)), (0, .ref o), (1, .int (nI t))]) dX6_fewestGreatestFirst_1 rfl (by decide) rfl ?_
  refine aw_iconst_n 0 dX6_fewestGreatestFirst_2 (by decide) ?_
  refine aw_istore_n (L' := [(3, .int (nI 0)), (2, .int (nI 0)), (0, .ref o), (1, .int (nI t))]) dX6_fewestGreatestFirst_3 rfl (by decide) rfl ?_
  refine aw_iconst_n 1 dX6_fewestGreatestFirst_4 (by decide) ?_
  refine aw_istore (L' := [(4, .int (nI 1)), (3, .int (nI 0)), (2, .int (nI 0)), (0, .ref o), (1, .int (nI t))]) dX6_fewestGreatestFirst_5 (by decide) rfl ?_
  have h0 : ∀ u, togC V 0 u = 0 := fun u => by
    induction u with
    | zero => rfl
    | succ u ih => show togC V 0 u + (if bitN 0 u = 1 then _ else 0) = 0; rw [ih, if_neg (by unfold bitN; rw [Nat.zero_div]; decide)]
  have h1 : togN V (gsN V 0) = 0 := h0 (V 2)
  exact aw_sub [(4, .int (nI 1)), (3, .int (nI (togN V (gsN V 0)))), (2, .int (nI 0)), (0, .ref o), (1, .int (nI t))] (by rw [h1]; simp) (q_few_loop hS hB ht1 ht _ 0 rfl (Nat.zero_le _) (by omega))
