/-! the third gym: its numbers as lists -/
def lv (L : List Nat) : Nat → Nat := fun i => L.getD i 0
def Z48 (V : Nat → Nat) : Prop := ∀ i, 48 ≤ i → V i = 0
theorem lv_of {V : Nat → Nat} {L : List Nat} (hz : Z48 V) (h : (List.range 48).map V = L) : V = lv L := by
  funext i
  subst h
  unfold lv
  rw [List.getD_eq_getElem?_getD, List.getElem?_map]
  by_cases hi : i < 48
  · rw [List.getElem?_range hi]; rfl
  · rw [List.getElem?_eq_none (by rw [List.length_range]; omega), hz i (by omega)]; rfl
theorem z_lv {L : List Nat} (h : L.length = 48) : Z48 (lv L) := fun i hi => by
  unfold lv
  rw [List.getD_eq_getElem?_getD, List.getElem?_eq_none (by omega)]; rfl
theorem Z48.up {V : Nat → Nat} (h : Z48 V) {k x : Nat} (hk : k < 48) : Z48 (va_up V k x) := fun i hi => by rw [up_ne (by omega)]; exact h i hi
theorem z_tk {V : Nat → Nat} (h : Z48 V) {u : Nat} (hu : u ≤ 8) : Z48 (tkV V u) := fun i hi => by
  unfold tkV
  rw [if_neg (by omega), if_neg (by omega), if_neg (by omega)]; exact h i hi
theorem z_tks : ∀ (t : Nat) {V : Nat → Nat}, Z48 V → V 2 ≤ 8 → Z48 (tks t V) := by
  intro t
  induction t with
  | zero => intro V h _; exact h
  | succ t ih =>
    intro V h h2
    refine ih (z_tk h h2) ?_
    unfold tkV
    rw [if_neg (by decide), if_neg (by omega), if_neg (by omega)]
    exact h2
theorem kind2 (L : Nat) : kindN L ≤ 2 := by unfold kindN; (repeat' split) <;> omega
theorem z_push {V : Nat → Nat} (h : Z48 V) {k a : Nat} (hk : k < 8) : Z48 (pushV V k a) := by
  have hk2 := kind2 (V (4 + k))
  have e0 : Z48 (va_up (if V (12 + k) = 0 then va_up V (20 + k) (V 0) else V) (12 + k) a) := by
    refine Z48.up ?_ (by omega)
    split
    · exact h.up (by omega)
    · exact h
  have e : pushV V k a = if V (36 + kindN (V (4 + k))) < a then va_up (va_up (va_up (if V (12 + k) = 0 then va_up V (20 + k) (V 0) else V) (12 + k) a) (36 + kindN (V (4 + k))) a) (39 + kindN (V (4 + k))) k else va_up (if V (12 + k) = 0 then va_up V (20 + k) (V 0) else V) (12 + k) a := rfl
  rw [e]
  by_cases z : V (36 + kindN (V (4 + k))) < a
  · rw [if_pos z]; exact (e0.up (by omega)).up (by omega)
  · rw [if_neg z]; exact e0
theorem z_C {K : Nat} {V : Nat → Nat} (hB : VB K V) (h : Z48 V) (c : Nat × Nat × Nat) : Z48 (opC V c).2.2 := by
  have hc := hB.cnt
  have hl := hB.legs
  unfold opC
  split
  · unfold opAdd; (repeat' split) <;> first | exact h | exact (h.up (by omega)).up (by omega)
  · split
    · unfold opPush
      split
      · exact h
      · next h1 =>
        (repeat' split) <;> try exact h
        obtain ⟨x, x0, e⟩ := isK_of (by omega) (eq_true_of_ne_false h1)
        rw [e, nIc (by omega)]
        exact z_push h (by omega)
    · split
      · unfold opCatch
        split
        · exact h
        · next h1 =>
          split
          · exact h
          · obtain ⟨x, x0, e⟩ := isK_of (by omega) (eq_true_of_ne_false h1)
            rw [e, nIc (by omega)]
            exact h.up (by omega)
      · split
        · unfold opFric; (repeat' split) <;> first | exact h | exact h.up (by omega)
        · split
          · unfold opLeg; (repeat' split) <;> first | exact h | exact (h.up (by omega)).up (by omega)
          · split
            · unfold opCut
              split
              · exact h
              · refine Z48.up (fun i hi => ?_) (by omega)
                unfold cutV
                next h1 =>
                obtain ⟨x, x0, e⟩ := isK_of (by omega) (eq_true_of_ne_false h1)
                rw [if_neg (by omega)]
                exact h i hi
            · unfold opPass; split
              · exact h
              · exact z_tks _ h hc
theorem z_rn : ∀ (cs : List (Nat × Nat × Nat)) (k K : Nat) {V : Nat → Nat}, VB K V → K + 500 * cs.length < 16000000 → Z48 V → Z48 (rnL cs k V).2.2 := by
  intro cs
  induction cs with
  | nil => intro k K V _ _ h; exact h
  | cons c cs ih =>
    intro k K V hB hK h
    rw [List.length_cons] at hK
    by_cases z : (opC V c).1 = 0
    · rw [rn_yes z]
      have h5 : K + 500 < 16000000 := Nat.lt_of_le_of_lt (by omega) hK
      have h6 : K + 500 + 500 * cs.length < 16000000 := Nat.lt_of_le_of_lt (by omega) hK
      have h7 : VB (K + 500) (opC V c).2.2 := vq_C hB h5 c
      exact ih (k + 1) (K + 500) h7 h6 (z_C hB h c)
    · rw [rn_no z]; exact h
/-- an operation read off its three parts -/
theorem z_op {q : Nat × Nat × (Nat → Nat)} {v : Nat} {L : List Nat} (hz : Z48 q.2.2) (h : q.1 = 0 ∧ q.2.1 = v ∧ (List.range 48).map q.2.2 = L) : q = (0, v, lv L) := by
  obtain ⟨c, x, W⟩ := q
  obtain ⟨h1, h2, h3⟩ := h
  have h1 : c = 0 := h1
  have h2 : x = v := h2
  have h4 : W = lv L := lv_of hz h3
  rw [h1, h2, h4]
def Z0 : List Nat := [0, 5, 0, 0, 0, 0, 0, 0, 0, 0, 0, 0, 0, 0, 0, 0, 0, 0, 0, 0, 0, 0, 0, 0, 0, 0, 0, 0, 0, 0, 0, 0, 0, 0, 0, 0, 0, 0, 0, 0, 0, 0, 0, 0, 0, 0, 0, 0]
def Z1 (a : Nat) : List Nat := [3, 5, 4, 0, 1, 4, 25, 99, 0, 0, 0, 0, a, 8, 0, 0, 0, 0, 0, 0, 0, 3, 0, 0, 0, 0, 0, 0, 0, 0, 0, 0, 0, 0, 0, 0, a, 0, 0, 0, 0, 0, 0, 0, 0, 0, 0, 0]
theorem zl_1 (a : Nat) : (Z1 a).length = 48 := rfl
def Z2 (a : Nat) : List Nat := [3, 5, 4, 0, 1, 4, 25, 99, 0, 0, 0, 0, a, 8, 10, 0, 0, 0, 0, 0, 0, 3, 3, 0, 0, 0, 0, 0, 0, 0, 0, 0, 0, 0, 0, 0, a, 0, 0, 0, 0, 0, 0, 0, 0, 0, 0, 0]
theorem zl_2 (a : Nat) : (Z2 a).length = 48 := rfl
def Z3 (a : Nat) : List Nat := [6, 5, 4, 0, 1, 4, 25, 99, 0, 0, 0, 0, (a - max 1 (a / 20)), 8, 10, 0, 0, 0, 0, 0, 0, 3, 3, 0, 0, 0, 0, 0, 1, 0, 0, 0, 0, 0, 0, 0, a, 0, 0, 0, 0, 0, 0, 0, 0, 0, 0, 0]
theorem zl_3 (a : Nat) : (Z3 a).length = 48 := rfl
def Z4 (a : Nat) : List Nat := [6, 5, 4, 0, 1, 4, 25, 99, 0, 0, 0, 0, (a - max 1 (a / 20)), 8, 0, 0, 0, 0, 0, 0, 0, 3, 3, 0, 0, 0, 0, 0, 1, 0, 0, 0, 0, 0, 0, 0, a, 0, 0, 0, 0, 0, 0, 0, 0, 0, 0, 0]
theorem zl_4 (a : Nat) : (Z4 a).length = 48 := rfl
def Z5 (a : Nat) : List Nat := [6, 5, 4, 1, 1, 4, 25, 99, 0, 0, 0, 0, (a - max 1 (a / 20)), 8, 0, 0, 0, 0, 0, 0, 0, 3, 3, 0, 0, 0, 0, 0, 1, 0, 0, 0, 0, 0, 0, 0, a, 0, 0, 0, 0, 0, 10, 0, 0, 0, 0, 0]
theorem zl_5 (a : Nat) : (Z5 a).length = 48 := rfl
def Z6 (a : Nat) : List Nat := [6, 5, 4, 2, 1, 4, 25, 99, 0, 0, 0, 0, (a - max 1 (a / 20)), 8, 0, 0, 0, 0, 0, 0, 0, 3, 3, 0, 0, 0, 0, 0, 1, 0, 0, 0, 0, 0, 0, 0, a, 0, 0, 0, 0, 0, 10, 12, 0, 0, 0, 0]
theorem zl_6 (a : Nat) : (Z6 a).length = 48 := rfl
def Z7 (a : Nat) : List Nat := [6, 5, 4, 3, 1, 4, 25, 99, 0, 0, 0, 0, (a - max 1 (a / 20)), 8, 0, 0, 0, 0, 0, 0, 0, 3, 3, 0, 0, 0, 0, 0, 1, 0, 0, 0, 0, 0, 0, 0, a, 0, 0, 0, 0, 0, 10, 12, 60, 0, 0, 0]
theorem zl_7 (a : Nat) : (Z7 a).length = 48 := rfl
def Z8 (a : Nat) : List Nat := [6, 5, 4, 2, 1, 4, 25, 99, 0, 0, 0, 0, (a - max 1 (a / 20)), 8, 0, 0, 0, 0, 0, 0, 0, 3, 3, 0, 0, 0, 0, 0, 1, 0, 0, 0, 0, 0, 0, 0, a, 0, 0, 0, 0, 0, 12, 60, 0, 0, 0, 0]
theorem zl_8 (a : Nat) : (Z8 a).length = 48 := rfl
theorem zl_0 : Z0.length = 48 := rfl
theorem sg0_lv : sg0.1 = lv Z0 := lv_of (fun i hi => if_neg (by omega)) (by decide +kernel)
abbrev DZ (a : Nat) : List (Nat × Nat × Nat) := [(104, 1, 0), (104, 4, 0), (104, 25, 0), (104, 99, 0), (112, 0, a), (116, 3, 0), (112, 1, 8)]
abbrev TZ (a : Nat) : List Nat := (T199 ++ decN a) ++ T208
abbrev am (a : Nat) : Nat := a - max 1 (a / 20)
abbrev TC (a : Nat) : List Nat := (T244 ++ decN (am a)) ++ T246
theorem rd_z : ∀ t, t < 32 → RD (TZ (20 + t)) = (DZ (20 + t), ((TZ (20 + t)).length, false)) := by decide +kernel
theorem tz_len : ∀ t, t < 32 → (TZ (20 + t)).length = 55 := by decide +kernel
theorem tz_ok : ∀ t, t < 32 → ∀ i, i < 55 → 32 ≤ (TZ (20 + t)).getD i 0 ∧ (TZ (20 + t)).getD i 0 ≤ 126 := by decide +kernel
theorem ok_z {t : Nat} (ht : t < 32) : okT (TZ (20 + t)) := ⟨by rw [tz_len t ht]; decide, fun i hi => tz_ok t ht i (by rw [tz_len t ht] at hi; exact hi)⟩
theorem rnz : ∀ t, t < 32 → (rnL (DZ (20 + t)) 0 (lv Z0)).1 = 0 ∧ (rnL (DZ (20 + t)) 0 (lv Z0)).2.1 = 7 ∧ (List.range 48).map (rnL (DZ (20 + t)) 0 (lv Z0)).2.2 = Z1 (20 + t) := by decide +kernel
theorem rn_z {t : Nat} (ht : t < 32) : rnL (DZ (20 + t)) 0 (lv Z0) = (0, 7, lv (Z1 (20 + t))) :=
  z_op (z_rn _ 0 0 (by rw [← sg0_lv]; exact SB_0.1) (by show 0 + 500 * 7 < 16000000; decide) (z_lv zl_0)) (rnz t ht)
theorem zd_1 : ∀ t, t < 32 → (opPush (lv (Z1 (20 + t))) (nI 2) (nI 10)).1 = 0 ∧ (opPush (lv (Z1 (20 + t))) (nI 2) (nI 10)).2.1 = 10 ∧ (List.range 48).map (opPush (lv (Z1 (20 + t))) (nI 2) (nI 10)).2.2 = Z2 (20 + t) := by decide +kernel
theorem zo_1 {t K : Nat} (ht : t < 32) (hB : VB K (lv (Z1 (20 + t)))) : opPush (lv (Z1 (20 + t))) (nI 2) (nI 10) = (0, 10, lv (Z2 (20 + t))) := z_op (z_C hB (z_lv (zl_1 _)) (112, 2, 10)) (zd_1 t ht)
theorem zd_2 : ∀ t, t < 32 → (opPass (lv (Z2 (20 + t))) (nI 3)).1 = 0 ∧ (opPass (lv (Z2 (20 + t))) (nI 3)).2.1 = 1 ∧ (List.range 48).map (opPass (lv (Z2 (20 + t))) (nI 3)).2.2 = Z3 (20 + t) := by decide +kernel
theorem zo_2 {t K : Nat} (ht : t < 32) (hB : VB K (lv (Z2 (20 + t)))) : opPass (lv (Z2 (20 + t))) (nI 3) = (0, 1, lv (Z3 (20 + t))) := z_op (z_C hB (z_lv (zl_2 _)) (116, 3, 0)) (zd_2 t ht)
theorem zd_3 : ∀ t, t < 32 → (opCatch (lv (Z3 (20 + t))) (nI 2)).1 = 0 ∧ (opCatch (lv (Z3 (20 + t))) (nI 2)).2.1 = 10 ∧ (List.range 48).map (opCatch (lv (Z3 (20 + t))) (nI 2)).2.2 = Z4 (20 + t) := by decide +kernel
theorem zo_3 {t K : Nat} (ht : t < 32) (hB : VB K (lv (Z3 (20 + t)))) : opCatch (lv (Z3 (20 + t))) (nI 2) = (0, 10, lv (Z4 (20 + t))) := z_op (z_C hB (z_lv (zl_3 _)) (99, 2, 0)) (zd_3 t ht)
theorem zd_4 : ∀ t, t < 32 → (opLeg (lv (Z4 (20 + t))) (nI 10)).1 = 0 ∧ (opLeg (lv (Z4 (20 + t))) (nI 10)).2.1 = 1 ∧ (List.range 48).map (opLeg (lv (Z4 (20 + t))) (nI 10)).2.2 = Z5 (20 + t) := by decide +kernel
theorem zo_4 {t K : Nat} (ht : t < 32) (hB : VB K (lv (Z4 (20 + t)))) : opLeg (lv (Z4 (20 + t))) (nI 10) = (0, 1, lv (Z5 (20 + t))) := z_op (z_C hB (z_lv (zl_4 _)) (108, 10, 0)) (zd_4 t ht)
theorem zd_5 : ∀ t, t < 32 → (opLeg (lv (Z5 (20 + t))) (nI 12)).1 = 0 ∧ (opLeg (lv (Z5 (20 + t))) (nI 12)).2.1 = 2 ∧ (List.range 48).map (opLeg (lv (Z5 (20 + t))) (nI 12)).2.2 = Z6 (20 + t) := by decide +kernel
theorem zo_5 {t K : Nat} (ht : t < 32) (hB : VB K (lv (Z5 (20 + t)))) : opLeg (lv (Z5 (20 + t))) (nI 12) = (0, 2, lv (Z6 (20 + t))) := z_op (z_C hB (z_lv (zl_5 _)) (108, 12, 0)) (zd_5 t ht)
theorem zd_6 : ∀ t, t < 32 → (opLeg (lv (Z6 (20 + t))) (nI 60)).1 = 0 ∧ (opLeg (lv (Z6 (20 + t))) (nI 60)).2.1 = 3 ∧ (List.range 48).map (opLeg (lv (Z6 (20 + t))) (nI 60)).2.2 = Z7 (20 + t) := by decide +kernel
theorem zo_6 {t K : Nat} (ht : t < 32) (hB : VB K (lv (Z6 (20 + t)))) : opLeg (lv (Z6 (20 + t))) (nI 60) = (0, 3, lv (Z7 (20 + t))) := z_op (z_C hB (z_lv (zl_6 _)) (108, 60, 0)) (zd_6 t ht)
theorem zd_7 : ∀ t, t < 32 → (opCut (lv (Z7 (20 + t))) (nI 0)).1 = 0 ∧ (opCut (lv (Z7 (20 + t))) (nI 0)).2.1 = 10 ∧ (List.range 48).map (opCut (lv (Z7 (20 + t))) (nI 0)).2.2 = Z8 (20 + t) := by decide +kernel
theorem zo_7 {t K : Nat} (ht : t < 32) (hB : VB K (lv (Z7 (20 + t)))) : opCut (lv (Z7 (20 + t))) (nI 0) = (0, 10, lv (Z8 (20 + t))) := z_op (z_C hB (z_lv (zl_7 _)) (117, 0, 0)) (zd_7 t ht)
theorem zq_0_0 : qRelay (lv Z0) = (0, 0) := by decide +kernel
theorem zq_0_1 : qExa (lv Z0) (nI 0) = (0, 1) := by decide +kernel
theorem zq_0_2 : qFew (lv Z0) (nI 1) = (2, 0) := by decide +kernel
theorem zq_0_3 : qRec (lv Z0) 36 (nI 0) = (2, 0) := by decide +kernel
theorem zq_0_4 : qRec (lv Z0) 36 (nI 3) = (1, 0) := by decide +kernel
theorem zq_1_0 : ∀ t, t < 32 → qPeriod (lv (Z1 (20 + t))) (nI 0) = (0, 6) := by decide +kernel
theorem zq_1_1 : ∀ t, t < 32 → qPeriod (lv (Z1 (20 + t))) (nI 1) = (0, 12) := by decide +kernel
theorem zq_1_2 : ∀ t, t < 32 → qPeriod (lv (Z1 (20 + t))) (nI 2) = (0, 30) := by decide +kernel
theorem zq_1_3 : ∀ t, t < 32 → qPeriod (lv (Z1 (20 + t))) (nI 3) = (0, 59) := by decide +kernel
theorem zq_1_4 : ∀ t, t < 32 → qClass (lv (Z1 (20 + t))) (nI 3) = (0, 2) := by decide +kernel
theorem zq_1_5 : ∀ t, t < 32 → qStart (lv (Z1 (20 + t))) (nI 1) = (0, 3) := by decide +kernel
theorem zq_1_6 : ∀ t, t < 32 → qRec (lv (Z1 (20 + t))) 36 (nI 0) = (0, (20 + t)) := by decide +kernel
theorem zq_1_7 : ∀ t, t < 32 → qRec (lv (Z1 (20 + t))) 39 (nI 0) = (0, 0) := by decide +kernel
theorem zq_1_8 : ∀ t, t < 32 → qMeet (lv (Z1 (20 + t))) (nI 0) (nI 1) = (3, 0) := by decide +kernel
theorem zq_1_9 : ∀ t, t < 32 → qMeet (lv (Z1 (20 + t))) (nI 0) (nI 2) = (2, 0) := by decide +kernel
theorem zq_1_10 : ∀ t, t < 32 → qCycle (lv (Z1 (20 + t))) (nI 1) (nI 2) = (0, 60) := by decide +kernel
theorem zq_1_11 : ∀ t, t < 32 → qMeet (lv (Z1 (20 + t))) (nI 0) (nI 0) = (0, 6) := by decide +kernel
theorem zq_1_12 : ∀ t, t < 32 → qRest (lv (Z1 (20 + t))) (nI 1) = (0, 99) := by decide +kernel
theorem zq_1_13 : ∀ t, t < 32 → qLeft (lv (Z1 (20 + t))) (nI 1) = (0, 8) := by decide +kernel
theorem zq_2_0 : ∀ t, t < 32 → qMeet (lv (Z2 (20 + t))) (nI 1) (nI 2) = (0, 63) := by decide +kernel
theorem zq_2_1 : ∀ t, t < 32 → qMeet (lv (Z2 (20 + t))) (nI 2) (nI 1) = (0, 63) := by decide +kernel
theorem zq_3_0 : ∀ t, t < 32 → qNum (lv (Z3 (20 + t))) 12 (nI 0) = (0, am (20 + t)) := by decide +kernel
theorem zq_3_1 : ∀ t, t < 32 → qNum (lv (Z3 (20 + t))) 28 (nI 0) = (0, 1) := by decide +kernel
theorem zq_3_2 : ∀ t, t < 32 → qAfter (lv (Z3 (20 + t))) (nI 1) (nI 8) = (0, 8) := by decide +kernel
theorem zq_3_3 : ∀ t, t < 32 → qAfter (lv (Z3 (20 + t))) (nI 1) (nI 9) = (0, 7) := by decide +kernel
theorem zq_3_4 : ∀ t, t < 32 → qRank (lv (Z3 (20 + t))) (nI 0) = (0, 0) := by decide +kernel
theorem zq_3_5 : ∀ t, t < 32 → qRank (lv (Z3 (20 + t))) (nI 3) = (0, 3) := by decide +kernel
theorem zq_7_0 : ∀ t, t < 32 → qRelay (lv (Z7 (20 + t))) = (0, 5) := by decide +kernel
theorem zq_7_1 : ∀ t, t < 32 → qRunner (lv (Z7 (20 + t))) (nI 0) = (0, 0) := by decide +kernel
theorem zq_7_2 : ∀ t, t < 32 → qRunner (lv (Z7 (20 + t))) (nI 1) = (0, 1) := by decide +kernel
theorem zq_7_3 : ∀ t, t < 32 → qRunner (lv (Z7 (20 + t))) (nI 2) = (0, 3) := by decide +kernel
theorem zq_7_4 : ∀ t, t < 32 → qRunner (lv (Z7 (20 + t))) (nI 3) = (1, 0) := by decide +kernel
theorem zq_7_5 : ∀ t, t < 32 → qMean (lv (Z7 (20 + t))) = (0, FP.ddiv (FP.i2d (nI (am (20 + t) + 8))) (FP.i2d (nI 2))) := by decide +kernel
theorem zq_8_0 : ∀ t, t < 32 → qRelay (lv (Z8 (20 + t))) = (0, 1) := by decide +kernel
theorem zq_8_1 : ∀ t, t < 32 → qRunner (lv (Z8 (20 + t))) (nI 0) = (0, 1) := by decide +kernel
theorem zq_8_2 : ∀ t, t < 32 → qFew (lv (Z8 (20 + t))) (nI 28) = (0, 1) := by decide +kernel
theorem zq_8_3 : ∀ t, t < 32 → qFew (lv (Z8 (20 + t))) (nI 29) = (0, 2) := by decide +kernel
theorem zq_8_4 : ∀ t, t < 32 → qFew (lv (Z8 (20 + t))) (nI 42) = (0, 2) := by decide +kernel
theorem zq_8_5 : ∀ t, t < 32 → qFew (lv (Z8 (20 + t))) (nI 49) = (0, 4) := by decide +kernel
theorem zq_8_6 : ∀ t, t < 32 → qFew (lv (Z8 (20 + t))) (nI 50) = (2, 0) := by decide +kernel
theorem zq_8_7 : ∀ t, t < 32 → qExa (lv (Z8 (20 + t))) (nI 28) = (0, 1) := by decide +kernel
theorem zq_8_8 : ∀ t, t < 32 → qExa (lv (Z8 (20 + t))) (nI 47) = (0, 1) := by decide +kernel
theorem zq_8_9 : ∀ t, t < 32 → qExa (lv (Z8 (20 + t))) (nI 3) = (0, 0) := by decide +kernel
theorem zq_8_10 : ∀ t, t < 32 → qFew (lv (Z8 (20 + t))) (nI 0) = (1, 0) := by decide +kernel
theorem zq_8_11 : ∀ t, t < 32 → qCard (lv (Z8 (20 + t))) (nI 2) = (0, T238) := by decide +kernel
theorem zq_8_12 : ∀ t, t < 32 → qCard (lv (Z8 (20 + t))) (nI 0) = (0, TC (20 + t)) := by decide +kernel
theorem zp_0 : prO (lv Z0) (lv Z0 2) = 0 := by decide +kernel
theorem zp_1 : ∀ t, t < 32 → prO (lv (Z1 (20 + t))) (lv (Z1 (20 + t)) 2) = 0 := by decide +kernel
theorem zp_2 : ∀ t, t < 32 → prO (lv (Z2 (20 + t))) (lv (Z2 (20 + t)) 2) = 1 := by decide +kernel
theorem zp_4 : ∀ t, t < 32 → prO (lv (Z4 (20 + t))) (lv (Z4 (20 + t)) 2) = 0 := by decide +kernel
theorem z_f5 : lv Z0 1 = 5 := rfl
theorem z_c6 (a : Nat) : lv (Z3 a) 0 = 6 := rfl
theorem z_l3 (a : Nat) : lv (Z7 a) 3 = 3 := rfl
theorem z_mean : ∀ t, t < 32 → FP.dcmp (FP.ddiv (FP.i2d (nI (am (20 + t) + 8))) (FP.i2d (nI 2))) (FP.ddiv (FP.i2d (nI (am (20 + t) + 8))) 4611686018427387904) = FP.dcmp 0 0 := by decide +kernel
