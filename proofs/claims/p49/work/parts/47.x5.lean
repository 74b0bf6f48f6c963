/-! the class' reading: words first -/
def wdL : Nat → List Nat
  | 0 => [104, 97, 110, 103, 32]
  | 1 => [112, 117, 115, 104, 32]
  | 2 => [99, 97, 116, 99, 104, 32]
  | 3 => [102, 114, 105, 99, 116, 105, 111, 110, 32]
  | 4 => [108, 101, 103, 32]
  | 5 => [99, 117, 116, 32]
  | _ => [116, 105, 99, 107, 32]
/-- how many signs fit -/
def fitL (tn : Nat) (tx : Nat → Nat) : List Nat → Nat → Nat
  | [], _ => 0
  | c :: cs, sp => if hN tn tx sp = c then fitL tn tx cs (sp + 1) + 1 else 0
def fitW (tn : Nat) (tx : Nat → Nat) (sp w : Nat) : Nat := fitL tn tx (wdL w) sp
theorem fit_le {tn : Nat} {tx : Nat → Nat} : ∀ cs sp, fitL tn tx cs sp ≤ cs.length := by
  intro cs
  induction cs with
  | nil => intro sp; exact Nat.le_refl _
  | cons c cs ih =>
    intro sp
    unfold fitL
    have := ih (sp + 1)
    split
    · show _ + 1 ≤ cs.length + 1; omega
    · exact Nat.zero_le _
def needL (tn : Nat) (tx : Nat → Nat) : List Nat → Nat × Bool → Nat × Bool
  | [], p => p
  | c :: cs, p => needL tn tx cs (needN tn tx p c)
theorem needL_t {tn : Nat} {tx : Nat → Nat} : ∀ cs q, needL tn tx cs (q, true) = (q, true) := by
  intro cs
  induction cs with
  | nil => intro q; rfl
  | cons c cs ih =>
    intro q
    show needL tn tx cs (needN tn tx (q, true) c) = _
    have e : needN tn tx (q, true) c = (q, true) := if_neg (fun z => Bool.noConfusion z.1)
    rw [e, ih]
theorem needL_fit {tn : Nat} {tx : Nat → Nat} : ∀ cs sp, needL tn tx cs (sp, false) = (sp + fitL tn tx cs sp, decide (fitL tn tx cs sp ≠ cs.length)) := by
  intro cs
  induction cs with
  | nil => intro sp; rfl
  | cons c cs ih =>
    intro sp
    show needL tn tx cs (needN tn tx (sp, false) c) = _
    unfold fitL
    by_cases h : hN tn tx sp = c
    · have e : needN tn tx (sp, false) c = (sp + 1, false) := if_pos ⟨rfl, h⟩
      rw [e, ih, if_pos h]
      refine Prod.ext ?_ ?_
      · show sp + 1 + _ = sp + (_ + 1); omega
      · show decide _ = decide _
        congr 1
        show (¬ _ = cs.length) = ¬ (_ + 1 = cs.length + 1)
        rw [Nat.add_right_cancel_iff]
    · have e : needN tn tx (sp, false) c = (sp, true) := if_neg (fun z => h z.2)
      rw [e, needL_t, if_neg h]
      refine Prod.ext rfl ?_
      show true = decide (0 ≠ cs.length + 1)
      exact (decide_eq_true (by omega)).symm
/-- digits, from p on -/
def dgP (tn : Nat) (tx : Nat → Nat) (most : Nat) (p : Nat × Bool) : Nat × (Nat × Bool) :=
  if p.2 = false ∧ isD (hN tn tx p.1) = true then ((runN tn tx most 0 p.1).1, ((runN tn tx most 0 p.1).2, false)) else (0, (p.1, true))
theorem digN_eq {tn most : Nat} {tx : Nat → Nat} {p : Nat × Bool} : digN tn tx most p = dgP tn tx most (needN tn tx p 32) := rfl
/-- what follows the word w, from q on -/
def wcN (tn : Nat) (tx : Nat → Nat) (w : Nat) (p : Nat × Bool) : (Nat × Nat × Nat) × (Nat × Bool) :=
  if w = 0 then ((104, (dgP tn tx 3 p).1, 0), (dgP tn tx 3 p).2)
  else if w = 1 then ((112, (dgP tn tx 1 p).1, (dgP tn tx 3 (needN tn tx (dgP tn tx 1 p).2 32)).1), (dgP tn tx 3 (needN tn tx (dgP tn tx 1 p).2 32)).2)
  else if w = 2 then ((99, (dgP tn tx 1 p).1, 0), (dgP tn tx 1 p).2)
  else if w = 3 then ((102, (dgP tn tx 3 p).1, 0), (dgP tn tx 3 p).2)
  else if w = 4 then ((108, (dgP tn tx 3 p).1, 0), (dgP tn tx 3 p).2)
  else if w = 5 then ((117, (dgP tn tx 1 p).1, 0), (dgP tn tx 1 p).2)
  else ((116, (dgP tn tx 3 p).1, 0), (dgP tn tx 3 p).2)
theorem wc_t {tn q : Nat} {tx : Nat → Nat} {w : Nat} : (wcN tn tx w (q, true)).2 = (q, true) := by
  have d : ∀ m, dgP tn tx m (q, true) = (0, (q, true)) := fun m => if_neg (fun z => Bool.noConfusion z.1)
  have e : needN tn tx (q, true) 32 = (q, true) := if_neg (fun z => Bool.noConfusion z.1)
  unfold wcN
  rw [d, d]
  simp only [e, d]
  (repeat' split) <;> rfl
/-- the first sign's word -/
theorem cmd_w {tn sp : Nat} {tx : Nat → Nat} :
    (hN tn tx sp = 104 → cmdN tn tx sp = wcN tn tx 0 (needL tn tx (wdL 0) (sp, false))) ∧
    (hN tn tx sp = 112 → cmdN tn tx sp = wcN tn tx 1 (needL tn tx (wdL 1) (sp, false))) ∧
    (hN tn tx sp = 99 → hN tn tx (sp + 1) ≠ 117 → cmdN tn tx sp = wcN tn tx 2 (needL tn tx (wdL 2) (sp, false))) ∧
    (hN tn tx sp = 102 → cmdN tn tx sp = wcN tn tx 3 (needL tn tx (wdL 3) (sp, false))) ∧
    (hN tn tx sp = 108 → cmdN tn tx sp = wcN tn tx 4 (needL tn tx (wdL 4) (sp, false))) ∧
    (hN tn tx sp = 99 → hN tn tx (sp + 1) = 117 → cmdN tn tx sp = wcN tn tx 5 (needL tn tx (wdL 5) (sp, false))) ∧
    (hN tn tx sp = 116 → cmdN tn tx sp = wcN tn tx 6 (needL tn tx (wdL 6) (sp, false))) := by
  have e1 : ∀ c, hN tn tx sp = c → needN tn tx (sp, false) c = (sp + 1, false) := fun c h => if_pos ⟨rfl, h⟩
  refine ⟨fun h => ?_, fun h => ?_, fun h h2 => ?_, fun h => ?_, fun h => ?_, fun h h2 => ?_, fun h => ?_⟩
  · rw [show needL tn tx (wdL 0) (sp, false) = needN tn tx (need3 tn tx (needN tn tx (sp, false) 104) 97 110 103) 32 from rfl, e1 _ h]; unfold cmdN; rw [if_pos h]; rfl
  · rw [show needL tn tx (wdL 1) (sp, false) = needN tn tx (need3 tn tx (needN tn tx (sp, false) 112) 117 115 104) 32 from rfl, e1 _ h]; unfold cmdN; rw [if_neg (by omega), if_pos h]; rfl
  · rw [show needL tn tx (wdL 2) (sp, false) = needN tn tx (needN tn tx (need3 tn tx (needN tn tx (sp, false) 99) 97 116 99) 104) 32 from rfl, e1 _ h]; unfold cmdN; rw [if_neg (by omega), if_neg (by omega), if_pos h]; unfold pcN; rw [if_neg h2]; rfl
  · rw [show needL tn tx (wdL 3) (sp, false) = needN tn tx (needN tn tx (need3 tn tx (need3 tn tx (needN tn tx (sp, false) 102) 114 105 99) 116 105 111) 110) 32 from rfl, e1 _ h]; unfold cmdN; rw [if_neg (by omega), if_neg (by omega), if_neg (by omega), if_pos h]; rfl
  · rw [show needL tn tx (wdL 4) (sp, false) = needN tn tx (needN tn tx (needN tn tx (needN tn tx (sp, false) 108) 101) 103) 32 from rfl, e1 _ h]; unfold cmdN; rw [if_neg (by omega), if_neg (by omega), if_neg (by omega), if_neg (by omega), if_pos h]; rfl
  · rw [show needL tn tx (wdL 5) (sp, false) = needN tn tx (needN tn tx (needN tn tx (needN tn tx (sp, false) 99) 117) 116) 32 from rfl, e1 _ h]; unfold cmdN; rw [if_neg (by omega), if_neg (by omega), if_pos h]; unfold pcN; rw [if_pos h2]; rfl
  · rw [show needL tn tx (wdL 6) (sp, false) = needN tn tx (need3 tn tx (needN tn tx (sp, false) 116) 105 99 107) 32 from rfl, e1 _ h]; unfold cmdN; rw [if_neg (by omega), if_neg (by omega), if_neg (by omega), if_neg (by omega), if_neg (by omega), if_pos h]; rfl
/-- the greatest fitting of the words below w -/
def mxF (tn : Nat) (tx : Nat → Nat) (sp : Nat) : Nat → Nat
  | 0 => 0
  | w + 1 => max (mxF tn tx sp w) (fitW tn tx sp w)
theorem fit_0 {tn sp c : Nat} {tx : Nat → Nat} {cs : List Nat} (h : hN tn tx sp ≠ c) : fitL tn tx (c :: cs) sp = 0 := if_neg h
theorem fit_1 {tn sp c : Nat} {tx : Nat → Nat} {cs : List Nat} (h : hN tn tx sp = c) : fitL tn tx (c :: cs) sp = fitL tn tx cs (sp + 1) + 1 := if_pos h
/-- words' first signs: at most one word can fit wholly, and it is the one of the first sign -/
theorem fit_hd {tn : Nat} {tx : Nat → Nat} {sp : Nat} : ∀ L : List Nat, 0 < fitL tn tx L sp → hN tn tx sp = L.getD 0 0 := by
  intro L h
  cases L with
  | nil => exact absurd h (Nat.lt_irrefl 0)
  | cons c cs =>
    apply Classical.byContradiction
    intro z
    have z : hN tn tx sp ≠ c := z
    rw [fit_0 z] at h
    omega
theorem fit_first {tn sp w : Nat} {tx : Nat → Nat} (h : 0 < fitW tn tx sp w) : hN tn tx sp = (wdL w).getD 0 0 := fit_hd _ h
theorem fit_c {tn sp : Nat} {tx : Nat → Nat} (h : hN tn tx sp = 99) : (hN tn tx (sp + 1) = 117 → fitW tn tx sp 2 = 1 ∧ 2 ≤ fitW tn tx sp 5) ∧ (hN tn tx (sp + 1) ≠ 117 → fitW tn tx sp 5 = 1 ∧ 1 ≤ fitW tn tx sp 2) := by
  refine ⟨fun z => ⟨?_, ?_⟩, fun z => ⟨?_, ?_⟩⟩
  · show fitL tn tx [99, 97, 116, 99, 104, 32] sp = 1
    rw [fit_1 h, fit_0 (by omega)]
  · show 2 ≤ fitL tn tx [99, 117, 116, 32] sp
    rw [fit_1 h, fit_1 z]; omega
  · show fitL tn tx [99, 117, 116, 32] sp = 1
    rw [fit_1 h, fit_0 z]
  · show 1 ≤ fitL tn tx [99, 97, 116, 99, 104, 32] sp
    rw [fit_1 h]; omega
/-- the word that fits wholly makes the command -/
theorem cmd_some {tn sp w : Nat} {tx : Nat → Nat} (hw : w < 7) (h : fitW tn tx sp w = (wdL w).length) : cmdN tn tx sp = wcN tn tx w (sp + (wdL w).length, false) := by
  have hl : 0 < (wdL w).length := by unfold wdL; split <;> exact Nat.le_of_ble_eq_true rfl
  have h1 := fit_first (tn := tn) (tx := tx) (sp := sp) (w := w) (by omega)
  have e : needL tn tx (wdL w) (sp, false) = (sp + (wdL w).length, false) := by
    rw [needL_fit]
    show (sp + fitW tn tx sp w, decide (fitW tn tx sp w ≠ _)) = _
    rw [h, decide_eq_false (fun z => z rfl)]
  obtain ⟨a0, a1, a2, a3, a4, a5, a6⟩ := cmd_w (tn := tn) (tx := tx) (sp := sp)
  have h2 : w = 2 → hN tn tx (sp + 1) ≠ 117 := fun z y => by
    subst z
    have := ((fit_c h1).1 y).1
    rw [h] at this
    exact absurd this (by decide)
  have h5 : w = 5 → hN tn tx (sp + 1) = 117 := fun z => by
    subst z
    apply Classical.byContradiction
    intro y
    have := ((fit_c h1).2 y).1
    rw [h] at this
    exact absurd this (by decide)
  rcases (by omega : w = 0 ∨ w = 1 ∨ w = 2 ∨ w = 3 ∨ w = 4 ∨ w = 5 ∨ w = 6) with rfl | rfl | rfl | rfl | rfl | rfl | rfl
  · exact (a0 h1).trans (by rw [e])
  · exact (a1 h1).trans (by rw [e])
  · exact (a2 h1 (h2 rfl)).trans (by rw [e])
  · exact (a3 h1).trans (by rw [e])
  · exact (a4 h1).trans (by rw [e])
  · exact (a5 h1 (h5 rfl)).trans (by rw [e])
  · exact (a6 h1).trans (by rw [e])
/-- no word fits wholly: the longest fitting tells the place of the error -/
theorem cmd_none {tn sp : Nat} {tx : Nat → Nat} (h : ∀ w, w < 7 → fitW tn tx sp w ≠ (wdL w).length) : (cmdN tn tx sp).2 = (sp + mxF tn tx sp 7, true) := by
  obtain ⟨a0, a1, a2, a3, a4, a5, a6⟩ := cmd_w (tn := tn) (tx := tx) (sp := sp)
  have z : ∀ w, hN tn tx sp ≠ (wdL w).getD 0 0 → fitW tn tx sp w = 0 := fun w hw => by
    rcases Nat.eq_zero_or_pos (fitW tn tx sp w) with y | y
    · exact y
    · exact absurd (fit_first y) hw
  have key : ∀ w, w < 7 → cmdN tn tx sp = wcN tn tx w (needL tn tx (wdL w) (sp, false)) → mxF tn tx sp 7 = fitW tn tx sp w → (cmdN tn tx sp).2 = (sp + mxF tn tx sp 7, true) := fun w hw hc hm => by
    rw [hc, needL_fit]
    show (wcN tn tx w (sp + fitW tn tx sp w, decide (fitW tn tx sp w ≠ _))).2 = _
    rw [decide_eq_true (h w hw), wc_t, hm]
  have mx : mxF tn tx sp 7 = max (max (max (max (max (max (max 0 (fitW tn tx sp 0)) (fitW tn tx sp 1)) (fitW tn tx sp 2)) (fitW tn tx sp 3)) (fitW tn tx sp 4)) (fitW tn tx sp 5)) (fitW tn tx sp 6) := rfl
  have g : ∀ w c, (wdL w).getD 0 0 = c → hN tn tx sp ≠ c → fitW tn tx sp w = 0 := fun w c e hne => z w (by rw [e]; exact hne)
  have z0 := g 0 104 rfl
  have z1 := g 1 112 rfl
  have z2 := g 2 99 rfl
  have z3 := g 3 102 rfl
  have z4 := g 4 108 rfl
  have z5 := g 5 99 rfl
  have z6 := g 6 116 rfl
  by_cases c0 : hN tn tx sp = 104
  · have := z1 (by omega); have := z2 (by omega); have := z3 (by omega); have := z4 (by omega); have := z5 (by omega); have := z6 (by omega)
    exact key 0 (by decide) (a0 c0) (by rw [mx]; omega)
  · by_cases c1 : hN tn tx sp = 112
    · have := z0 (by omega); have := z2 (by omega); have := z3 (by omega); have := z4 (by omega); have := z5 (by omega); have := z6 (by omega)
      exact key 1 (by decide) (a1 c1) (by rw [mx]; omega)
    · by_cases c2 : hN tn tx sp = 99
      · have := z0 (by omega); have := z1 (by omega); have := z3 (by omega); have := z4 (by omega); have := z6 (by omega)
        obtain ⟨u1, u2⟩ := fit_c c2
        by_cases c5 : hN tn tx (sp + 1) = 117
        · have := u1 c5
          exact key 5 (by decide) (a5 c2 c5) (by rw [mx]; omega)
        · have := u2 c5
          exact key 2 (by decide) (a2 c2 c5) (by rw [mx]; omega)
      · have := z2 (by omega); have := z5 (by omega); have := z0 (by omega); have := z1 (by omega)
        by_cases c3 : hN tn tx sp = 102
        · have := z4 (by omega); have := z6 (by omega)
          exact key 3 (by decide) (a3 c3) (by rw [mx]; omega)
        · have := z3 (by omega)
          by_cases c4 : hN tn tx sp = 108
          · have := z6 (by omega)
            exact key 4 (by decide) (a4 c4) (by rw [mx]; omega)
          · have := z4 (by omega)
            by_cases c6 : hN tn tx sp = 116
            · exact key 6 (by decide) (a6 c6) (by rw [mx]; omega)
            · have := z6 (by omega)
              have em : mxF tn tx sp 7 = 0 := by rw [mx]; omega
              rw [em]
              unfold cmdN
              rw [if_neg c0, if_neg c1, if_neg c2, if_neg c3, if_neg c4, if_neg c6]
              rfl
theorem fit_tn {tn : Nat} {tx : Nat → Nat} : ∀ (cs : List Nat) (sp : Nat), (∀ c ∈ cs, c ≠ 0) → sp ≤ tn → sp + fitL tn tx cs sp ≤ tn := by
  intro cs
  induction cs with
  | nil => intro sp _ h; exact h
  | cons c cs ih =>
    intro sp hc h
    unfold fitL
    by_cases e : hN tn tx sp = c
    · rw [if_pos e]
      have hlt : sp < tn := by
        apply Classical.byContradiction
        intro z
        unfold hN at e
        rw [if_neg z] at e
        exact hc c List.mem_cons_self e.symm
      have := ih (sp + 1) (fun x hx => hc x (List.mem_cons_of_mem _ hx)) hlt
      omega
    · rw [if_neg e]; exact h
theorem wd_0 (w : Nat) : ∀ c ∈ wdL w, c ≠ 0 := by
  unfold wdL
  split <;> decide
theorem fitW_tn {tn sp w : Nat} {tx : Nat → Nat} (h : sp ≤ tn) : sp + fitW tn tx sp w ≤ tn := fit_tn _ _ (wd_0 w) h
theorem mx_tn {tn sp : Nat} {tx : Nat → Nat} (h : sp ≤ tn) : ∀ w, sp + mxF tn tx sp w ≤ tn := by
  intro w
  induction w with
  | zero => exact h
  | succ w ih =>
    have := fitW_tn (tx := tx) (w := w) h
    show sp + max (mxF tn tx sp w) (fitW tn tx sp w) ≤ tn
    omega
theorem hN_lt8 {tn sp c : Nat} {tx : Nat → Nat} (h : hN tn tx sp = c) (hc : c ≠ 0) : sp < tn := by
  apply Classical.byContradiction
  intro z
  unfold hN at h
  rw [if_neg z] at h
  exact hc h.symm
theorem isD_of8 {h : Nat} (e : isD h = true) : 48 ≤ h ∧ h ≤ 57 := of_decide_eq_true e
theorem run_tn {tn : Nat} {tx : Nat → Nat} : ∀ m v sp, sp ≤ tn → (runN tn tx m v sp).2 ≤ tn := by
  intro m
  induction m with
  | zero => intro v sp h; exact h
  | succ m ih =>
    intro v sp h
    unfold runN
    by_cases e : isD (hN tn tx sp) = true
    · rw [if_pos e]
      have h1 := isD_of8 e
      have h2 : sp < tn := by
        apply Classical.byContradiction
        intro z
        unfold hN at h1
        rw [if_neg z] at h1
        omega
      exact ih _ _ h2
    · rw [if_neg e]; exact h
theorem dg_tn {tn m : Nat} {tx : Nat → Nat} {p : Nat × Bool} (h : p.1 ≤ tn) : (dgP tn tx m p).2.1 ≤ tn := by
  unfold dgP
  split
  · exact run_tn _ _ _ h
  · exact h
theorem need_tn {tn c : Nat} {tx : Nat → Nat} {p : Nat × Bool} (h : p.1 ≤ tn) (hc : c ≠ 0) : (needN tn tx p c).1 ≤ tn := by
  unfold needN
  split
  · next z => exact hN_lt8 z.2 hc
  · exact h
theorem wc_tn {tn w : Nat} {tx : Nat → Nat} {p : Nat × Bool} (h : p.1 ≤ tn) : (wcN tn tx w p).2.1 ≤ tn := by
  unfold wcN
  (repeat' split) <;> first | exact dg_tn h | exact dg_tn (need_tn (dg_tn h) (by decide))
/-- which word fits, if one does -/
theorem word_or {tn sp : Nat} {tx : Nat → Nat} : (∃ w, w < 7 ∧ fitW tn tx sp w = (wdL w).length) ∨ ∀ w, w < 7 → fitW tn tx sp w ≠ (wdL w).length := by
  by_cases h : ∃ w, w < 7 ∧ fitW tn tx sp w = (wdL w).length
  · exact Or.inl h
  · exact Or.inr (fun w hw z => h ⟨w, hw, z⟩)
theorem cmd_tn {tn sp : Nat} {tx : Nat → Nat} (h : sp ≤ tn) : (cmdN tn tx sp).2.1 ≤ tn := by
  rcases word_or (tn := tn) (sp := sp) (tx := tx) with ⟨w, hw, hf⟩ | hn
  · rw [cmd_some hw hf]
    refine wc_tn ?_
    show sp + _ ≤ tn
    rw [← hf]; exact fitW_tn h
  · rw [cmd_none hn]; exact mx_tn h 7
/-- a command as the class keeps it: word, digit, number -/
def wcE (c : Nat × Nat × Nat) : Nat × Nat × Nat :=
  if c.1 = 104 then (0, 0, c.2.1) else if c.1 = 112 then (1, c.2.1, c.2.2) else if c.1 = 99 then (2, c.2.1, 0) else if c.1 = 102 then (3, 0, c.2.1) else if c.1 = 108 then (4, 0, c.2.1) else if c.1 = 117 then (5, c.2.1, 0) else (6, 0, c.2.1)
def CE (A : Nat → Nat → Int32) (g : Nat → Option Nat) (i : Nat) (c : Nat × Nat × Nat) : Prop := g i = some ((wcE c).1 + 1) ∧ A 1 i = nI (wcE c).2.1 ∧ A 2 i = nI (wcE c).2.2
/-- readDigits: answer, place -/
def rgI (tn : Nat) (tx : Nat → Nat) (m sp : Nat) : Int32 := if isD (hN tn tx sp) = true then nI (runN tn tx m 0 sp).1 else -1
def rgP (tn : Nat) (tx : Nat → Nat) (m sp : Nat) : Nat := if isD (hN tn tx sp) = true then (runN tn tx m 0 sp).2 else sp
theorem dg_y {tn m sp : Nat} {tx : Nat → Nat} (h : isD (hN tn tx sp) = true) : dgP tn tx m (sp, false) = ((runN tn tx m 0 sp).1, (rgP tn tx m sp, false)) := by
  unfold dgP rgP
  rw [if_pos ⟨rfl, h⟩, if_pos h]
theorem dg_n {tn m sp : Nat} {tx : Nat → Nat} (h : isD (hN tn tx sp) ≠ true) : dgP tn tx m (sp, false) = (0, (rgP tn tx m sp, true)) := by
  unfold dgP rgP
  rw [if_neg (fun z => h z.2), if_neg h]
theorem run_v {tn : Nat} {tx : Nat → Nat} : ∀ m v sp, (runN tn tx m v sp).1 ≤ (v + 1) * 10 ^ m := by
  intro m
  induction m with
  | zero => intro v sp; show v ≤ (v + 1) * 1; omega
  | succ m ih =>
    intro v sp
    unfold runN
    have hp : 10 ^ (m + 1) = 10 * 10 ^ m := by rw [Nat.pow_succ, Nat.mul_comm]
    by_cases e : isD (hN tn tx sp) = true
    · rw [if_pos e]
      have h1 := isD_of8 e
      have h2 := ih (10 * v + hN tn tx sp - 48) (sp + 1)
      have h3 : (10 * v + hN tn tx sp - 48 + 1) * 10 ^ m ≤ (10 * (v + 1)) * 10 ^ m := Nat.mul_le_mul_right _ (by omega)
      have h4 : 10 * (v + 1) * 10 ^ m = (v + 1) * 10 ^ (m + 1) := by rw [hp, Nat.mul_comm 10 (v + 1), Nat.mul_assoc]
      omega
    · rw [if_neg e]
      show v ≤ (v + 1) * 10 ^ (m + 1)
      have : 1 ≤ 10 ^ (m + 1) := Nat.one_le_pow _ _ (by decide)
      have h9 : v * 1 ≤ (v + 1) * 10 ^ (m + 1) := Nat.mul_le_mul (by omega) this
      omega
theorem drop_c {L : List Nat} {k : Nat} (h : k < L.length) : L.drop k = L.getD k 0 :: L.drop (k + 1) := by
  rw [List.drop_eq_getElem_cons h, List.getD_eq_getElem?_getD, List.getElem?_eq_getElem h]; rfl
theorem fit_y {tn sp k : Nat} {tx : Nat → Nat} {L : List Nat} (h : k < L.length) (e : hN tn tx (sp + k) = L.getD k 0) : fitL tn tx (L.drop k) (sp + k) = fitL tn tx (L.drop (k + 1)) (sp + (k + 1)) + 1 := by
  rw [drop_c h]; exact if_pos e
theorem fit_n {tn sp k : Nat} {tx : Nat → Nat} {L : List Nat} (h : k < L.length) (e : hN tn tx (sp + k) ≠ L.getD k 0) : fitL tn tx (L.drop k) (sp + k) = 0 := by
  rw [drop_c h]; exact if_neg e
theorem fit_e {tn sp k : Nat} {tx : Nat → Nat} {L : List Nat} (h : L.length ≤ k) : fitL tn tx (L.drop k) (sp + k) = 0 := by
  rw [List.drop_eq_nil_of_le h]; rfl
/-! the class' Program: object o, arrays o+1 .. o+4; I: 4 length 5 commands 6 position; A 0 text, A 1 digits, A 2 numbers; g words -/
def pFs (o : Nat) (I : Nat → Int32) : List Value := [.ref (o + 1), .ref (o + 2), .ref (o + 3), .ref (o + 4), .int (I 4), .int (I 5), .int (I 6)]
def pC (o : Nat) (I : Nat → Int32) (A : Nat → Nat → Int32) (g : Nat → Option Nat) : Nat → va_E := fun j => match j with
  | 0 => .inr (3, pFs o I)
  | 1 => .inl (1, (60, .inl (A 0)))
  | 2 => .inl (6, (60, .inr (.inr (.inr (.inr g)))))
  | 3 => .inl (0, (60, .inl (A 1)))
  | 4 => .inl (0, (60, .inl (A 2)))
  | _ => nilc
abbrev pU (f : HT) (o : Nat) (I : Nat → Int32) (A : Nat → Nat → Int32) (g : Nat → Option Nat) : HT := rU f o 5 (pC o I A g)
section PR9
variable {f : HT} {o : Nat} {I : Nat → Int32} {A : Nat → Nat → Int32} {g : Nat → Option Nat}
theorem pU_0 : pU f o I A g o = .inr (3, pFs o I) := rU_at 0 (by decide)
theorem pU_1 : pU f o I A g (o + 1) = .inl (1, (60, .inl (A 0))) := rU_at 1 (by decide)
theorem pU_2 : pU f o I A g (o + 2) = .inl (6, (60, .inr (.inr (.inr (.inr g))))) := rU_at 2 (by decide)
theorem pU_3 : pU f o I A g (o + 3) = .inl (0, (60, .inl (A 1))) := rU_at 3 (by decide)
theorem pU_4 : pU f o I A g (o + 4) = .inl (0, (60, .inl (A 2))) := rU_at 4 (by decide)
theorem pU_A0 {h : Nat → Int32} : va_up (pU f o I A g) (o + 1) (.inl (1, (60, .inl h))) = pU f o I (va_up A 0 h) g := (rU_up 1 (by decide) _).trans (rU_ext fun j hj => by
  match j, hj with
  | 0, _ => exact up_ne (by decide)
  | 1, _ => exact up_self
  | 2, _ => exact up_ne (by decide)
  | 3, _ => exact (up_ne (by decide)).trans rfl
  | 4, _ => exact (up_ne (by decide)).trans rfl
  | j + 5, h => omega)
theorem pU_W {h : Nat → Option Nat} : va_up (pU f o I A g) (o + 2) (.inl (6, (60, .inr (.inr (.inr (.inr h)))))) = pU f o I A h := (rU_up 2 (by decide) _).trans (rU_ext fun j hj => by
  match j, hj with
  | 0, _ => exact up_ne (by decide)
  | 1, _ => exact up_ne (by decide)
  | 2, _ => exact up_self
  | 3, _ => exact up_ne (by decide)
  | 4, _ => exact up_ne (by decide)
  | j + 5, h => omega)
theorem pU_A1 {h : Nat → Int32} : va_up (pU f o I A g) (o + 3) (.inl (0, (60, .inl h))) = pU f o I (va_up A 1 h) g := (rU_up 3 (by decide) _).trans (rU_ext fun j hj => by
  match j, hj with
  | 0, _ => exact up_ne (by decide)
  | 1, _ => exact (up_ne (by decide)).trans rfl
  | 2, _ => exact up_ne (by decide)
  | 3, _ => exact up_self
  | 4, _ => exact (up_ne (by decide)).trans rfl
  | j + 5, h => omega)
theorem pU_A2 {h : Nat → Int32} : va_up (pU f o I A g) (o + 4) (.inl (0, (60, .inl h))) = pU f o I (va_up A 2 h) g := (rU_up 4 (by decide) _).trans (rU_ext fun j hj => by
  match j, hj with
  | 0, _ => exact up_ne (by decide)
  | 1, _ => exact (up_ne (by decide)).trans rfl
  | 2, _ => exact up_ne (by decide)
  | 3, _ => exact (up_ne (by decide)).trans rfl
  | 4, _ => exact up_self
  | j + 5, h => omega)
theorem pU_I {k : Nat} {v : Int32} (hk : k = 4 ∨ k = 5 ∨ k = 6) : va_up (pU f o I A g) o (.inr (3, (pFs o I).set k (.int v))) = pU f o (va_up I k v) A g := (rU_up 0 (by decide) _).trans (rU_ext fun j hj => by
  match j, hj with
  | 0, _ =>
    rw [up_self]
    show _ = (Sum.inr (3, pFs o (va_up I k v)) : va_E)
    rcases hk with rfl | rfl | rfl <;> rfl
  | 1, _ => exact up_ne (by decide)
  | 2, _ => exact up_ne (by decide)
  | 3, _ => exact up_ne (by decide)
  | 4, _ => exact up_ne (by decide)
  | j + 5, h => omega)
variable {l : Launch} {G : GT} {M : MT} {fr lo mc ms : Nat} {Post : PT} {n0 nc ns pc : Nat} {L : List (Nat × Value)} {S : List Value} {n : Nat}
theorem aw_pput {ix k : Nat} {v : Int32} {ty : FieldType} (hF : FP M.1 ix 3 k ty) (hk : k = 4 ∨ k = 5 ∨ k = 6) (hn : narrow ty (.int v) = .int v) (hfit : fits ty (.int v) = true) (hdg : decode M.2.1 pc = .ok (.putfield ix, 3)) (kk : AW l G M fr lo mc ms Post n0 nc ns (pc + 3) L S (pU f o (va_up I k v) A g) n) : AW l G M fr lo mc ms Post n0 nc ns pc L (.int v :: .ref o :: S) (pU f o I A g) n := by
  refine aw_put hF pU_0 (fun _ => hn) (fun _ => hfit) (by show k < 7; omega) hdg ?_
  rw [pU_I hk]
  exact kk
end PR9
/-- the buffer -/
def TP9 (I : Nat → Int32) (A : Nat → Nat → Int32) (tn : Nat) (tx : Nat → Nat) : Prop := I 4 = nI tn ∧ tn ≤ 60 ∧ (∀ i, i < tn → A 0 i = nI (tx i)) ∧ ∀ i, i < tn → 32 ≤ tx i ∧ tx i ≤ 126
theorem TP9.mv {I I' : Nat → Int32} {A A' : Nat → Nat → Int32} {tn : Nat} {tx : Nat → Nat} (h : TP9 I A tn tx) (h4 : I' 4 = I 4) (h0 : A' 0 = A 0) : TP9 I' A' tn tx := ⟨h4.trans h.1, h.2.1, fun i hi => by rw [h0]; exact h.2.2.1 i hi, h.2.2.2⟩
theorem up_id6 {I : Nat → Int32} {k : Nat} {x : Int32} (h : I k = x) : va_up I k x = I := by rw [← h, up_A]
theorem hN_le {I : Nat → Int32} {A : Nat → Nat → Int32} {tn : Nat} {tx : Nat → Nat} (h : TP9 I A tn tx) (sp : Nat) : hN tn tx sp ≤ 126 := by
  unfold hN
  split
  · exact (h.2.2.2 sp (by assumption)).2
  · exact Nat.zero_le _
theorem hN_lt9 {tn sp : Nat} {tx : Nat → Nat} (h : isD (hN tn tx sp) = true) : sp < tn := by
  have h1 := isD_of8 h
  apply Classical.byContradiction
  intro z
  unfold hN at h1
  rw [if_neg z] at h1
  omega
abbrev MX5_isFull : MT := (RX5, cX5_isFull, 1, (some .boolean), [], "isFull")
set_option maxHeartbeats 4000000 in
theorem p_full {l : Launch} {G : GT} {n : Nat} {f : HT} {o : Nat} {I : Nat → Int32} {A : Nat → Nat → Int32} {g : Nat → Option Nat} {tn : Nat} {tx : Nat → Nat} (hT : TP9 I A tn tx) : AM l G yX5_isFull (.code yX5_isFull cX5_isFull 1 (some .boolean)) 0 0 0 0 [.ref o] (pU f o I A g) n (rI (bI (decide (60 ≤ tn))) (pU f o I A g) n) := by
  refine aw_enter (M := MX5_isFull) rfl rfl (by decide +kernel) rfl (Nat.le_of_ble_eq_true rfl) ?_
  have ht60 := hT.2.1
  show AW l G MX5_isFull 0 0 0 0 _ n 0 0 0 [(0, .ref o)] [] _ n
  refine aw_aload_n dX5_isFull_0 rfl rfl ?_
  refine aw_get (v := .int (nI tn)) fl_X5_28 pU_0 (congrArg (fun z => some (Value.int z)) (hT.1)) dX5_isFull_1 ?_
  refine aw_bipush_n 60 dX5_isFull_4 (by decide) ?_
  refine aw_icmp_lt_n (by omega) (by omega) (tgt := 13) dX5_isFull_6 (by decide) (fun c_1 => ?_) (fun c_1 => ?_)
  · refine aw_iconst_n 0 dX5_isFull_13 (by decide) ?_
    have e : decide (60 ≤ tn) = false := decide_eq_false (by omega)
    exact aw_zret rfl rfl (by decide) (by decide) dX5_isFull_14 (rI_of (by rw [e]; rfl))
  · refine aw_iconst_n 1 dX5_isFull_9 (by decide) ?_
    refine aw_goto (tgt := 14) dX5_isFull_10 (by decide) ?_
    have e : decide (60 ≤ tn) = true := decide_eq_true (by omega)
    exact aw_zret rfl rfl (by decide) (by decide) dX5_isFull_14 (rI_of (by rw [e]; rfl))
abbrev MX5_append : MT := (RX5, cX5_append, 2, (some .int), [], "append")
set_option maxHeartbeats 4000000 in
theorem p_append {l : Launch} {G : GT} {n : Nat} {f : HT} {o : Nat} {I : Nat → Int32} {A : Nat → Nat → Int32} {g : Nat → Option Nat} {tn : Nat} {tx : Nat → Nat} (hT : TP9 I A tn tx) {c : Nat} (hc : c < 128) (h60 : tn < 60) : AM l G yX5_append (.code yX5_append cX5_append 2 (some .int)) 1 60 0 0 [.ref o, .int (nI c)] (pU f o I A g) n (rI (nI (tn + 1)) (pU f o (va_up I 4 (nI (tn + 1))) (va_up A 0 (upd (A 0) tn (nI c))) g) n) := by
  refine aw_enter (M := MX5_append) rfl rfl (by decide +kernel) rfl (Nat.le_of_ble_eq_true rfl) ?_
  have ht60 := hT.2.1
  show AW l G MX5_append 1 60 0 0 _ n 0 0 0 [(0, .ref o), (1, .int (nI c))] [] _ n
  refine aw_aload_n dX5_append_0 rfl rfl ?_
  refine aw_vI (as := []) (rest := []) mV_X5_isFull (p_full hT) ml_X5_38 pU_0 rfl dX5_append_1 rfl rfl (by decide) (Nat.le_of_ble_eq_true rfl) (by decide) ?_
  refine aw_if_ne_b (tgt := 27) dX5_append_4 (by decide) (fun c_1 => by exfalso; have := of_decide_eq_true (p := 60 ≤ tn) (by simpa using c_1); omega) (fun c_1 => ?_)
  refine aw_aload_n dX5_append_7 rfl rfl ?_
  refine aw_get (v := .ref (o + 1)) fl_X5_9 pU_0 rfl dX5_append_8 ?_
  refine aw_aload_n dX5_append_11 rfl rfl ?_
  refine aw_get (v := .int (nI tn)) fl_X5_28 pU_0 (congrArg (fun z => some (Value.int z)) (hT.1)) dX5_append_12 ?_
  refine aw_iload_n dX5_append_15 rfl rfl ?_
  refine aw_cast_n (k := tn) pU_1 (by omega) (by decide) (c128_nar (by omega)) dX5_append_16 ?_
  rw [pU_A0]
  refine aw_aload_n dX5_append_17 rfl rfl ?_
  refine aw_dup dX5_append_18 rfl ?_
  refine aw_get (v := .int (nI tn)) fl_X5_28 pU_0 (congrArg (fun z => some (Value.int z)) (hT.1)) dX5_append_19 ?_
  refine aw_iconst_n 1 dX5_append_22 (by decide) ?_
  refine aw_iadd_n dX5_append_23 ?_
  refine aw_pput fp_X5_28 (by decide) rfl rfl dX5_append_24 ?_
  refine aw_aload_n dX5_append_27 rfl rfl ?_
  refine aw_get (v := .int (nI (tn + 1))) fl_X5_28 pU_0 (congrArg (fun z => some (Value.int z)) (up_self)) dX5_append_28 ?_
  exact aw_iret rfl (by decide) (by decide) dX5_append_31 (rI_of (by rfl))
abbrev MX5_empty : MT := (RX5, cX5_empty, 1, none, [], "empty")
set_option maxHeartbeats 4000000 in
theorem p_empty {l : Launch} {G : GT} {n : Nat} {f : HT} {o : Nat} {I : Nat → Int32} {A : Nat → Nat → Int32} {g : Nat → Option Nat} : AM l G yX5_empty (.code yX5_empty cX5_empty 1 none) 0 0 0 0 [.ref o] (pU f o I A g) n (rV (pU f o (va_up I 4 (nI 0)) A g) n) := by
  refine aw_enter (M := MX5_empty) rfl rfl (by decide +kernel) rfl (Nat.le_of_ble_eq_true rfl) ?_
  show AW l G MX5_empty 0 0 0 0 _ n 0 0 0 [(0, .ref o)] [] _ n
  refine aw_aload_n dX5_empty_0 rfl rfl ?_
  refine aw_iconst_n 0 dX5_empty_1 (by decide) ?_
  refine aw_pput fp_X5_28 (by decide) rfl rfl dX5_empty_2 ?_
  exact aw_vret rfl (by decide) (by decide) dX5_empty_5 (rV_of (by rfl))
abbrev MX5_commands : MT := (RX5, cX5_commands, 1, (some .int), [], "commands")
set_option maxHeartbeats 4000000 in
theorem p_commands {l : Launch} {G : GT} {n : Nat} {f : HT} {o : Nat} {I : Nat → Int32} {A : Nat → Nat → Int32} {g : Nat → Option Nat} : AM l G yX5_commands (.code yX5_commands cX5_commands 1 (some .int)) 0 0 0 0 [.ref o] (pU f o I A g) n (rI (I 5) (pU f o I A g) n) := by
  refine aw_enter (M := MX5_commands) rfl rfl (by decide +kernel) rfl (Nat.le_of_ble_eq_true rfl) ?_
  show AW l G MX5_commands 0 0 0 0 _ n 0 0 0 [(0, .ref o)] [] _ n
  refine aw_aload_n dX5_commands_0 rfl rfl ?_
  refine aw_get (v := .int (I 5)) fl_X5_32 pU_0 rfl dX5_commands_1 ?_
  exact aw_iret rfl (by decide) (by decide) dX5_commands_4 (rI_of (by rfl))
abbrev MX5_position : MT := (RX5, cX5_position, 1, (some .int), [], "position")
set_option maxHeartbeats 4000000 in
theorem p_position {l : Launch} {G : GT} {n : Nat} {f : HT} {o : Nat} {I : Nat → Int32} {A : Nat → Nat → Int32} {g : Nat → Option Nat} : AM l G yX5_position (.code yX5_position cX5_position 1 (some .int)) 0 0 0 0 [.ref o] (pU f o I A g) n (rI (I 6) (pU f o I A g) n) := by
  refine aw_enter (M := MX5_position) rfl rfl (by decide +kernel) rfl (Nat.le_of_ble_eq_true rfl) ?_
  show AW l G MX5_position 0 0 0 0 _ n 0 0 0 [(0, .ref o)] [] _ n
  refine aw_aload_n dX5_position_0 rfl rfl ?_
  refine aw_get (v := .int (I 6)) fl_X5_35 pU_0 rfl dX5_position_1 ?_
  exact aw_iret rfl (by decide) (by decide) dX5_position_4 (rI_of (by rfl))
abbrev MX5_wordAt : MT := (RX5, cX5_wordAt, 2, (some (.object "PendulumGym$Word")), [], "wordAt")
set_option maxHeartbeats 4000000 in
theorem p_word {l : Launch} {G : GT} {n : Nat} {f : HT} {o : Nat} {I : Nat → Int32} {A : Nat → Nat → Int32} {g : Nat → Option Nat} {i v : Nat} (hi : i < 60) (hg : g i = some v) : AM l G yX5_wordAt (.code yX5_wordAt cX5_wordAt 2 (some (.object "PendulumGym$Word"))) 0 0 0 0 [.ref o, .int (nI i)] (pU f o I A g) n (rR (.ref v) (pU f o I A g) n) := by
  refine aw_enter (M := MX5_wordAt) rfl rfl (by decide +kernel) rfl (Nat.le_of_ble_eq_true rfl) ?_
  show AW l G MX5_wordAt 0 0 0 0 _ n 0 0 0 [(0, .ref o), (1, .int (nI i))] [] _ n
  refine aw_iload_n dX5_wordAt_0 rfl rfl ?_
  refine aw_if_lt_n (by omega) (tgt := 22) dX5_wordAt_1 (by decide) ?_
  refine aw_iload_n dX5_wordAt_4 rfl rfl ?_
  refine aw_aload_n dX5_wordAt_5 rfl rfl ?_
  refine aw_get (v := .ref (o + 2)) fl_X5_17 pU_0 rfl dX5_wordAt_6 ?_
  refine aw_alen (N := 0) (x := nilc) (ty := .object RX9) (v := nI 60) pU_2 rfl rfl dX5_wordAt_9 ?_
  refine aw_icmp_ge_n (by omega) (by omega) (tgt := 22) dX5_wordAt_10 (by decide) (fun c_2 => by exfalso; omega) (fun c_2 => ?_)
  refine aw_aload_n dX5_wordAt_13 rfl rfl ?_
  refine aw_get (v := .ref (o + 2)) fl_X5_17 pU_0 rfl dX5_wordAt_14 ?_
  refine aw_iload_n dX5_wordAt_17 rfl rfl ?_
  refine aw_aald RX9 pU_2 rfl (vp_in_nI (by omega) (by decide)) dX5_wordAt_18 ?_
  rw [nIc (by omega), hg]
  refine aw_goto (tgt := 23) dX5_wordAt_19 (by decide) ?_
  exact aw_aret rfl (Or.inl ⟨_, rfl⟩) (Or.inr ⟨_, rfl⟩) (by decide) (by decide) dX5_wordAt_23 ⟨rfl, rfl, rfl⟩
abbrev MX5_digitAt : MT := (RX5, cX5_digitAt, 2, (some .int), [], "digitAt")
set_option maxHeartbeats 4000000 in
theorem p_digit {l : Launch} {G : GT} {n : Nat} {f : HT} {o : Nat} {I : Nat → Int32} {A : Nat → Nat → Int32} {g : Nat → Option Nat} {i : Nat} (hi : i < 60) : AM l G yX5_digitAt (.code yX5_digitAt cX5_digitAt 2 (some .int)) 0 0 0 0 [.ref o, .int (nI i)] (pU f o I A g) n (rI (A 1 i) (pU f o I A g) n) := by
  refine aw_enter (M := MX5_digitAt) rfl rfl (by decide +kernel) rfl (Nat.le_of_ble_eq_true rfl) ?_
  show AW l G MX5_digitAt 0 0 0 0 _ n 0 0 0 [(0, .ref o), (1, .int (nI i))] [] _ n
  refine aw_iload_n dX5_digitAt_0 rfl rfl ?_
  refine aw_if_lt_n (by omega) (tgt := 22) dX5_digitAt_1 (by decide) ?_
  refine aw_iload_n dX5_digitAt_4 rfl rfl ?_
  refine aw_aload_n dX5_digitAt_5 rfl rfl ?_
  refine aw_get (v := .ref (o + 3)) fl_X5_21 pU_0 rfl dX5_digitAt_6 ?_
  refine aw_alen (N := 0) (x := nilc) (ty := .int) (v := nI 60) pU_3 rfl rfl dX5_digitAt_9 ?_
  refine aw_icmp_ge_n (by omega) (by omega) (tgt := 22) dX5_digitAt_10 (by decide) (fun c_2 => by exfalso; omega) (fun c_2 => ?_)
  refine aw_aload_n dX5_digitAt_13 rfl rfl ?_
  refine aw_get (v := .ref (o + 3)) fl_X5_21 pU_0 rfl dX5_digitAt_14 ?_
  refine aw_iload_n dX5_digitAt_17 rfl rfl ?_
  refine aw_iald_n (k := i) (v := A 1 i) pU_3 (by omega) (by decide) rfl dX5_digitAt_18 ?_
  refine aw_goto (tgt := 23) dX5_digitAt_19 (by decide) ?_
  exact aw_iret rfl (by decide) (by decide) dX5_digitAt_23 (rI_of (by rfl))
abbrev MX5_numberAt : MT := (RX5, cX5_numberAt, 2, (some .int), [], "numberAt")
set_option maxHeartbeats 4000000 in
theorem p_number {l : Launch} {G : GT} {n : Nat} {f : HT} {o : Nat} {I : Nat → Int32} {A : Nat → Nat → Int32} {g : Nat → Option Nat} {i : Nat} (hi : i < 60) : AM l G yX5_numberAt (.code yX5_numberAt cX5_numberAt 2 (some .int)) 0 0 0 0 [.ref o, .int (nI i)] (pU f o I A g) n (rI (A 2 i) (pU f o I A g) n) := by
  refine aw_enter (M := MX5_numberAt) rfl rfl (by decide +kernel) rfl (Nat.le_of_ble_eq_true rfl) ?_
  show AW l G MX5_numberAt 0 0 0 0 _ n 0 0 0 [(0, .ref o), (1, .int (nI i))] [] _ n
  refine aw_iload_n dX5_numberAt_0 rfl rfl ?_
  refine aw_if_lt_n (by omega) (tgt := 22) dX5_numberAt_1 (by decide) ?_
  refine aw_iload_n dX5_numberAt_4 rfl rfl ?_
  refine aw_aload_n dX5_numberAt_5 rfl rfl ?_
  refine aw_get (v := .ref (o + 4)) fl_X5_25 pU_0 rfl dX5_numberAt_6 ?_
  refine aw_alen (N := 0) (x := nilc) (ty := .int) (v := nI 60) pU_4 rfl rfl dX5_numberAt_9 ?_
  refine aw_icmp_ge_n (by omega) (by omega) (tgt := 22) dX5_numberAt_10 (by decide) (fun c_2 => by exfalso; omega) (fun c_2 => ?_)
  refine aw_aload_n dX5_numberAt_13 rfl rfl ?_
  refine aw_get (v := .ref (o + 4)) fl_X5_25 pU_0 rfl dX5_numberAt_14 ?_
  refine aw_iload_n dX5_numberAt_17 rfl rfl ?_
  refine aw_iald_n (k := i) (v := A 2 i) pU_4 (by omega) (by decide) rfl dX5_numberAt_18 ?_
  refine aw_goto (tgt := 23) dX5_numberAt_19 (by decide) ?_
  exact aw_iret rfl (by decide) (by decide) dX5_numberAt_23 (rI_of (by rfl))
abbrev MX5_signAt : MT := (RX5, cX5_signAt, 2, (some .char), [], "signAt")
set_option maxHeartbeats 4000000 in
theorem p_sign {l : Launch} {G : GT} {n : Nat} {f : HT} {o : Nat} {I : Nat → Int32} {A : Nat → Nat → Int32} {g : Nat → Option Nat} {tn : Nat} {tx : Nat → Nat} (hT : TP9 I A tn tx) {i : Nat} (hi : i < 2 ^ 30) : AM l G yX5_signAt (.code yX5_signAt cX5_signAt 2 (some .char)) 0 0 0 0 [.ref o, .int (nI i)] (pU f o I A g) n (rI (nI (hN tn tx i)) (pU f o I A g) n) := by
  refine aw_enter (M := MX5_signAt) rfl rfl (by decide +kernel) rfl (Nat.le_of_ble_eq_true rfl) ?_
  have ht60 := hT.2.1
  show AW l G MX5_signAt 0 0 0 0 _ n 0 0 0 [(0, .ref o), (1, .int (nI i))] [] _ n
  refine aw_iload_n dX5_signAt_0 rfl rfl ?_
  refine aw_if_lt_n (by omega) (tgt := 27) dX5_signAt_1 (by decide) ?_
  refine aw_iload_n dX5_signAt_4 rfl rfl ?_
  refine aw_aload_n dX5_signAt_5 rfl rfl ?_
  refine aw_get (v := .int (nI tn)) fl_X5_28 pU_0 (congrArg (fun z => some (Value.int z)) (hT.1)) dX5_signAt_6 ?_
  refine aw_icmp_ge_n (by omega) (by omega) (tgt := 27) dX5_signAt_9 (by decide) (fun c_2 => ?_) (fun c_2 => ?_)
  · refine aw_iconst_n 0 dX5_signAt_27 (by decide) ?_
    have e : hN tn tx i = 0 := by unfold hN; rw [if_neg (by omega)]
    exact aw_zret rfl (c128_narrow (by decide)) (by decide) (by decide) dX5_signAt_28 (rI_of (by rw [e]))
  · refine aw_iload_n dX5_signAt_12 rfl rfl ?_
    refine aw_bipush_n 60 dX5_signAt_13 (by decide) ?_
    refine aw_icmp_ge_n (by omega) (by omega) (tgt := 27) dX5_signAt_15 (by decide) (fun c_3 => by exfalso; omega) (fun c_3 => ?_)
    refine aw_aload_n dX5_signAt_18 rfl rfl ?_
    refine aw_get (v := .ref (o + 1)) fl_X5_9 pU_0 rfl dX5_signAt_19 ?_
    refine aw_iload_n dX5_signAt_22 rfl rfl ?_
    refine aw_cald_n (k := i) (v := nI (tx i)) pU_1 (by omega) (by decide) (hT.2.2.1 _ (by omega)) dX5_signAt_23 ?_
    refine aw_goto (tgt := 28) dX5_signAt_24 (by decide) ?_
    have e : hN tn tx i = tx i := by unfold hN; rw [if_pos (by omega)]
    exact aw_zret rfl (c128_narrow (by have := hT.2.2.2 i (by omega); omega)) (by decide) (by decide) dX5_signAt_28 (rI_of (by rw [e]))
abbrev MX5_isDigit : MT := (RX5, cX5_isDigit, 1, (some .boolean), [], "isDigit")
set_option maxHeartbeats 4000000 in
theorem p_dig9 {l : Launch} {G : GT} {n : Nat} {f : HT} {h : Nat} (hh : h < 2 ^ 30) : AM l G yX5_isDigit (.code yX5_isDigit cX5_isDigit 1 (some .boolean)) 0 0 0 0 [.int (nI h)] (f) n (rI (bI (isD h)) f n) := by
  refine aw_enter (M := MX5_isDigit) rfl rfl (by decide +kernel) rfl (Nat.le_of_ble_eq_true rfl) ?_
  show AW l G MX5_isDigit 0 0 0 0 _ n 0 0 0 [(0, .int (nI h))] [] _ n
  refine aw_iload_n dX5_isDigit_0 rfl rfl ?_
  refine aw_bipush_n 48 dX5_isDigit_1 (by decide) ?_
  refine aw_icmp_lt_n (by omega) (by omega) (tgt := 16) dX5_isDigit_3 (by decide) (fun c_1 => ?_) (fun c_1 => ?_)
  · refine aw_iconst_n 0 dX5_isDigit_16 (by decide) ?_
    have e : isD h = false := decide_eq_false (by omega)
    exact aw_zret rfl rfl (by decide) (by decide) dX5_isDigit_17 (rI_of (by rw [e]; rfl))
  · refine aw_iload_n dX5_isDigit_6 rfl rfl ?_
    refine aw_bipush_n 57 dX5_isDigit_7 (by decide) ?_
    refine aw_icmp_gt_n (by omega) (by omega) (tgt := 16) dX5_isDigit_9 (by decide) (fun c_2 => ?_) (fun c_2 => ?_)
    · refine aw_iconst_n 0 dX5_isDigit_16 (by decide) ?_
      have e : isD h = false := decide_eq_false (by omega)
      exact aw_zret rfl rfl (by decide) (by decide) dX5_isDigit_17 (rI_of (by rw [e]; rfl))
    · refine aw_iconst_n 1 dX5_isDigit_12 (by decide) ?_
      refine aw_goto (tgt := 17) dX5_isDigit_13 (by decide) ?_
      have e : isD h = true := decide_eq_true (by omega)
      exact aw_zret rfl rfl (by decide) (by decide) dX5_isDigit_17 (rI_of (by rw [e]; rfl))
abbrev MX5_readSign : MT := (RX5, cX5_readSign, 3, (some .boolean), [], "readSign")
set_option maxHeartbeats 4000000 in
theorem p_rs {l : Launch} {G : GT} {n : Nat} {f : HT} {o : Nat} {I : Nat → Int32} {A : Nat → Nat → Int32} {g : Nat → Option Nat} {tn : Nat} {tx : Nat → Nat} (hT : TP9 I A tn tx) {sp c : Nat} (h6 : I 6 = nI sp) (hs : sp ≤ 60) (hc : c < 128) : AM l G yX5_readSign (.code yX5_readSign cX5_readSign 3 (some .boolean)) 1 60 0 0 [.ref o, .int (nI c)] (pU f o I A g) n (rI (bI (decide (hN tn tx sp = c))) (pU f o (va_up I 6 (nI (if hN tn tx sp = c then sp + 1 else sp))) A g) n) := by
  refine aw_enter (M := MX5_readSign) rfl rfl (by decide +kernel) rfl (Nat.le_of_ble_eq_true rfl) ?_
  have ht60 := hT.2.1
  show AW l G MX5_readSign 1 60 0 0 _ n 0 0 0 [(0, .ref o), (1, .int (nI c))] [] _ n
  refine aw_aload_n dX5_readSign_0 rfl rfl ?_
  refine aw_aload_n dX5_readSign_1 rfl rfl ?_
  refine aw_get (v := .int (nI sp)) fl_X5_35 pU_0 (congrArg (fun z => some (Value.int z)) (h6)) dX5_readSign_2 ?_
  refine aw_vI (as := [Value.int (nI sp)]) (rest := []) mV_X5_signAt (p_sign hT (i := sp) (by omega)) ml_X5_90 pU_0 rfl dX5_readSign_5 rfl rfl (by decide) (Nat.le_of_ble_eq_true rfl) (by decide) ?_
  have hh_1 := hN_le hT sp
  refine aw_iload_n dX5_readSign_8 rfl rfl ?_
  refine aw_icmp_ne_n (by omega) (by omega) (tgt := 16) dX5_readSign_9 (by decide) (fun c_2 => ?_) (fun c_2 => ?_)
  · have c_1 : ¬ hN tn tx sp = c := c_2
    refine aw_iconst_n 0 dX5_readSign_16 (by decide) ?_
    refine aw_istore_n (L' := [(2, .int (nI 0)), (0, .ref o), (1, .int (nI c))]) dX5_readSign_17 rfl (by decide) rfl ?_
    refine aw_iload_n dX5_readSign_18 rfl rfl ?_
    refine aw_if_eq_n (by omega) (tgt := 32) dX5_readSign_19 (by decide) (fun c_3 => ?_) (fun c_3 => by exfalso; omega)
    refine aw_iload_n dX5_readSign_32 rfl rfl ?_
    have e : decide (hN tn tx sp = c) = false := decide_eq_false c_1
    rw [if_neg c_1, up_id6 h6]
    exact aw_zret rfl rfl (by decide) (by decide) dX5_readSign_33 (rI_of2 (by rw [e]; rfl) rfl)
  · have c_1 : hN tn tx sp = c := c_2
    refine aw_iconst_n 1 dX5_readSign_12 (by decide) ?_
    refine aw_goto (tgt := 17) dX5_readSign_13 (by decide) ?_
    refine aw_istore_n (L' := [(2, .int (nI 1)), (0, .ref o), (1, .int (nI c))]) dX5_readSign_17 rfl (by decide) rfl ?_
    refine aw_iload_n dX5_readSign_18 rfl rfl ?_
    refine aw_if_eq_n (by omega) (tgt := 32) dX5_readSign_19 (by decide) (fun c_4 => by exfalso; omega) (fun c_4 => ?_)
    refine aw_aload_n dX5_readSign_22 rfl rfl ?_
    refine aw_dup dX5_readSign_23 rfl ?_
    refine aw_get (v := .int (nI sp)) fl_X5_35 pU_0 (congrArg (fun z => some (Value.int z)) (h6)) dX5_readSign_24 ?_
    refine aw_iconst_n 1 dX5_readSign_27 (by decide) ?_
    refine aw_iadd_n dX5_readSign_28 ?_
    refine aw_pput fp_X5_35 (by decide) rfl rfl dX5_readSign_29 ?_
    refine aw_iload_n dX5_readSign_32 rfl rfl ?_
    have e : decide (hN tn tx sp = c) = true := decide_eq_true c_1
    rw [if_pos c_1]
    exact aw_zret rfl rfl (by decide) (by decide) dX5_readSign_33 (rI_of2 (by rw [e]; rfl) rfl)
abbrev MX5_readDigits : MT := (RX5, cX5_readDigits, 4, (some .int), [], "readDigits")
set_option maxHeartbeats 4000000 in
theorem p_rd_loop {l : Launch} {G : GT} {n : Nat} {f : HT} {o : Nat} {I : Nat → Int32} {A : Nat → Nat → Int32} {g : Nat → Option Nat} {tn : Nat} {tx : Nat → Nat} (hT : TP9 I A tn tx) {m sp : Nat} (hm : m ≤ 3) : ∀ (N : Nat) (r v q : Nat), (m - r = N) → (r ≤ m) → (q ≤ tn) → (1 ≤ r) → (v < 10 ^ r) → (runN tn tx (m - r) v q = runN tn tx m 0 sp) → AW l G MX5_readDigits 1 60 0 0 (rI (nI (runN tn tx m 0 sp).1) (pU f o (va_up I 6 (nI (runN tn tx m 0 sp).2)) A g) n) n 0 0 4 [(3, .int (nI r)), (2, .int (nI v)), (0, .ref o), (1, .int (nI m))] [] (pU f o (va_up I 6 (nI q)) A g) n := by
  intro N
  induction N using Nat.strongRecOn with
  | ind N ih =>
    intro r v q hNN hr hq hr1 hv he
    have ht60 := hT.2.1
    have hp9 : 10 ^ r ≤ 10 ^ 3 := Nat.pow_le_pow_right (by decide) (by omega)
    refine aw_iload_n dX5_readDigits_4 rfl rfl ?_
    refine aw_iload_n dX5_readDigits_5 rfl rfl ?_
    refine aw_icmp_ge_n (by omega) (by omega) (tgt := 60) dX5_readDigits_6 (by decide) (fun c_1 => ?_) (fun c_1 => ?_)
    · refine aw_iload_n dX5_readDigits_60 rfl rfl ?_
      rw [← he, show m - r = 0 by omega]
      exact aw_iret rfl (by decide) (by decide) dX5_readDigits_61 (rI_of rfl)
    · refine aw_aload_n dX5_readDigits_9 rfl rfl ?_
      refine aw_aload_n dX5_readDigits_10 rfl rfl ?_
      refine aw_get (v := .int (nI q)) fl_X5_35 pU_0 (congrArg (fun z => some (Value.int z)) (up_self)) dX5_readDigits_11 ?_
      refine aw_vI (as := [Value.int (nI q)]) (rest := []) mV_X5_signAt (p_sign (hT.mv (I' := va_up I 6 (nI q)) (A' := A) (up_ne (by decide)) rfl) (i := q) (by omega)) ml_X5_90 pU_0 rfl dX5_readDigits_14 rfl rfl (by decide) (Nat.le_of_ble_eq_true rfl) (by decide) ?_
      have hh_2 := hN_le (hT.mv (I' := va_up I 6 (nI q)) (A' := A) (up_ne (by decide)) rfl) q
      refine aw_sI (as := [Value.int (nI (hN tn tx q))]) (rest := []) mS_X5_isDigit (p_dig9 (by omega)) ml_X5_97 dX5_readDigits_17 rfl rfl (by decide) (Nat.le_of_ble_eq_true rfl) (by decide) ?_
      refine aw_if_eq_b (tgt := 60) dX5_readDigits_20 (by decide) (fun c_3 => ?_) (fun c_3 => ?_)
      · have d_1 := c_3
        refine aw_iload_n dX5_readDigits_60 rfl rfl ?_
        rw [← he, run_no d_1]
        exact aw_iret rfl (by decide) (by decide) dX5_readDigits_61 (rI_of rfl)
      · have d_1 := c_3
        have hd8 := isD_of8 c_3
        refine aw_iload_n dX5_readDigits_23 rfl rfl ?_
        refine aw_iconst_n 0 dX5_readDigits_24 (by decide) ?_
        refine aw_mmax_n (by omega) (by omega) ml_X5_84 (by decide) (Nat.le_of_ble_eq_true rfl) (by decide) (by decide) dX5_readDigits_25 ?_
        refine aw_bipush_n 10 dX5_readDigits_28 (by decide) ?_
        refine aw_imul_n dX5_readDigits_30 ?_
        refine aw_aload_n dX5_readDigits_31 rfl rfl ?_
        refine aw_aload_n dX5_readDigits_32 rfl rfl ?_
        refine aw_get (v := .int (nI q)) fl_X5_35 pU_0 (congrArg (fun z => some (Value.int z)) (up_self)) dX5_readDigits_33 ?_
        refine aw_vI (as := [Value.int (nI q)]) (rest := [Value.int (nI ((max v 0) * 10))]) mV_X5_signAt (p_sign (hT.mv (I' := va_up I 6 (nI q)) (A' := A) (up_ne (by decide)) rfl) (i := q) (by omega)) ml_X5_90 pU_0 rfl dX5_readDigits_36 rfl rfl (by decide) (Nat.le_of_ble_eq_true rfl) (by decide) ?_
        have hh_4 := hN_le (hT.mv (I' := va_up I 6 (nI q)) (A' := A) (up_ne (by decide)) rfl) q
        refine aw_bipush_n 48 dX5_readDigits_39 (by decide) ?_
        refine aw_isub_n (by omega) dX5_readDigits_41 ?_
        refine aw_iadd_n dX5_readDigits_42 ?_
        refine aw_istore_n (L' := [(2, .int (nI (((max v 0) * 10) + ((hN tn tx q) - 48)))), (3, .int (nI r)), (0, .ref o), (1, .int (nI m))]) dX5_readDigits_43 rfl (by decide) rfl ?_
        refine aw_aload_n dX5_readDigits_44 rfl rfl ?_
        refine aw_dup dX5_readDigits_45 rfl ?_
        refine aw_get (v := .int (nI q)) fl_X5_35 pU_0 (congrArg (fun z => some (Value.int z)) (up_self)) dX5_readDigits_46 ?_
        refine aw_iconst_n 1 dX5_readDigits_49 (by decide) ?_
        refine aw_iadd_n dX5_readDigits_50 ?_
        refine aw_pput fp_X5_35 (by decide) rfl rfl dX5_readDigits_51 ?_
        refine aw_iinc_n (L' := [(3, .int (nI (r + 1))), (2, .int (nI (((max v 0) * 10) + ((hN tn tx q) - 48)))), (0, .ref o), (1, .int (nI m))]) 1 dX5_readDigits_54 rfl (by decide) (by decide) rfl ?_
        refine aw_goto (tgt := 4) dX5_readDigits_57 (by decide) ?_
        have hp8 : 10 ^ (r + 1) = 10 * 10 ^ r := by rw [Nat.pow_succ, Nat.mul_comm]
        have hd9 := isD_of8 d_1
        have hb9 := hN_lt9 d_1
        have e9 := run_yes (tx := tx) (m := m - r - 1) (v := v) d_1
        refine aw_sub [(3, .int (nI (r + 1))), (2, .int (nI (10 * v + hN tn tx q - 48))), (0, .ref o), (1, .int (nI m))] (by simp; congr 1; omega) ?_
        rw [bx_uu]
        exact ih _ (by omega) (r + 1) _ (q + 1) rfl (by omega) (by omega) (by omega) (by omega) (by rw [← he, show m - r = (m - r - 1) + 1 by omega, e9, show m - (r + 1) = m - r - 1 by omega])
set_option maxHeartbeats 4000000 in
theorem p_rd {l : Launch} {G : GT} {n : Nat} {f : HT} {o : Nat} {I : Nat → Int32} {A : Nat → Nat → Int32} {g : Nat → Option Nat} {tn : Nat} {tx : Nat → Nat} (hT : TP9 I A tn tx) {m sp : Nat} (hm1 : 1 ≤ m) (hm : m ≤ 3) (h6 : I 6 = nI sp) (hs : sp ≤ tn) : AM l G yX5_readDigits (.code yX5_readDigits cX5_readDigits 4 (some .int)) 1 60 0 0 [.ref o, .int (nI m)] (pU f o I A g) n (rI (rgI tn tx m sp) (pU f o (va_up I 6 (nI (rgP tn tx m sp))) A g) n) := by
  refine aw_enter (M := MX5_readDigits) rfl rfl (by decide +kernel) rfl (Nat.le_of_ble_eq_true rfl) ?_
  have ht60 := hT.2.1
  show AW l G MX5_readDigits 1 60 0 0 _ n 0 0 0 [(0, .ref o), (1, .int (nI m))] [] _ n
  refine aw_iconst (v := -1) dX5_readDigits_0 (by decide) ?_
  refine aw_istore_n (L' := [(2, .int (-1)), (0, .ref o), (1, .int (nI m))]) dX5_readDigits_1 rfl (by decide) rfl ?_
  refine aw_iconst_n 0 dX5_readDigits_2 (by decide) ?_
  refine aw_istore_n (L' := [(3, .int (nI 0)), (2, .int (-1)), (0, .ref o), (1, .int (nI m))]) dX5_readDigits_3 rfl (by decide) rfl ?_
  refine aw_iload_n dX5_readDigits_4 rfl rfl ?_
  refine aw_iload_n dX5_readDigits_5 rfl rfl ?_
  refine aw_icmp_ge_n (by omega) (by omega) (tgt := 60) dX5_readDigits_6 (by decide) (fun c_1 => by exfalso; omega) (fun c_1 => ?_)
  refine aw_aload_n dX5_readDigits_9 rfl rfl ?_
  refine aw_aload_n dX5_readDigits_10 rfl rfl ?_
  refine aw_get (v := .int (nI sp)) fl_X5_35 pU_0 (congrArg (fun z => some (Value.int z)) (h6)) dX5_readDigits_11 ?_
  refine aw_vI (as := [Value.int (nI sp)]) (rest := []) mV_X5_signAt (p_sign hT (i := sp) (by omega)) ml_X5_90 pU_0 rfl dX5_readDigits_14 rfl rfl (by decide) (Nat.le_of_ble_eq_true rfl) (by decide) ?_
  have hh_2 := hN_le hT sp
  refine aw_sI (as := [Value.int (nI (hN tn tx sp))]) (rest := []) mS_X5_isDigit (p_dig9 (by omega)) ml_X5_97 dX5_readDigits_17 rfl rfl (by decide) (Nat.le_of_ble_eq_true rfl) (by decide) ?_
  refine aw_if_eq_b (tgt := 60) dX5_readDigits_20 (by decide) (fun c_3 => ?_) (fun c_3 => ?_)
  · have d_1 : ¬ isD (hN tn tx sp) = true := by rw [c_3]; decide
    unfold rgI rgP
    rw [if_neg d_1, if_neg d_1, up_id6 h6]
    refine aw_iload_n dX5_readDigits_60 rfl rfl ?_
    exact aw_iret rfl (by decide) (by decide) dX5_readDigits_61 (rI_of (by rfl))
  · have d_1 : isD (hN tn tx sp) = true := c_3
    have hd9 := isD_of8 d_1
    have hb9 := hN_lt9 d_1
    unfold rgI rgP
    rw [if_pos d_1, if_pos d_1]
    refine aw_iload_n dX5_readDigits_23 rfl rfl ?_
    refine aw_iconst_n 0 dX5_readDigits_24 (by decide) ?_
    refine aw_mmax ml_X5_84 (by decide) (Nat.le_of_ble_eq_true rfl) (by decide) (by decide) dX5_readDigits_25 ?_
    rw [show (if (-1 : Int32) < nI 0 then nI 0 else -1) = nI 0 from by decide]
    refine aw_bipush_n 10 dX5_readDigits_28 (by decide) ?_
    refine aw_imul_n dX5_readDigits_30 ?_
    refine aw_aload_n dX5_readDigits_31 rfl rfl ?_
    refine aw_aload_n dX5_readDigits_32 rfl rfl ?_
    refine aw_get (v := .int (nI sp)) fl_X5_35 pU_0 (congrArg (fun z => some (Value.int z)) (h6)) dX5_readDigits_33 ?_
    refine aw_vI (as := [Value.int (nI sp)]) (rest := [Value.int (nI (0 * 10))]) mV_X5_signAt (p_sign hT (i := sp) (by omega)) ml_X5_90 pU_0 rfl dX5_readDigits_36 rfl rfl (by decide) (Nat.le_of_ble_eq_true rfl) (by decide) ?_
    have hh_4 := hN_le hT sp
    refine aw_bipush_n 48 dX5_readDigits_39 (by decide) ?_
    refine aw_isub_n (by omega) dX5_readDigits_41 ?_
    refine aw_iadd_n dX5_readDigits_42 ?_
    refine aw_istore_n (L' := [(2, .int (nI ((0 * 10) + ((hN tn tx sp) - 48)))), (3, .int (nI 0)), (0, .ref o), (1, .int (nI m))]) dX5_readDigits_43 rfl (by decide) rfl ?_
    refine aw_aload_n dX5_readDigits_44 rfl rfl ?_
    refine aw_dup dX5_readDigits_45 rfl ?_
    refine aw_get (v := .int (nI sp)) fl_X5_35 pU_0 (congrArg (fun z => some (Value.int z)) (h6)) dX5_readDigits_46 ?_
    refine aw_iconst_n 1 dX5_readDigits_49 (by decide) ?_
    refine aw_iadd_n dX5_readDigits_50 ?_
    refine aw_pput fp_X5_35 (by decide) rfl rfl dX5_readDigits_51 ?_
    refine aw_iinc_n (L' := [(3, .int (nI (0 + 1))), (2, .int (nI ((0 * 10) + ((hN tn tx sp) - 48)))), (0, .ref o), (1, .int (nI m))]) 1 dX5_readDigits_54 rfl (by decide) (by decide) rfl ?_
    refine aw_goto (tgt := 4) dX5_readDigits_57 (by decide) ?_
    rw [show runN tn tx m 0 sp = runN tn tx (m - 1) (10 * 0 + hN tn tx sp - 48) (sp + 1) from by rw [show m = (m - 1) + 1 by omega]; exact run_yes d_1]
    have h9 := p_rd_loop (l := l) (G := G) (n := n) (f := f) (o := o) (g := g) (m := m) (sp := sp) hT hm _ 1 (10 * 0 + hN tn tx sp - 48) (sp + 1) rfl (by omega) (by omega) (by decide) (by omega) (by rw [show m = (m - 1) + 1 by omega]; exact (run_yes d_1).symm)
    rw [show runN tn tx m 0 sp = runN tn tx (m - 1) (10 * 0 + hN tn tx sp - 48) (sp + 1) from by rw [show m = (m - 1) + 1 by omega]; exact run_yes d_1] at h9
    exact aw_sub [(3, .int (nI 1)), (2, .int (nI (10 * 0 + hN tn tx sp - 48))), (0, .ref o), (1, .int (nI m))] (by simp) h9
