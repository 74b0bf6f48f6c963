/-! answers: an int and the heap behind; nothing and the heap behind -/
def rI (x : Int32) (f : HT) (n : Nat) : PT := fun r f' n' => r = .inl (some (.int x)) ∧ f' = f ∧ n' = n
def rV (f : HT) (n : Nat) : PT := fun r f' n' => r = .inl none ∧ f' = f ∧ n' = n
theorem rI_of {x v : Int32} {f : HT} {n : Nat} (h : v = x) : rI x f n (.inl (some (.int v))) f n := ⟨by rw [h], rfl, rfl⟩
theorem rI_of2 {x v : Int32} {f f' : HT} {n : Nat} (h : v = x) (hf : f' = f) : rI x f n (.inl (some (.int v))) f' n := ⟨by rw [h], hf, rfl⟩
theorem rV_of {f f' : HT} {n : Nat} (hf : f' = f) : rV f n (.inl none) f' n := ⟨rfl, hf, rfl⟩
def bI (b : Bool) : Int32 := match b with
  | true => 1
  | false => 0
theorem bI_1 {b : Bool} (h : b = true) : (1 : Int32) = bI b := by rw [h]; rfl
theorem bI_0 {b : Bool} (h : b = false) : (0 : Int32) = bI b := by rw [h]; rfl
theorem bI_n1 {b : Bool} (h : b = true) : nI 1 = bI b := by rw [h]; rfl
theorem bI_n0 {b : Bool} (h : b = false) : nI 0 = bI b := by rw [h]; rfl
theorem bI_nar (b : Bool) : narrow .boolean (.int (bI b)) = .int (bI b) := by cases b <;> rfl
/-- 0 ≤ v < c -/
def isK (v : Int32) (c : Nat) : Bool := decide (0 ≤ v.toInt ∧ v.toInt < (c : Int))
theorem isK_nI {k c : Nat} (hk : k < 2 ^ 31) : isK (nI k) c = decide (k < c) := by
  unfold isK
  rw [nI_toInt hk]
  simp
theorem isK_of {v : Int32} {c : Nat} (hc : c < 2 ^ 31) (h : isK v c = true) : ∃ k, k < c ∧ v = nI k := by
  have h := of_decide_eq_true h
  exact vp_in_of (vp_in_iff.mpr h) hc
theorem isK_in {v : Int32} {c : Nat} (h : isK v c = true) : vp_in v c := vp_in_iff.mpr (of_decide_eq_true h)
def inB (v lo hi : Int32) : Bool := decide (lo ≤ v) && decide (v ≤ hi)
theorem inB_of {v : Int32} {a b : Nat} (ha : a < 2 ^ 31) (hb : b + 1 < 2 ^ 31) (h : inB v (nI a) (nI b) = true) : ∃ k, a ≤ k ∧ k ≤ b ∧ v = nI k := by
  simp only [inB, Bool.and_eq_true, decide_eq_true_eq] at h
  have h1 := Int32.le_iff_toInt_le.mp h.1
  have h2 := Int32.le_iff_toInt_le.mp h.2
  rw [nI_toInt ha] at h1
  rw [nI_toInt (by omega)] at h2
  obtain ⟨k, hk, e⟩ := vp_in_of (x := v) (n := b + 1) (vp_in_iff.mpr ⟨by omega, by omega⟩) hb
  subst e
  rw [nI_toInt (by omega)] at h1
  exact ⟨k, by omega, by omega, rfl⟩
theorem inB_nI {k a b : Nat} (hk : k < 2 ^ 31) (ha : a < 2 ^ 31) (hb : b < 2 ^ 31) : inB (nI k) (nI a) (nI b) = (decide (a ≤ k) && decide (k ≤ b)) := by
  unfold inB
  rw [decide_eq_decide.mpr (nI_leI ha hk), decide_eq_decide.mpr (nI_leI hk hb)]
section CRI
variable {l : Launch} {G : GT} {M : MT} {fr lo mc ms : Nat} {Post : PT} {n0 nc ns pc : Nat} {L L' : List (Nat × Value)} {S : List Value} {f f2 : HT} {n : Nat}
theorem aw_if_eq_b {b : Bool} {off : Int} {tgt : Nat} (hdg : decode M.2.1 pc = .ok (.ifCond .eq off, 3)) (ht : (pc : Int) + off = (tgt : Int)) (kt : b = false → AW l G M fr lo mc ms Post n0 nc ns tgt L S f n) (kf : b = true → AW l G M fr lo mc ms Post n0 nc ns (pc + 3) L S f n) : AW l G M fr lo mc ms Post n0 nc ns pc L (.int (bI b) :: S) f n :=
  aw_if_eq hdg ht (fun h => kt (by cases b; rfl; exact absurd h (by decide))) (fun h => kf (by cases b; exact absurd rfl h; rfl))
theorem aw_if_ne_b {b : Bool} {off : Int} {tgt : Nat} (hdg : decode M.2.1 pc = .ok (.ifCond .ne off, 3)) (ht : (pc : Int) + off = (tgt : Int)) (kt : b = true → AW l G M fr lo mc ms Post n0 nc ns tgt L S f n) (kf : b = false → AW l G M fr lo mc ms Post n0 nc ns (pc + 3) L S f n) : AW l G M fr lo mc ms Post n0 nc ns pc L (.int (bI b) :: S) f n :=
  aw_if_ne hdg ht (fun h => kt (by cases b; exact absurd rfl h; rfl)) (fun h => kf (by cases b; rfl; exact absurd h (by decide)))
/-- calls by name that return an int, or nothing; static ones -/
theorem aw_vI {y : MethodName} {cc' : ByteArray} {nL' kk ix ci a fr' lo' mc' ms' : Nat} {ret' : Option FieldType} {as rest st : List Value} {vs : List Value} {x : Int32} (hMV : MV y cc' nL' ret' kk) (hA : AM l G y (.code y cc' nL' ret') fr' lo' mc' ms' (.ref a :: as) f n (rI x f2 n)) (hl : Cond.methodLink M.1 ix y ∈ Big) (hf : f a = .inr (ci, vs)) (hci : (clW[ci]?).map (fun q => q.1) = some y.cls)
    (hdg : decode M.2.1 pc = .ok (.invokevirtual ix, 3)) (hst : as.reverse ++ .ref a :: rest = st) (hk : as.length = kk) (hR : fr' + 1 ≤ fr ∧ 8 + (nL' + 11) + lo' ≤ lo) (hcat : (rest.map fun v => v.category).sum ≤ 8) (hc : nc + mc' ≤ mc ∧ ns + ms' ≤ ms) (k : AW l G M fr lo mc ms Post n0 (nc + mc') (ns + ms') (pc + 3) L (.int x :: rest) f2 n) : AW l G M fr lo mc ms Post n0 nc ns pc L st f n := by
  subst hst
  exact aw_call (cr_V hMV hA hl hf hci hdg hk hR.1 hR.2 hcat hc.1 hc.2) (fun v h => List.mem_append_right _ (List.mem_cons_of_mem _ h)) (fun E f' n' _ h => by cases h.1) (fun r f' n' _ h => by
    obtain ⟨h1, h2, h3⟩ := h
    cases h1; subst h2; subst h3
    exact k)
theorem aw_vV {y : MethodName} {cc' : ByteArray} {nL' kk ix ci a fr' lo' mc' ms' : Nat} {ret' : Option FieldType} {as rest st : List Value} {vs : List Value} (hMV : MV y cc' nL' ret' kk) (hA : AM l G y (.code y cc' nL' ret') fr' lo' mc' ms' (.ref a :: as) f n (rV f2 n)) (hl : Cond.methodLink M.1 ix y ∈ Big) (hf : f a = .inr (ci, vs)) (hci : (clW[ci]?).map (fun q => q.1) = some y.cls)
    (hdg : decode M.2.1 pc = .ok (.invokevirtual ix, 3)) (hst : as.reverse ++ .ref a :: rest = st) (hk : as.length = kk) (hR : fr' + 1 ≤ fr ∧ 8 + (nL' + 11) + lo' ≤ lo) (hcat : (rest.map fun v => v.category).sum ≤ 8) (hc : nc + mc' ≤ mc ∧ ns + ms' ≤ ms) (k : AW l G M fr lo mc ms Post n0 (nc + mc') (ns + ms') (pc + 3) L rest f2 n) : AW l G M fr lo mc ms Post n0 nc ns pc L st f n := by
  subst hst
  exact aw_call (cr_V hMV hA hl hf hci hdg hk hR.1 hR.2 hcat hc.1 hc.2) (fun v h => List.mem_append_right _ (List.mem_cons_of_mem _ h)) (fun E f' n' _ h => by cases h.1) (fun r f' n' _ h => by
    obtain ⟨h1, h2, h3⟩ := h
    cases h1; subst h2; subst h3
    exact k)
/-- .. with any post that doesn't throw -/
theorem aw_vP {y : MethodName} {cc' : ByteArray} {nL' kk ix ci a fr' lo' mc' ms' : Nat} {ret' : Option FieldType} {as rest st : List Value} {vs : List Value} {P' : PT} (hMV : MV y cc' nL' ret' kk) (hA : AM l G y (.code y cc' nL' ret') fr' lo' mc' ms' (.ref a :: as) f n P') (hl : Cond.methodLink M.1 ix y ∈ Big) (hf : f a = .inr (ci, vs)) (hci : (clW[ci]?).map (fun q => q.1) = some y.cls)
    (hdg : decode M.2.1 pc = .ok (.invokevirtual ix, 3)) (hst : as.reverse ++ .ref a :: rest = st) (hk : as.length = kk) (hR : fr' + 1 ≤ fr ∧ 8 + (nL' + 11) + lo' ≤ lo) (hcat : (rest.map fun v => v.category).sum ≤ 8) (hc : nc + mc' ≤ mc ∧ ns + ms' ≤ ms) (hno : ∀ (E : String) (f' : HT) (n' : Nat), ¬ P' (.inr E) f' n')
    (k : ∀ (r : Option Value) (f' : HT) (n' : Nat), n ≤ n' → P' (.inl r) f' n' → AW l G M fr lo mc ms Post n0 (nc + mc') (ns + ms') (pc + 3) L (r.toList ++ rest) f' n') : AW l G M fr lo mc ms Post n0 nc ns pc L st f n := by
  subst hst
  exact aw_call (cr_V hMV hA hl hf hci hdg hk hR.1 hR.2 hcat hc.1 hc.2) (fun v h => List.mem_append_right _ (List.mem_cons_of_mem _ h)) (fun E f' n' _ h => absurd h (hno E f' n')) k
theorem aw_sI {y : MethodName} {cc' : ByteArray} {nL' kk ix fr' lo' mc' ms' : Nat} {ret' : Option FieldType} {as rest st : List Value} {x : Int32} (hMS : MS y cc' nL' ret' kk) (hA : AM l G y (.code y cc' nL' ret') fr' lo' mc' ms' as f n (rI x f2 n)) (hl : Cond.methodLink M.1 ix y ∈ Big)
    (hdg : decode M.2.1 pc = .ok (.invokestatic ix, 3)) (hst : as.reverse ++ rest = st) (hk : as.length = kk) (hR : fr' + 1 ≤ fr ∧ 8 + (nL' + 11) + lo' ≤ lo) (hcat : (rest.map fun v => v.category).sum ≤ 8) (hc : nc + mc' ≤ mc ∧ ns + ms' ≤ ms) (k : AW l G M fr lo mc ms Post n0 (nc + mc') (ns + ms') (pc + 3) L (.int x :: rest) f2 n) : AW l G M fr lo mc ms Post n0 nc ns pc L st f n := by
  subst hst
  exact aw_call (cr_S hMS hA hl hdg hk hR.1 hR.2 hcat hc.1 hc.2) (fun v h => List.mem_append_right _ h) (fun E f' n' _ h => by cases h.1) (fun r f' n' _ h => by
    obtain ⟨h1, h2, h3⟩ := h
    cases h1; subst h2; subst h3
    exact k)
theorem aw_sV {y : MethodName} {cc' : ByteArray} {nL' kk ix fr' lo' mc' ms' : Nat} {ret' : Option FieldType} {as rest st : List Value} (hMS : MS y cc' nL' ret' kk) (hA : AM l G y (.code y cc' nL' ret') fr' lo' mc' ms' as f n (rV f2 n)) (hl : Cond.methodLink M.1 ix y ∈ Big)
    (hdg : decode M.2.1 pc = .ok (.invokestatic ix, 3)) (hst : as.reverse ++ rest = st) (hk : as.length = kk) (hR : fr' + 1 ≤ fr ∧ 8 + (nL' + 11) + lo' ≤ lo) (hcat : (rest.map fun v => v.category).sum ≤ 8) (hc : nc + mc' ≤ mc ∧ ns + ms' ≤ ms) (k : AW l G M fr lo mc ms Post n0 (nc + mc') (ns + ms') (pc + 3) L rest f2 n) : AW l G M fr lo mc ms Post n0 nc ns pc L st f n := by
  subst hst
  exact aw_call (cr_S hMS hA hl hdg hk hR.1 hR.2 hcat hc.1 hc.2) (fun v h => List.mem_append_right _ h) (fun E f' n' _ h => by cases h.1) (fun r f' n' _ h => by
    obtain ⟨h1, h2, h3⟩ := h
    cases h1; subst h2; subst h3
    exact k)
end CRI
/-! the reference's object: its ints I, its arrays A, nine cells from o on -/
def mFs (o : Nat) (I : Nat → Int32) : List Value := [.ref (o + 1), .ref (o + 2), .ref (o + 3), .int (I 3), .ref (o + 4), .int (I 5), .ref (o + 5), .int (I 7), .int (I 8), .int (I 9), .ref (o + 6), .int (I 11), .int (I 12), .ref (o + 7), .int (I 14), .int (I 15), .ref (o + 8)]
def mC (o : Nat) (I : Nat → Int32) (A : Nat → Nat → Int32) : Nat → va_E := fun j => match j with
  | 0 => .inr (7, mFs o I)
  | 1 => .inl (0, (48, .inl (A 0)))
  | 2 => .inl (0, (48, .inl (A 1)))
  | 3 => .inl (0, (384, .inl (A 2)))
  | 4 => .inl (0, (48, .inl (A 3)))
  | 5 => .inl (1, (60, .inl (A 4)))
  | 6 => .inl (1, (60, .inl (A 5)))
  | 7 => .inl (0, (256, .inl (A 6)))
  | 8 => .inl (0, (180, .inl (A 7)))
  | _ => nilc
abbrev mU (f : HT) (o : Nat) (I : Nat → Int32) (A : Nat → Nat → Int32) : HT := rU f o 9 (mC o I A)
section MR
variable {f : HT} {o : Nat} {I : Nat → Int32} {A : Nat → Nat → Int32}
theorem mU_0 : mU f o I A o = .inr (7, mFs o I) := rU_at 0 (by decide)
theorem mU_1 : mU f o I A (o + 1) = .inl (0, (48, .inl (A 0))) := rU_at 1 (by decide)
theorem mU_2 : mU f o I A (o + 2) = .inl (0, (48, .inl (A 1))) := rU_at 2 (by decide)
theorem mU_3 : mU f o I A (o + 3) = .inl (0, (384, .inl (A 2))) := rU_at 3 (by decide)
theorem mU_4 : mU f o I A (o + 4) = .inl (0, (48, .inl (A 3))) := rU_at 4 (by decide)
theorem mU_5 : mU f o I A (o + 5) = .inl (1, (60, .inl (A 4))) := rU_at 5 (by decide)
theorem mU_6 : mU f o I A (o + 6) = .inl (1, (60, .inl (A 5))) := rU_at 6 (by decide)
theorem mU_7 : mU f o I A (o + 7) = .inl (0, (256, .inl (A 6))) := rU_at 7 (by decide)
theorem mU_8 : mU f o I A (o + 8) = .inl (0, (180, .inl (A 7))) := rU_at 8 (by decide)
theorem upd_va {g : Nat → Int32} {k : Nat} {x : Int32} : upd g k x = va_up g k x := rfl
theorem mC_ne {j k : Nat} {v : Int32} (hj : j ≠ 0) : mC o (va_up I k v) A j = mC o I A j := by
  match j, hj with
  | 1, _ => rfl
  | 2, _ => rfl
  | 3, _ => rfl
  | 4, _ => rfl
  | 5, _ => rfl
  | 6, _ => rfl
  | 7, _ => rfl
  | 8, _ => rfl
  | _ + 9, _ => rfl
theorem mC_I {k : Nat} {v : Int32} (hk : k = 3 ∨ k = 5 ∨ k = 7 ∨ k = 8 ∨ k = 9 ∨ k = 11 ∨ k = 12 ∨ k = 14 ∨ k = 15) : va_up (mC o I A) 0 (.inr (7, (mFs o I).set k (.int v))) = mC o (va_up I k v) A := by
  funext j
  by_cases hj : j = 0
  · subst hj
    rw [up_self]
    show _ = (Sum.inr (7, mFs o (va_up I k v)) : va_E)
    rcases hk with rfl | rfl | rfl | rfl | rfl | rfl | rfl | rfl | rfl <;> rfl
  · rw [up_ne hj, mC_ne hj]
theorem mC_A {j : Nat} (hj : j < 8) {t N : Nat} {h : Nat → Int32} (he : ∀ A' : Nat → Nat → Int32, mC o I A' (j + 1) = .inl (t, (N, .inl (A' j)))) : va_up (mC o I A) (j + 1) (.inl (t, (N, .inl h))) = mC o I (va_up A j h) := by
  funext k
  by_cases hk : k = j + 1
  · subst hk
    rw [up_self, he, up_self]
  · rw [up_ne hk]
    have ha : ∀ i, i ≠ j → va_up A j h i = A i := fun i hi => up_ne hi
    match k, hk with
    | 0, _ => rfl
    | 1, hk => show (Sum.inl (0, (48, .inl (A 0))) : va_E) = .inl (0, (48, .inl (va_up A j h 0))); rw [ha 0 (by omega)]
    | 2, hk => show (Sum.inl (0, (48, .inl (A 1))) : va_E) = .inl (0, (48, .inl (va_up A j h 1))); rw [ha 1 (by omega)]
    | 3, hk => show (Sum.inl (0, (384, .inl (A 2))) : va_E) = .inl (0, (384, .inl (va_up A j h 2))); rw [ha 2 (by omega)]
    | 4, hk => show (Sum.inl (0, (48, .inl (A 3))) : va_E) = .inl (0, (48, .inl (va_up A j h 3))); rw [ha 3 (by omega)]
    | 5, hk => show (Sum.inl (1, (60, .inl (A 4))) : va_E) = .inl (1, (60, .inl (va_up A j h 4))); rw [ha 4 (by omega)]
    | 6, hk => show (Sum.inl (1, (60, .inl (A 5))) : va_E) = .inl (1, (60, .inl (va_up A j h 5))); rw [ha 5 (by omega)]
    | 7, hk => show (Sum.inl (0, (256, .inl (A 6))) : va_E) = .inl (0, (256, .inl (va_up A j h 6))); rw [ha 6 (by omega)]
    | 8, hk => show (Sum.inl (0, (180, .inl (A 7))) : va_E) = .inl (0, (180, .inl (va_up A j h 7))); rw [ha 7 (by omega)]
    | k + 9, hk => rfl
section MW
variable {l : Launch} {G : GT} {M : MT} {fr lo mc ms : Nat} {Post : PT} {n0 nc ns pc : Nat} {L : List (Nat × Value)} {S : List Value} {n : Nat}
theorem aw_mput {ix k : Nat} {v : Int32} {ty : FieldType} (hF : FP M.1 ix 7 k ty) (hk : k = 3 ∨ k = 5 ∨ k = 7 ∨ k = 8 ∨ k = 9 ∨ k = 11 ∨ k = 12 ∨ k = 14 ∨ k = 15) (hn : narrow ty (.int v) = .int v) (hfit : fits ty (.int v) = true) (hdg : decode M.2.1 pc = .ok (.putfield ix, 3)) (kk : AW l G M fr lo mc ms Post n0 nc ns (pc + 3) L S (mU f o (va_up I k v) A) n) : AW l G M fr lo mc ms Post n0 nc ns pc L (.int v :: .ref o :: S) (mU f o I A) n := by
  refine aw_put hF mU_0 (fun _ => hn) (fun _ => hfit) (by show k < 17; omega) hdg ?_
  have e : va_up (mU f o I A) o (.inr (7, (mFs o I).set k (.int v))) = mU f o (va_up I k v) A := (rU_up 0 (by decide) _).trans (by rw [mC_I hk])
  rw [e]
  exact kk
theorem mU_A {j : Nat} (hj : j < 8) {t N : Nat} {h : Nat → Int32} (he : ∀ A' : Nat → Nat → Int32, mC o I A' (j + 1) = .inl (t, (N, .inl (A' j)))) : va_up (mU f o I A) (o + (j + 1)) (.inl (t, (N, .inl h))) = mU f o I (va_up A j h) := (rU_up (j + 1) (by omega) _).trans (by rw [mC_A hj he])
theorem mU_A0 {h : Nat → Int32} : va_up (mU f o I A) (o + 1) (.inl (0, (48, .inl h))) = mU f o I (va_up A 0 h) := mU_A (j := 0) (by decide) (fun _ => rfl)
theorem mU_A1 {h : Nat → Int32} : va_up (mU f o I A) (o + 2) (.inl (0, (48, .inl h))) = mU f o I (va_up A 1 h) := mU_A (j := 1) (by decide) (fun _ => rfl)
theorem mU_A2 {h : Nat → Int32} : va_up (mU f o I A) (o + 3) (.inl (0, (384, .inl h))) = mU f o I (va_up A 2 h) := mU_A (j := 2) (by decide) (fun _ => rfl)
theorem mU_A3 {h : Nat → Int32} : va_up (mU f o I A) (o + 4) (.inl (0, (48, .inl h))) = mU f o I (va_up A 3 h) := mU_A (j := 3) (by decide) (fun _ => rfl)
theorem mU_A4 {h : Nat → Int32} : va_up (mU f o I A) (o + 5) (.inl (1, (60, .inl h))) = mU f o I (va_up A 4 h) := mU_A (j := 4) (by decide) (fun _ => rfl)
theorem mU_A5 {h : Nat → Int32} : va_up (mU f o I A) (o + 6) (.inl (1, (60, .inl h))) = mU f o I (va_up A 5 h) := mU_A (j := 5) (by decide) (fun _ => rfl)
theorem mU_A6 {h : Nat → Int32} : va_up (mU f o I A) (o + 7) (.inl (0, (256, .inl h))) = mU f o I (va_up A 6 h) := mU_A (j := 6) (by decide) (fun _ => rfl)
theorem mU_A7 {h : Nat → Int32} : va_up (mU f o I A) (o + 8) (.inl (0, (180, .inl h))) = mU f o I (va_up A 7 h) := mU_A (j := 7) (by decide) (fun _ => rfl)
/-- a cell of the gymnasium's numbers is written -/
def Mok (A : Nat → Nat → Int32) (V : Nat → Nat) : Prop := ∀ i, i < 48 → A 0 i = nI (V i)
theorem Mok.set {A : Nat → Nat → Int32} {V : Nat → Nat} (h : Mok A V) (k x : Nat) : Mok (va_up A 0 (upd (A 0) k (nI x))) (va_up V k x) := by
  intro i hi
  rw [up_self]
  by_cases hk : i = k
  · subst hk; rw [pk_us, up_self]
  · rw [pk_un hk, up_ne hk]; exact h i hi
theorem aw_mst {V : Nat → Nat} (hA : Mok A V) {k x : Nat} (hk : k < 48) (hdg : decode M.2.1 pc = .ok (.iastore, 1)) (kk : ∀ A' : Nat → Nat → Int32, Mok A' (va_up V k x) → (∀ j, j ≠ 0 → A' j = A j) → AW l G M fr lo mc ms Post n0 nc ns (pc + 1) L S (mU f o I A') n) : AW l G M fr lo mc ms Post n0 nc ns pc L (.int (nI x) :: .int (nI k) :: .ref (o + 1) :: S) (mU f o I A) n := by
  refine aw_iast_n mU_1 hk (by decide) hdg ?_
  rw [mU_A0]
  exact kk _ (hA.set k x) (fun j hj => up_ne hj)
theorem aw_mld {V : Nat → Nat} (hA : Mok A V) {k : Nat} (hk : k < 48) (hdg : decode M.2.1 pc = .ok (.iaload, 1)) (kk : AW l G M fr lo mc ms Post n0 nc ns (pc + 1) L (.int (nI (V k)) :: S) (mU f o I A) n) : AW l G M fr lo mc ms Post n0 nc ns pc L (.int (nI k) :: .ref (o + 1) :: S) (mU f o I A) n :=
  aw_iald_n mU_1 hk (by decide) (hA k hk) hdg kk
theorem aw_mldv {V : Nat → Nat} (hA : Mok A V) {k v : Nat} (hk : k < 48) (hv : V k = v) (hdg : decode M.2.1 pc = .ok (.iaload, 1)) (kk : AW l G M fr lo mc ms Post n0 nc ns (pc + 1) L (.int (nI v) :: S) (mU f o I A) n) : AW l G M fr lo mc ms Post n0 nc ns pc L (.int (nI k) :: .ref (o + 1) :: S) (mU f o I A) n :=
  aw_iald_n mU_1 hk (by decide) ((hA k hk).trans (by rw [hv])) hdg kk
/-- a change's answer: q = (what is thrown, the answer, the numbers behind) -/
def PO (f : HT) (o : Nat) (I : Nat → Int32) (A : Nat → Nat → Int32) (q : Nat × Nat × (Nat → Nat)) (n : Nat) : PT := fun r f' n' =>
  r = .inl (some (.int (nI q.2.1))) ∧ n' = n ∧ ∃ A' : Nat → Nat → Int32, f' = mU f o (va_up I 12 (nI q.1)) A' ∧ Mok A' q.2.2 ∧ ∀ j, j ≠ 0 → A' j = A j
theorem PO_of {q : Nat × Nat × (Nat → Nat)} {c x : Nat} {V' : Nat → Nat} {A' : Nat → Nat → Int32} (hq : q = (c, x, V')) (hM : Mok A' V') (hR : ∀ j, j ≠ 0 → A' j = A j) : PO f o I A q n (.inl (some (.int (nI x)))) (mU f o (va_up I 12 (nI c)) A') n := by
  subst hq
  exact ⟨rfl, rfl, A', rfl, hM, hR⟩
end MW
end MR
/-- the bounds of the gymnasium's numbers; K bounds the clock -/
def VB (K : Nat) (V : Nat → Nat) : Prop := V 0 ≤ K ∧ K < 16000000 ∧ V 1 ≤ 30 ∧ V 2 ≤ 8 ∧ V 3 ≤ 6 ∧ (∀ k, k < 8 → V (4 + k) ≤ 99 ∧ (k < V 2 → 1 ≤ V (4 + k))) ∧ (∀ k, k < 8 → V (12 + k) ≤ 60 ∧ V (20 + k) ≤ V 0 ∧ V (28 + k) ≤ V 0 ∧ (V 2 ≤ k → V (12 + k) = 0 ∧ V (20 + k) = 0 ∧ V (28 + k) = 0)) ∧ (∀ k, k < 3 → V (36 + k) ≤ 60 ∧ V (39 + k) < 8) ∧ (∀ k, k < 6 → V (42 + k) ≤ 60)
section VBS
variable {K : Nat} {V : Nat → Nat}
theorem VB.now (h : VB K V) : V 0 ≤ K := h.1
theorem VB.kk (h : VB K V) : K < 16000000 := h.2.1
theorem VB.fric (h : VB K V) : V 1 ≤ 30 := h.2.2.1
theorem VB.cnt (h : VB K V) : V 2 ≤ 8 := h.2.2.2.1
theorem VB.legs (h : VB K V) : V 3 ≤ 6 := h.2.2.2.2.1
theorem VB.len (h : VB K V) {k : Nat} (hk : k < 8) : V (4 + k) ≤ 99 := (h.2.2.2.2.2.1 k hk).1
theorem VB.len1 (h : VB K V) {k : Nat} (hk : k < V 2) : 1 ≤ V (4 + k) := (h.2.2.2.2.2.1 k (Nat.lt_of_lt_of_le hk h.cnt)).2 hk
theorem VB.amp (h : VB K V) {k : Nat} (hk : k < 8) : V (12 + k) ≤ 60 := (h.2.2.2.2.2.2.1 k hk).1
theorem VB.start (h : VB K V) {k : Nat} (hk : k < 8) : V (20 + k) ≤ V 0 := (h.2.2.2.2.2.2.1 k hk).2.1
theorem VB.sw (h : VB K V) {k : Nat} (hk : k < 8) : V (28 + k) ≤ V 0 := (h.2.2.2.2.2.2.1 k hk).2.2.1
theorem VB.dead (h : VB K V) {k : Nat} (hk : k < 8) (h2 : V 2 ≤ k) : V (12 + k) = 0 ∧ V (20 + k) = 0 ∧ V (28 + k) = 0 := (h.2.2.2.2.2.2.1 k hk).2.2.2 h2
theorem VB.rec (h : VB K V) {k : Nat} (hk : k < 3) : V (36 + k) ≤ 60 := (h.2.2.2.2.2.2.2.1 k hk).1
theorem VB.hol (h : VB K V) {k : Nat} (hk : k < 3) : V (39 + k) < 8 := (h.2.2.2.2.2.2.2.1 k hk).2
theorem VB.wish (h : VB K V) {k : Nat} (hk : k < 6) : V (42 + k) ≤ 60 := h.2.2.2.2.2.2.2.2 k hk
theorem VB.lt (h : VB K V) {i : Nat} (hi : i < 48) : V i < 16000000 := by
  have h0 := h.now
  have hK := h.kk
  rcases (by omega : i = 0 ∨ i = 1 ∨ i = 2 ∨ i = 3 ∨ (4 ≤ i ∧ i < 12) ∨ (12 ≤ i ∧ i < 20) ∨ (20 ≤ i ∧ i < 28) ∨ (28 ≤ i ∧ i < 36) ∨ (36 ≤ i ∧ i < 39) ∨ (39 ≤ i ∧ i < 42) ∨ (42 ≤ i ∧ i < 48)) with rfl | rfl | rfl | rfl | hi | hi | hi | hi | hi | hi | hi
  · omega
  · have := h.fric; omega
  · have := h.cnt; omega
  · have := h.legs; omega
  · have := h.len (k := i - 4) (by omega); rw [show 4 + (i - 4) = i by omega] at this; omega
  · have := h.amp (k := i - 12) (by omega); rw [show 12 + (i - 12) = i by omega] at this; omega
  · have := h.start (k := i - 20) (by omega); rw [show 20 + (i - 20) = i by omega] at this; omega
  · have := h.sw (k := i - 28) (by omega); rw [show 28 + (i - 28) = i by omega] at this; omega
  · have := h.rec (k := i - 36) (by omega); rw [show 36 + (i - 36) = i by omega] at this; omega
  · have := h.hol (k := i - 39) (by omega); rw [show 39 + (i - 39) = i by omega] at this; omega
  · have := h.wish (k := i - 42) (by omega); rw [show 42 + (i - 42) = i by omega] at this; omega
end VBS
