theorem swN_lt {fr a : Nat} (h : 1 ≤ a) : swN fr a < a := by
  unfold swN
  have : 1 ≤ max 1 (a * fr / 100) := Nat.le_max_left _ _
  omega
theorem swN_0 {fr : Nat} : swN fr 0 = 0 := Nat.zero_sub _
def swL (fr : Nat) : Nat → Nat → Nat
  | 0, _ => 0
  | n + 1, a => if a = 0 then 0 else 1 + swL fr n (swN fr a)
/-- the swings to rest -/
def leftN (fr a : Nat) : Nat := swL fr a a
theorem swL_st {fr : Nat} : ∀ (n m a : Nat), a ≤ n → a ≤ m → swL fr n a = swL fr m a := by
  intro n
  induction n with
  | zero => intro m a h _; have : a = 0 := by omega
            subst this; cases m <;> rfl
  | succ n ih =>
    intro m a h1 h2
    cases m with
    | zero => have : a = 0 := by omega
              subst this; rfl
    | succ m =>
      unfold swL
      by_cases h : a = 0
      · rw [if_pos h, if_pos h]
      · rw [if_neg h, if_neg h, ih m _ (by have := swN_lt (fr := fr) (a := a) (by omega); omega) (by have := swN_lt (fr := fr) (a := a) (by omega); omega)]
theorem left_0 {fr : Nat} : leftN fr 0 = 0 := rfl
theorem left_s {fr a : Nat} (h : 1 ≤ a) : leftN fr a = 1 + leftN fr (swN fr a) := by
  have h1 := swN_lt (fr := fr) h
  obtain ⟨b, rfl⟩ : ∃ b, a = b + 1 := ⟨a - 1, by omega⟩
  show (if b + 1 = 0 then 0 else 1 + swL fr b (swN fr (b + 1))) = _
  rw [if_neg (by omega), swL_st b (swN fr (b + 1)) _ (by omega) (Nat.le_refl _)]
  rfl
theorem left_le {fr : Nat} : ∀ a, leftN fr a ≤ a := by
  intro a
  induction a using Nat.strongRecOn with
  | ind a ih =>
    rcases Nat.eq_zero_or_pos a with rfl | h
    · exact Nat.le_refl _
    · rw [left_s h]
      have := ih _ (swN_lt (fr := fr) h)
      have := swN_lt (fr := fr) h
      omega
def swIt (fr : Nat) : Nat → Nat → Nat
  | 0, a => a
  | n + 1, a => swIt fr n (swN fr a)
theorem swIt_0 {fr : Nat} : ∀ n, swIt fr n 0 = 0 := by
  intro n
  induction n with
  | zero => rfl
  | succ n ih => show swIt fr n (swN fr 0) = 0; rw [swN_0]; exact ih
def untilN (V : Nat → Nat) (k t : Nat) : Nat := (t - V (20 + k)) / perN (V (4 + k))
def qLeft (V : Nat → Nat) (v : Int32) : Nat × Nat := if isK v (V 2) = true then (0, leftN (V 1) (V (12 + v.toNatClampNeg))) else (1, 0)
def qRest (V : Nat → Nat) (v : Int32) : Nat × Nat := if isK v (V 2) = true then (if V (12 + v.toNatClampNeg) = 0 then (2, 0) else (0, V (20 + v.toNatClampNeg) + (untilN V v.toNatClampNeg (V 0) + leftN (V 1) (V (12 + v.toNatClampNeg))) * perN (V (4 + v.toNatClampNeg)))) else (1, 0)
def afterN (V : Nat → Nat) (k t : Nat) : Nat := if V (12 + k) = 0 then 0 else swIt (V 1) (untilN V k (V 0 + t) - untilN V k (V 0)) (V (12 + k))
def qAfter (V : Nat → Nat) (v t : Int32) : Nat × Nat := if isK v (V 2) = true then (if inB t (nI 0) (nI 500) = true then (0, afterN V v.toNatClampNeg t.toNatClampNeg) else (2, 0)) else (1, 0)
def cyN (p q : Nat) : Nat := p / Nat.gcd p q * q
theorem cy_le {p q : Nat} (hp : p ≤ 59) (hq : q ≤ 59) : cyN p q ≤ 3481 := by
  unfold cyN
  have h1 : p / Nat.gcd p q ≤ p := Nat.div_le_self _ _
  exact Nat.le_trans (Nat.mul_le_mul (Nat.le_trans h1 hp) hq) (by decide)
/-- the first of n ticks from t on in which both swing -/
def mtF (s1 p1 s2 p2 : Nat) : Nat → Nat → Option Nat
  | 0, _ => none
  | n + 1, t => if (t - s1) % p1 = 0 ∧ (t - s2) % p2 = 0 then some t else mtF s1 p1 s2 p2 n (t + 1)
def mtV (V : Nat → Nat) (a c : Nat) : Option Nat := mtF (V (20 + a)) (perN (V (4 + a))) (V (20 + c)) (perN (V (4 + c))) (cyN (perN (V (4 + a))) (perN (V (4 + c)))) (V 0 + 1)
def mtI (r : Option Nat) : Int32 := match r with
  | some t => nI t
  | none => -1
theorem mtF_lt {s1 p1 s2 p2 : Nat} : ∀ n t x, mtF s1 p1 s2 p2 n t = some x → x < t + n := by
  intro n
  induction n with
  | zero => intro t x h; cases h
  | succ n ih =>
    intro t x h
    unfold mtF at h
    split at h
    · cases h; omega
    · have := ih _ _ h; omega
def qMeet (V : Nat → Nat) (v w : Int32) : Nat × Nat := if isK v (V 2) = true ∧ isK w (V 2) = true then
    (if V (12 + v.toNatClampNeg) = 0 ∨ V (12 + w.toNatClampNeg) = 0 then (2, 0) else match mtV V v.toNatClampNeg w.toNatClampNeg with
      | some t => (0, t)
      | none => (3, 0)) else (1, 0)
def qCycle (V : Nat → Nat) (v w : Int32) : Nat × Nat := if isK v (V 2) = true ∧ isK w (V 2) = true then (0, cyN (perN (V (4 + v.toNatClampNeg))) (perN (V (4 + w.toNatClampNeg)))) else (1, 0)
def apart (a b : Nat) : Nat := (a - b) + (b - a)
theorem abs_nI {a b : Nat} (ha : a < 2 ^ 30) (hb : b < 2 ^ 30) : (if nI a - nI b < 0 then -(nI a - nI b) else nI a - nI b) = nI (apart a b) := by
  have h1 := pk_sub_toInt ha hb
  have h2 := pk_sub_toInt hb ha
  unfold apart
  by_cases h : b ≤ a
  · rw [if_neg (by rw [Int32.lt_iff_toInt_lt, h1, Int32.toInt_zero]; omega), pk_sub h, show b - a = 0 by omega, Nat.add_zero]
  · rw [if_pos (by rw [Int32.lt_iff_toInt_lt, h1, Int32.toInt_zero]; omega), Int32.neg_sub, pk_sub (by omega), show a - b = 0 by omega, Nat.zero_add]
/-- do they meet -/
def pairB (V : Nat → Nat) (a c : Nat) : Bool := decide (V (12 + a) ≠ 0 ∧ V (12 + c) ≠ 0 ∧ apart (V (20 + a)) (V (20 + c)) % Nat.gcd (perN (V (4 + a))) (perN (V (4 + c))) = 0)
def prI (V : Nat → Nat) (c : Nat) : Nat → Nat
  | 0 => 0
  | u + 1 => prI V c u + (if pairB V u c = true then 1 else 0)
def prO (V : Nat → Nat) : Nat → Nat
  | 0 => 0
  | u + 1 => prO V u + prI V u u
theorem mtF_yes {s1 p1 s2 p2 n t : Nat} (h1 : (t - s1) % p1 = 0) (h2 : (t - s2) % p2 = 0) : mtF s1 p1 s2 p2 (n + 1) t = some t := by
  unfold mtF
  rw [if_pos ⟨h1, h2⟩]
theorem mtF_no {s1 p1 s2 p2 n t : Nat} (h : (t - s1) % p1 ≠ 0 ∨ (t - s2) % p2 ≠ 0) : mtF s1 p1 s2 p2 (n + 1) t = mtF s1 p1 s2 p2 n (t + 1) := by
  show (if (t - s1) % p1 = 0 ∧ (t - s2) % p2 = 0 then some t else mtF s1 p1 s2 p2 n (t + 1)) = _
  rw [if_neg (by omega)]
theorem nI_m1 {t : Nat} (h : t < 2 ^ 31) (e : nI t = -1) : False := by
  have := nI_toInt h
  rw [e] at this
  exact absurd this (by have : (-1 : Int32).toInt = -1 := by decide
                        omega)
abbrev MX11_swingsLeft : MT := (RX11, cX11_swingsLeft, 4, (some .int), [], "swingsLeft")
set_option maxHeartbeats 4000000 in
theorem m_left_loop {l : Launch} {G : GT} {n : Nat} {f : HT} {o : Nat} {I : Nat → Int32} {A : Nat → Nat → Int32} {K : Nat} {V : Nat → Nat} (hA : Mok A V) (hB : VB K V) : ∀ (N : Nat) (a cnt : Nat), (a = N) → (a ≤ 60) → (cnt + a ≤ 60) → AW l G MX11_swingsLeft 1 60 0 0 (rI (nI (cnt + leftN (V 1) a)) (mU f o I A) n) n 0 0 12 [(3, .int (nI a)), (2, .int (nI cnt)), (0, .ref o)] [] (mU f o I A) n := by
  intro N
  induction N using Nat.strongRecOn with
  | ind N ih =>
    intro a cnt hN ha hs
    have hcnt := VB.cnt hB
    have hleg := VB.legs hB
    have hfr := VB.fric hB
    have hnow := VB.now hB
    have hkk := VB.kk hB
    refine aw_iload_n dX11_swingsLeft_12 rfl rfl ?_
    refine aw_if_le_n (by omega) (tgt := 28) dX11_swingsLeft_13 (by decide) (fun c_1 => ?_) (fun c_1 => ?_)
    · refine aw_iload_n dX11_swingsLeft_28 rfl rfl ?_
      exact aw_iret rfl (by decide) (by decide) dX11_swingsLeft_29 (rI_of (by rw [c_1, left_0]; rfl))
    · refine aw_iinc_n (L' := [(2, .int (nI (cnt + 1))), (3, .int (nI a)), (0, .ref o)]) 1 dX11_swingsLeft_16 rfl (by decide) (by decide) rfl ?_
      refine aw_aload_n dX11_swingsLeft_19 rfl rfl ?_
      refine aw_iload_n dX11_swingsLeft_20 rfl rfl ?_
      refine aw_vI (as := [Value.int (nI a)]) (rest := []) mV_X11_behindSwing (m_swing hA (fr := V 1) rfl (by omega) (by omega) (by omega)) ml_X11_95 mU_0 rfl dX11_swingsLeft_21 rfl rfl (by decide) (Nat.le_of_ble_eq_true rfl) (by decide) ?_
      refine aw_istore_n (L' := [(3, .int (nI (swN (V 1) a))), (2, .int (nI (cnt + 1))), (0, .ref o)]) dX11_swingsLeft_24 rfl (by decide) rfl ?_
      refine aw_goto (tgt := 12) dX11_swingsLeft_25 (by decide) ?_
      have hsw := swN_lt (fr := V 1) (a := a) (by omega)
      rw [left_s (by omega), show cnt + (1 + leftN (V 1) (swN (V 1) a)) = (cnt + 1) + leftN (V 1) (swN (V 1) a) by omega]
      refine aw_sub [(3, .int (nI (swN (V 1) a))), (2, .int (nI (cnt + 1))), (0, .ref o)] (by simp) ?_
      exact ih _ (by omega) _ _ rfl (by omega) (by omega)
set_option maxHeartbeats 4000000 in
theorem m_left {l : Launch} {G : GT} {n : Nat} {f : HT} {o : Nat} {I : Nat → Int32} {A : Nat → Nat → Int32} {K : Nat} {V : Nat → Nat} (hA : Mok A V) (hB : VB K V) {k : Nat} (hk : k < 8) : AM l G yX11_swingsLeft (.code yX11_swingsLeft cX11_swingsLeft 4 (some .int)) 1 60 0 0 [.ref o, .int (nI k)] (mU f o I A) n (rI (nI (leftN (V 1) (V (12 + k)))) (mU f o I A) n) := by
  refine aw_enter (M := MX11_swingsLeft) rfl rfl (by decide +kernel) rfl (Nat.le_of_ble_eq_true rfl) ?_
  have hax := VB.amp hB hk
  show AW l G MX11_swingsLeft 1 60 0 0 _ n 0 0 0 [(0, .ref o), (1, .int (nI k))] [] _ n
  refine aw_iconst_n 0 dX11_swingsLeft_0 (by decide) ?_
  refine aw_istore_n (L' := [(2, .int (nI 0)), (0, .ref o), (1, .int (nI k))]) dX11_swingsLeft_1 rfl (by decide) rfl ?_
  refine aw_aload_n dX11_swingsLeft_2 rfl rfl ?_
  refine aw_get (v := .ref (o + 1)) fl_X11_7 mU_0 rfl dX11_swingsLeft_3 ?_
  refine aw_bipush_n 12 dX11_swingsLeft_6 (by decide) ?_
  refine aw_iload_n dX11_swingsLeft_8 rfl rfl ?_
  refine aw_iadd_n dX11_swingsLeft_9 ?_
  refine aw_mld hA (k := 12 + k) (by omega) dX11_swingsLeft_10 ?_
  have hb_1 : V (12 + k) < 16000000 := VB.lt hB (by omega)
  refine aw_istore_n (L' := [(3, .int (nI (V (12 + k)))), (2, .int (nI 0)), (0, .ref o), (1, .int (nI k))]) dX11_swingsLeft_11 rfl (by decide) rfl ?_
  have h := m_left_loop (l := l) (G := G) (n := n) (f := f) (o := o) (I := I) hA hB _ (V (12 + k)) 0 rfl (by omega) (by omega)
  rw [Nat.zero_add] at h
  exact aw_sub [(3, .int (nI (V (12 + k)))), (2, .int (nI 0)), (0, .ref o)] (by simp) h
abbrev MX11_swingsToRest : MT := (RX11, cX11_swingsToRest, 2, (some .int), [], "swingsToRest")
set_option maxHeartbeats 4000000 in
theorem m_swingsToRest {l : Launch} {G : GT} {n : Nat} {f : HT} {o : Nat} {I : Nat → Int32} {A : Nat → Nat → Int32} {K : Nat} {V : Nat → Nat} (hA : Mok A V) (hB : VB K V) (v : Int32) : AM l G yX11_swingsToRest (.code yX11_swingsToRest cX11_swingsToRest 2 (some .int)) 2 120 0 0 [.ref o, .int v] (mU f o I A) n (RQ f o I A (qLeft V v) n) := by
  refine aw_enter (M := MX11_swingsToRest) rfl rfl (by decide +kernel) rfl (Nat.le_of_ble_eq_true rfl) ?_
  have hcnt := VB.cnt hB
  have hleg := VB.legs hB
  have hfr := VB.fric hB
  have hnow := VB.now hB
  have hkk := VB.kk hB
  show AW l G MX11_swingsToRest 2 120 0 0 _ n 0 0 0 [(0, .ref o), (1, .int v)] [] _ n
  refine aw_aload_n dX11_swingsToRest_0 rfl rfl ?_
  refine aw_iload_n dX11_swingsToRest_1 rfl rfl ?_
  refine aw_vI (as := [Value.int v]) (rest := []) mV_X11_isPendulum (m_isP hA (c := V 2) v rfl (by omega)) ml_X11_72 mU_0 rfl dX11_swingsToRest_2 rfl rfl (by decide) (Nat.le_of_ble_eq_true rfl) (by decide) ?_
  refine aw_if_eq_b (tgt := 20) dX11_swingsToRest_5 (by decide) (fun c_1 => ?_) (fun c_1 => ?_)
  · refine aw_aload_n dX11_swingsToRest_20 rfl rfl ?_
    refine aw_iconst_n 1 dX11_swingsToRest_21 (by decide) ?_
    refine aw_vI (as := [Value.int (nI 1)]) (rest := []) mV_X11_fails (m_fails 1) ml_X11_56 mU_0 rfl dX11_swingsToRest_22 rfl rfl (by decide) (Nat.le_of_ble_eq_true rfl) (by decide) ?_
    exact aw_iret rfl (by decide) (by decide) dX11_swingsToRest_25 (RQ_of (by simp [qLeft, c_1]))
  · obtain ⟨x, hx1, rfl⟩ := isK_of (by omega) c_1
    have hax := VB.amp hB (k := x) (by omega)
    have hlx := VB.len hB (k := x) (by omega)
    have hl1 := VB.len1 hB (k := x) (by omega)
    have hsx := VB.start hB (k := x) (by omega)
    have hwx := VB.sw hB (k := x) (by omega)
    have hnx := nIc (show x < 2 ^ 31 by omega)
    have hpp := per_pos hl1
    have hpl := per_le hlx
    refine aw_aload_n dX11_swingsToRest_8 rfl rfl ?_
    refine aw_aload_n dX11_swingsToRest_9 rfl rfl ?_
    refine aw_iload_n dX11_swingsToRest_10 rfl rfl ?_
    refine aw_vI (as := [Value.int (nI x)]) (rest := [Value.ref o]) mV_X11_swingsLeft (m_left hA hB (by omega)) ml_X11_118 mU_0 rfl dX11_swingsToRest_11 rfl rfl (by decide) (Nat.le_of_ble_eq_true rfl) (by decide) ?_
    have hll := left_le (fr := V 1) (V (12 + x))
    refine aw_vI (as := [Value.int (nI (leftN (V 1) (V (12 + x))))]) (rest := []) mV_X11_done (m_done (nI (leftN (V 1) (V (12 + x))))) ml_X11_60 mU_0 rfl dX11_swingsToRest_14 rfl rfl (by decide) (Nat.le_of_ble_eq_true rfl) (by decide) ?_
    refine aw_goto (tgt := 25) dX11_swingsToRest_17 (by decide) ?_
    exact aw_iret rfl (by decide) (by decide) dX11_swingsToRest_25 (RQ_of (by simp [qLeft, c_1, hnx]))
abbrev MX11_swingsToRestByTable : MT := (RX11, cX11_swingsToRestByTable, 2, (some .int), [], "swingsToRestByTable")
set_option maxHeartbeats 4000000 in
theorem m_swingsToRestByTable {l : Launch} {G : GT} {n : Nat} {f : HT} {o : Nat} {I : Nat → Int32} {A : Nat → Nat → Int32} {K : Nat} {V : Nat → Nat} (hA : Mok A V) (hB : VB K V) (v : Int32) : AM l G yX11_swingsToRestByTable (.code yX11_swingsToRestByTable cX11_swingsToRestByTable 2 (some .int)) 3 180 0 0 [.ref o, .int v] (mU f o I A) n (RQ f o I A (qLeft V v) n) := by
  refine aw_enter (M := MX11_swingsToRestByTable) rfl rfl (by decide +kernel) rfl (Nat.le_of_ble_eq_true rfl) ?_
  have hcnt := VB.cnt hB
  have hleg := VB.legs hB
  have hfr := VB.fric hB
  have hnow := VB.now hB
  have hkk := VB.kk hB
  show AW l G MX11_swingsToRestByTable 3 180 0 0 _ n 0 0 0 [(0, .ref o), (1, .int v)] [] _ n
  refine aw_aload_n dX11_swingsToRestByTable_0 rfl rfl ?_
  refine aw_iload_n dX11_swingsToRestByTable_1 rfl rfl ?_
  refine aw_vI (as := [Value.int v]) (rest := []) mV_X11_swingsToRest (m_swingsToRest hA hB v) ml_X11_121 mU_0 rfl dX11_swingsToRestByTable_2 rfl rfl (by decide) (Nat.le_of_ble_eq_true rfl) (by decide) ?_
  exact aw_iret rfl (by decide) (by decide) dX11_swingsToRestByTable_5 ⟨rfl, rfl, rfl⟩
abbrev MX11_swingsUntil : MT := (RX11, cX11_swingsUntil, 3, (some .int), [], "swingsUntil")
set_option maxHeartbeats 4000000 in
theorem m_until {l : Launch} {G : GT} {n : Nat} {f : HT} {o : Nat} {I : Nat → Int32} {A : Nat → Nat → Int32} {K : Nat} {V : Nat → Nat} (hA : Mok A V) (hB : VB K V) {k t : Nat} (hk : k < V 2) (hs : V (20 + k) ≤ t) (ht : t < 20000000) : AM l G yX11_swingsUntil (.code yX11_swingsUntil cX11_swingsUntil 3 (some .int)) 1 60 0 0 [.ref o, .int (nI k), .int (nI t)] (mU f o I A) n (rI (nI (untilN V k t)) (mU f o I A) n) := by
  refine aw_enter (M := MX11_swingsUntil) rfl rfl (by decide +kernel) rfl (Nat.le_of_ble_eq_true rfl) ?_
  have hcnt := VB.cnt hB
  have hleg := VB.legs hB
  have hfr := VB.fric hB
  have hnow := VB.now hB
  have hkk := VB.kk hB
  have hax := VB.amp hB (k := k) (by omega)
  have hlx := VB.len hB (k := k) (by omega)
  have hl1 := VB.len1 hB (k := k) (by omega)
  have hsx := VB.start hB (k := k) (by omega)
  have hwx := VB.sw hB (k := k) (by omega)
  have hnx := nIc (show k < 2 ^ 31 by omega)
  have hpp := per_pos hl1
  have hpl := per_le hlx
  show AW l G MX11_swingsUntil 1 60 0 0 _ n 0 0 0 [(0, .ref o), (1, .int (nI k)), (2, .int (nI t))] [] _ n
  refine aw_iload_n dX11_swingsUntil_0 rfl rfl ?_
  refine aw_aload_n dX11_swingsUntil_1 rfl rfl ?_
  refine aw_get (v := .ref (o + 1)) fl_X11_7 mU_0 rfl dX11_swingsUntil_2 ?_
  refine aw_bipush_n 20 dX11_swingsUntil_5 (by decide) ?_
  refine aw_iload_n dX11_swingsUntil_7 rfl rfl ?_
  refine aw_iadd_n dX11_swingsUntil_8 ?_
  refine aw_mld hA (k := 20 + k) (by omega) dX11_swingsUntil_9 ?_
  have hb_1 : V (20 + k) < 16000000 := VB.lt hB (by omega)
  refine aw_isub_n (by omega) dX11_swingsUntil_10 ?_
  refine aw_aload_n dX11_swingsUntil_11 rfl rfl ?_
  refine aw_iload_n dX11_swingsUntil_12 rfl rfl ?_
  refine aw_vI (as := [Value.int (nI k)]) (rest := [Value.int (nI (t - (V (20 + k))))]) mV_X11_period (m_period hA (k := k) (len := V (4 + k)) (by omega) rfl (by omega)) ml_X11_92 mU_0 rfl dX11_swingsUntil_13 rfl rfl (by decide) (Nat.le_of_ble_eq_true rfl) (by decide) ?_
  refine aw_idiv_n (by omega) (by omega) (by omega) dX11_swingsUntil_16 ?_
  exact aw_iret rfl (by decide) (by decide) dX11_swingsUntil_17 (rI_of (by rfl))
abbrev MX11_restTick : MT := (RX11, cX11_restTick, 3, (some .int), [], "restTick")
set_option maxHeartbeats 4000000 in
theorem m_restTick {l : Launch} {G : GT} {n : Nat} {f : HT} {o : Nat} {I : Nat → Int32} {A : Nat → Nat → Int32} {K : Nat} {V : Nat → Nat} (hA : Mok A V) (hB : VB K V) (v : Int32) : AM l G yX11_restTick (.code yX11_restTick cX11_restTick 3 (some .int)) 2 120 0 0 [.ref o, .int v] (mU f o I A) n (RQ f o I A (qRest V v) n) := by
  refine aw_enter (M := MX11_restTick) rfl rfl (by decide +kernel) rfl (Nat.le_of_ble_eq_true rfl) ?_
  have hcnt := VB.cnt hB
  have hleg := VB.legs hB
  have hfr := VB.fric hB
  have hnow := VB.now hB
  have hkk := VB.kk hB
  show AW l G MX11_restTick 2 120 0 0 _ n 0 0 0 [(0, .ref o), (1, .int v)] [] _ n
  refine aw_aload_n dX11_restTick_0 rfl rfl ?_
  refine aw_iload_n dX11_restTick_1 rfl rfl ?_
  refine aw_vI (as := [Value.int v]) (rest := []) mV_X11_isPendulum (m_isP hA (c := V 2) v rfl (by omega)) ml_X11_72 mU_0 rfl dX11_restTick_2 rfl rfl (by decide) (Nat.le_of_ble_eq_true rfl) (by decide) ?_
  refine aw_if_ne_b (tgt := 14) dX11_restTick_5 (by decide) (fun c_1 => ?_) (fun c_1 => ?_)
  · obtain ⟨x, hx1, rfl⟩ := isK_of (by omega) c_1
    have hax := VB.amp hB (k := x) (by omega)
    have hlx := VB.len hB (k := x) (by omega)
    have hl1 := VB.len1 hB (k := x) (by omega)
    have hsx := VB.start hB (k := x) (by omega)
    have hwx := VB.sw hB (k := x) (by omega)
    have hnx := nIc (show x < 2 ^ 31 by omega)
    have hpp := per_pos hl1
    have hpl := per_le hlx
    refine aw_aload_n dX11_restTick_14 rfl rfl ?_
    refine aw_iload_n dX11_restTick_15 rfl rfl ?_
    refine aw_vI (as := [Value.int (nI x)]) (rest := []) mV_X11_rests (m_rests hA (k := x) (a := V (12 + x)) (by omega) rfl (by omega)) ml_X11_76 mU_0 rfl dX11_restTick_16 rfl rfl (by decide) (Nat.le_of_ble_eq_true rfl) (by decide) ?_
    refine aw_if_eq_b (tgt := 28) dX11_restTick_19 (by decide) (fun c_2 => ?_) (fun c_2 => ?_)
    · refine aw_aload_n dX11_restTick_28 rfl rfl ?_
      refine aw_iload_n dX11_restTick_29 rfl rfl ?_
      refine aw_aload_n dX11_restTick_30 rfl rfl ?_
      refine aw_get (v := .ref (o + 1)) fl_X11_7 mU_0 rfl dX11_restTick_31 ?_
      refine aw_iconst_n 0 dX11_restTick_34 (by decide) ?_
      refine aw_mld hA (k := 0) (by omega) dX11_restTick_35 ?_
      have hb_3 : V 0 < 16000000 := VB.lt hB (by omega)
      refine aw_vI (as := [Value.int (nI x), Value.int (nI (V 0))]) (rest := []) mV_X11_swingsUntil (m_until hA hB (by omega) (by omega) (by omega)) ml_X11_124 mU_0 rfl dX11_restTick_36 rfl rfl (by decide) (Nat.le_of_ble_eq_true rfl) (by decide) ?_
      have hu3 : untilN V x (V 0) ≤ V 0 := Nat.le_trans (Nat.div_le_self _ _) (Nat.sub_le _ _)
      refine aw_aload_n dX11_restTick_39 rfl rfl ?_
      refine aw_iload_n dX11_restTick_40 rfl rfl ?_
      refine aw_vI (as := [Value.int (nI x)]) (rest := [Value.int (nI (untilN V x (V 0)))]) mV_X11_swingsLeft (m_left hA hB (by omega)) ml_X11_118 mU_0 rfl dX11_restTick_41 rfl rfl (by decide) (Nat.le_of_ble_eq_true rfl) (by decide) ?_
      have hll := left_le (fr := V 1) (V (12 + x))
      refine aw_iadd_n dX11_restTick_44 ?_
      refine aw_istore_n (L' := [(2, .int (nI ((untilN V x (V 0)) + (leftN (V 1) (V (12 + x)))))), (0, .ref o), (1, .int (nI x))]) dX11_restTick_45 rfl (by decide) rfl ?_
      refine aw_aload_n dX11_restTick_46 rfl rfl ?_
      refine aw_aload_n dX11_restTick_47 rfl rfl ?_
      refine aw_get (v := .ref (o + 1)) fl_X11_7 mU_0 rfl dX11_restTick_48 ?_
      refine aw_bipush_n 20 dX11_restTick_51 (by decide) ?_
      refine aw_iload_n dX11_restTick_53 rfl rfl ?_
      refine aw_iadd_n dX11_restTick_54 ?_
      refine aw_mld hA (k := 20 + x) (by omega) dX11_restTick_55 ?_
      have hb_4 : V (20 + x) < 16000000 := VB.lt hB (by omega)
      refine aw_iload_n dX11_restTick_56 rfl rfl ?_
      refine aw_aload_n dX11_restTick_57 rfl rfl ?_
      refine aw_iload_n dX11_restTick_58 rfl rfl ?_
      refine aw_vI (as := [Value.int (nI x)]) (rest := [Value.int (nI ((untilN V x (V 0)) + (leftN (V 1) (V (12 + x))))), Value.int (nI (V (20 + x))), Value.ref o]) mV_X11_period (m_period hA (k := x) (len := V (4 + x)) (by omega) rfl (by omega)) ml_X11_92 mU_0 rfl dX11_restTick_59 rfl rfl (by decide) (Nat.le_of_ble_eq_true rfl) (by decide) ?_
      refine aw_imul_n dX11_restTick_62 ?_
      refine aw_iadd_n dX11_restTick_63 ?_
      refine aw_vI (as := [Value.int (nI ((V (20 + x)) + (((untilN V x (V 0)) + (leftN (V 1) (V (12 + x)))) * (perN (V (4 + x))))))]) (rest := []) mV_X11_done (m_done (nI ((V (20 + x)) + (((untilN V x (V 0)) + (leftN (V 1) (V (12 + x)))) * (perN (V (4 + x))))))) ml_X11_60 mU_0 rfl dX11_restTick_64 rfl rfl (by decide) (Nat.le_of_ble_eq_true rfl) (by decide) ?_
      exact aw_iret rfl (by decide) (by decide) dX11_restTick_67 (RQ_of (by simp_all [qRest]))
    · refine aw_aload_n dX11_restTick_22 rfl rfl ?_
      refine aw_iconst_n 2 dX11_restTick_23 (by decide) ?_
      refine aw_vI (as := [Value.int (nI 2)]) (rest := []) mV_X11_fails (m_fails 2) ml_X11_56 mU_0 rfl dX11_restTick_24 rfl rfl (by decide) (Nat.le_of_ble_eq_true rfl) (by decide) ?_
      exact aw_iret rfl (by decide) (by decide) dX11_restTick_27 (RQ_of (by simp_all [qRest]))
  · refine aw_aload_n dX11_restTick_8 rfl rfl ?_
    refine aw_iconst_n 1 dX11_restTick_9 (by decide) ?_
    refine aw_vI (as := [Value.int (nI 1)]) (rest := []) mV_X11_fails (m_fails 1) ml_X11_56 mU_0 rfl dX11_restTick_10 rfl rfl (by decide) (Nat.le_of_ble_eq_true rfl) (by decide) ?_
    exact aw_iret rfl (by decide) (by decide) dX11_restTick_13 (RQ_of (by simp_all [qRest]))
abbrev MX11_amplitudeAfter : MT := (RX11, cX11_amplitudeAfter, 6, (some .int), [], "amplitudeAfter")
set_option maxHeartbeats 4000000 in
theorem m_after_loop {l : Launch} {G : GT} {n : Nat} {f : HT} {o : Nat} {I : Nat → Int32} {A : Nat → Nat → Int32} {K : Nat} {V : Nat → Nat} (hA : Mok A V) (hB : VB K V) {n9 : Nat} (hn9 : n9 < 20000000) : ∀ (N : Nat) (a i : Nat), (n9 - i = N) → (i ≤ n9) → (a ≤ 60) → AW l G MX11_amplitudeAfter 2 120 0 0 (RQ f o I A (0, swIt (V 1) (n9 - i) a) n) n 0 0 79 [(5, .int (nI i)), (4, .int (nI n9)), (3, .int (nI a)), (0, .ref o)] [] (mU f o I A) n := by
  intro N
  induction N using Nat.strongRecOn with
  | ind N ih =>
    intro a i hN hi ha
    have hcnt := VB.cnt hB
    have hleg := VB.legs hB
    have hfr := VB.fric hB
    have hnow := VB.now hB
    have hkk := VB.kk hB
    refine aw_iload dX11_amplitudeAfter_79 rfl ?_
    refine aw_iload dX11_amplitudeAfter_81 rfl ?_
    refine aw_icmp_ge_n (by omega) (by omega) (tgt := 102) dX11_amplitudeAfter_83 (by decide) (fun c_1 => ?_) (fun c_1 => ?_)
    · refine aw_aload_n dX11_amplitudeAfter_102 rfl rfl ?_
      refine aw_iload_n dX11_amplitudeAfter_103 rfl rfl ?_
      refine aw_vI (as := [Value.int (nI a)]) (rest := []) mV_X11_done (m_done (nI a)) ml_X11_60 mU_0 rfl dX11_amplitudeAfter_104 rfl rfl (by decide) (Nat.le_of_ble_eq_true rfl) (by decide) ?_
      exact aw_iret rfl (by decide) (by decide) dX11_amplitudeAfter_107 (RQ_of (by rw [show n9 - i = 0 by omega]; rfl))
    · refine aw_iload_n dX11_amplitudeAfter_86 rfl rfl ?_
      refine aw_if_le_n (by omega) (tgt := 102) dX11_amplitudeAfter_87 (by decide) (fun c_2 => ?_) (fun c_2 => ?_)
      · refine aw_aload_n dX11_amplitudeAfter_102 rfl rfl ?_
        refine aw_iload_n dX11_amplitudeAfter_103 rfl rfl ?_
        refine aw_vI (as := [Value.int (nI a)]) (rest := []) mV_X11_done (m_done (nI a)) ml_X11_60 mU_0 rfl dX11_amplitudeAfter_104 rfl rfl (by decide) (Nat.le_of_ble_eq_true rfl) (by decide) ?_
        exact aw_iret rfl (by decide) (by decide) dX11_amplitudeAfter_107 (RQ_of (by rw [c_2, swIt_0]))
      · refine aw_aload_n dX11_amplitudeAfter_90 rfl rfl ?_
        refine aw_iload_n dX11_amplitudeAfter_91 rfl rfl ?_
        refine aw_vI (as := [Value.int (nI a)]) (rest := []) mV_X11_behindSwing (m_swing hA (fr := V 1) rfl (by omega) (by omega) (by omega)) ml_X11_95 mU_0 rfl dX11_amplitudeAfter_92 rfl rfl (by decide) (Nat.le_of_ble_eq_true rfl) (by decide) ?_
        refine aw_istore_n (L' := [(3, .int (nI (swN (V 1) a))), (5, .int (nI i)), (4, .int (nI n9)), (0, .ref o)]) dX11_amplitudeAfter_95 rfl (by decide) rfl ?_
        refine aw_iinc_n (L' := [(5, .int (nI (i + 1))), (3, .int (nI (swN (V 1) a))), (4, .int (nI n9)), (0, .ref o)]) 1 dX11_amplitudeAfter_96 rfl (by decide) (by decide) rfl ?_
        refine aw_goto (tgt := 79) dX11_amplitudeAfter_99 (by decide) ?_
        have hsw := swN_lt (fr := V 1) (a := a) (by omega)
        rw [show n9 - i = (n9 - (i + 1)) + 1 by omega]
        refine aw_sub [(5, .int (nI (i + 1))), (4, .int (nI n9)), (3, .int (nI (swN (V 1) a))), (0, .ref o)] (by simp) ?_
        exact ih _ (by omega) _ (i + 1) rfl (by omega) (by omega)
set_option maxHeartbeats 4000000 in
theorem m_amplitudeAfter {l : Launch} {G : GT} {n : Nat} {f : HT} {o : Nat} {I : Nat → Int32} {A : Nat → Nat → Int32} {K : Nat} {V : Nat → Nat} (hA : Mok A V) (hB : VB K V) (v w : Int32) : AM l G yX11_amplitudeAfter (.code yX11_amplitudeAfter cX11_amplitudeAfter 6 (some .int)) 2 120 0 0 [.ref o, .int v, .int w] (mU f o I A) n (RQ f o I A (qAfter V v w) n) := by
  refine aw_enter (M := MX11_amplitudeAfter) rfl rfl (by decide +kernel) rfl (Nat.le_of_ble_eq_true rfl) ?_
  have hcnt := VB.cnt hB
  have hleg := VB.legs hB
  have hfr := VB.fric hB
  have hnow := VB.now hB
  have hkk := VB.kk hB
  show AW l G MX11_amplitudeAfter 2 120 0 0 _ n 0 0 0 [(0, .ref o), (1, .int v), (2, .int w)] [] _ n
  refine aw_aload_n dX11_amplitudeAfter_0 rfl rfl ?_
  refine aw_iload_n dX11_amplitudeAfter_1 rfl rfl ?_
  refine aw_vI (as := [Value.int v]) (rest := []) mV_X11_isPendulum (m_isP hA (c := V 2) v rfl (by omega)) ml_X11_72 mU_0 rfl dX11_amplitudeAfter_2 rfl rfl (by decide) (Nat.le_of_ble_eq_true rfl) (by decide) ?_
  refine aw_if_ne_b (tgt := 14) dX11_amplitudeAfter_5 (by decide) (fun c_1 => ?_) (fun c_1 => ?_)
  · obtain ⟨x, hx1, rfl⟩ := isK_of (by omega) c_1
    have hax := VB.amp hB (k := x) (by omega)
    have hlx := VB.len hB (k := x) (by omega)
    have hl1 := VB.len1 hB (k := x) (by omega)
    have hsx := VB.start hB (k := x) (by omega)
    have hwx := VB.sw hB (k := x) (by omega)
    have hnx := nIc (show x < 2 ^ 31 by omega)
    have hpp := per_pos hl1
    have hpl := per_le hlx
    refine aw_iload_n dX11_amplitudeAfter_14 rfl rfl ?_
    refine aw_iconst_n 0 dX11_amplitudeAfter_15 (by decide) ?_
    refine aw_sipush_n 500 dX11_amplitudeAfter_16 (by decide) ?_
    refine aw_sI (as := [Value.int w, Value.int (nI 0), Value.int (nI 500)]) (rest := []) mS_X11_in (m_in _ _ _) ml_X11_52 dX11_amplitudeAfter_19 rfl rfl (by decide) (Nat.le_of_ble_eq_true rfl) (by decide) ?_
    refine aw_if_ne_b (tgt := 31) dX11_amplitudeAfter_22 (by decide) (fun c_2 => ?_) (fun c_2 => ?_)
    · obtain ⟨t, ht0, ht1, rfl⟩ := inB_of (by decide) (by decide) c_2
      refine aw_aload_n dX11_amplitudeAfter_31 rfl rfl ?_
      refine aw_get (v := .ref (o + 1)) fl_X11_7 mU_0 rfl dX11_amplitudeAfter_32 ?_
      refine aw_bipush_n 12 dX11_amplitudeAfter_35 (by decide) ?_
      refine aw_iload_n dX11_amplitudeAfter_37 rfl rfl ?_
      refine aw_iadd_n dX11_amplitudeAfter_38 ?_
      refine aw_mld hA (k := 12 + x) (by omega) dX11_amplitudeAfter_39 ?_
      have hb_3 : V (12 + x) < 16000000 := VB.lt hB (by omega)
      refine aw_istore_n (L' := [(3, .int (nI (V (12 + x)))), (0, .ref o), (1, .int (nI x)), (2, .int (nI t))]) dX11_amplitudeAfter_40 rfl (by decide) rfl ?_
      refine aw_iload_n dX11_amplitudeAfter_41 rfl rfl ?_
      refine aw_if_le_n (by omega) (tgt := 73) dX11_amplitudeAfter_42 (by decide) (fun c_4 => ?_) (fun c_4 => ?_)
      · refine aw_iconst_n 0 dX11_amplitudeAfter_73 (by decide) ?_
        refine aw_istore (L' := [(4, .int (nI 0)), (3, .int (nI (V (12 + x)))), (0, .ref o), (1, .int (nI x)), (2, .int (nI t))]) dX11_amplitudeAfter_74 (by decide) rfl ?_
        refine aw_iconst_n 0 dX11_amplitudeAfter_76 (by decide) ?_
        refine aw_istore (L' := [(5, .int (nI 0)), (4, .int (nI 0)), (3, .int (nI (V (12 + x)))), (0, .ref o), (1, .int (nI x)), (2, .int (nI t))]) dX11_amplitudeAfter_77 (by decide) rfl ?_
        have e : qAfter V (nI x) (nI t) = (0, swIt (V 1) (0 - 0) (V (12 + x))) := by simp [qAfter, afterN, swIt_0, nIc (show t < 2 ^ 31 by omega), *]
        rw [e]
        exact aw_sub [(5, .int (nI 0)), (4, .int (nI (0))), (3, .int (nI (V (12 + x)))), (0, .ref o)] (by simp) (m_after_loop hA hB (by omega) _ _ 0 rfl (Nat.zero_le _) (by omega))
      · have hne : V (12 + x) ≠ 0 := by omega
        have hdv : untilN V x (V 0) ≤ untilN V x (V 0 + t) := Nat.div_le_div_right (by omega)
        refine aw_aload_n dX11_amplitudeAfter_45 rfl rfl ?_
        refine aw_iload_n dX11_amplitudeAfter_46 rfl rfl ?_
        refine aw_aload_n dX11_amplitudeAfter_47 rfl rfl ?_
        refine aw_get (v := .ref (o + 1)) fl_X11_7 mU_0 rfl dX11_amplitudeAfter_48 ?_
        refine aw_iconst_n 0 dX11_amplitudeAfter_51 (by decide) ?_
        refine aw_mld hA (k := 0) (by omega) dX11_amplitudeAfter_52 ?_
        have hb_5 : V 0 < 16000000 := VB.lt hB (by omega)
        refine aw_iload_n dX11_amplitudeAfter_53 rfl rfl ?_
        refine aw_iadd_n dX11_amplitudeAfter_54 ?_
        refine aw_vI (as := [Value.int (nI x), Value.int (nI ((V 0) + t))]) (rest := []) mV_X11_swingsUntil (m_until hA hB (by omega) (by omega) (by omega)) ml_X11_124 mU_0 rfl dX11_amplitudeAfter_55 rfl rfl (by decide) (Nat.le_of_ble_eq_true rfl) (by decide) ?_
        have hu9 : untilN V x ((V 0) + t) ≤ (V 0) + t := Nat.le_trans (Nat.div_le_self _ _) (Nat.sub_le _ _)
        refine aw_aload_n dX11_amplitudeAfter_58 rfl rfl ?_
        refine aw_iload_n dX11_amplitudeAfter_59 rfl rfl ?_
        refine aw_aload_n dX11_amplitudeAfter_60 rfl rfl ?_
        refine aw_get (v := .ref (o + 1)) fl_X11_7 mU_0 rfl dX11_amplitudeAfter_61 ?_
        refine aw_iconst_n 0 dX11_amplitudeAfter_64 (by decide) ?_
        refine aw_mld hA (k := 0) (by omega) dX11_amplitudeAfter_65 ?_
        have hb_6 : V 0 < 16000000 := VB.lt hB (by omega)
        refine aw_vI (as := [Value.int (nI x), Value.int (nI (V 0))]) (rest := [Value.int (nI (untilN V x ((V 0) + t)))]) mV_X11_swingsUntil (m_until hA hB (by omega) (by omega) (by omega)) ml_X11_124 mU_0 rfl dX11_amplitudeAfter_66 rfl rfl (by decide) (Nat.le_of_ble_eq_true rfl) (by decide) ?_
        have hu3 : untilN V x (V 0) ≤ V 0 := Nat.le_trans (Nat.div_le_self _ _) (Nat.sub_le _ _)
        refine aw_isub_n (by omega) dX11_amplitudeAfter_69 ?_
        refine aw_goto (tgt := 74) dX11_amplitudeAfter_70 (by decide) ?_
        refine aw_istore (L' := [(4, .int (nI ((untilN V x ((V 0) + t)) - (untilN V x (V 0))))), (3, .int (nI (V (12 + x)))), (0, .ref o), (1, .int (nI x)), (2, .int (nI t))]) dX11_amplitudeAfter_74 (by decide) rfl ?_
        refine aw_iconst_n 0 dX11_amplitudeAfter_76 (by decide) ?_
        refine aw_istore (L' := [(5, .int (nI 0)), (4, .int (nI ((untilN V x ((V 0) + t)) - (untilN V x (V 0))))), (3, .int (nI (V (12 + x)))), (0, .ref o), (1, .int (nI x)), (2, .int (nI t))]) dX11_amplitudeAfter_77 (by decide) rfl ?_
        have e : qAfter V (nI x) (nI t) = (0, swIt (V 1) (((untilN V x ((V 0) + t)) - (untilN V x (V 0))) - 0) (V (12 + x))) := by simp [qAfter, afterN, swIt_0, nIc (show t < 2 ^ 31 by omega), *]
        rw [e]
        exact aw_sub [(5, .int (nI 0)), (4, .int (nI ((untilN V x ((V 0) + t)) - (untilN V x (V 0))))), (3, .int (nI (V (12 + x)))), (0, .ref o)] (by simp) (m_after_loop hA hB (by omega) _ _ 0 rfl (Nat.zero_le _) (by omega))
    · refine aw_aload_n dX11_amplitudeAfter_25 rfl rfl ?_
      refine aw_iconst_n 2 dX11_amplitudeAfter_26 (by decide) ?_
      refine aw_vI (as := [Value.int (nI 2)]) (rest := []) mV_X11_fails (m_fails 2) ml_X11_56 mU_0 rfl dX11_amplitudeAfter_27 rfl rfl (by decide) (Nat.le_of_ble_eq_true rfl) (by decide) ?_
      exact aw_iret rfl (by decide) (by decide) dX11_amplitudeAfter_30 (RQ_of (by simp_all [qAfter]))
  · refine aw_aload_n dX11_amplitudeAfter_8 rfl rfl ?_
    refine aw_iconst_n 1 dX11_amplitudeAfter_9 (by decide) ?_
    refine aw_vI (as := [Value.int (nI 1)]) (rest := []) mV_X11_fails (m_fails 1) ml_X11_56 mU_0 rfl dX11_amplitudeAfter_10 rfl rfl (by decide) (Nat.le_of_ble_eq_true rfl) (by decide) ?_
    exact aw_iret rfl (by decide) (by decide) dX11_amplitudeAfter_13 (RQ_of (by simp_all [qAfter]))
abbrev MX11_cycle : MT := (RX11, cX11_cycle, 3, (some .int), [], "cycle")
set_option maxHeartbeats 4000000 in
theorem m_cycle {l : Launch} {G : GT} {n : Nat} {f : HT} {o : Nat} {I : Nat → Int32} {A : Nat → Nat → Int32} {K : Nat} {V : Nat → Nat} (hA : Mok A V) (hB : VB K V) {a c : Nat} (ha : a < V 2) (hc9 : c < V 2) : AM l G yX11_cycle (.code yX11_cycle cX11_cycle 3 (some .int)) 1 60 0 0 [.ref o, .int (nI a), .int (nI c)] (mU f o I A) n (rI (nI (cyN (perN (V (4 + a))) (perN (V (4 + c))))) (mU f o I A) n) := by
  refine aw_enter (M := MX11_cycle) rfl rfl (by decide +kernel) rfl (Nat.le_of_ble_eq_true rfl) ?_
  have hcnt := VB.cnt hB
  have hleg := VB.legs hB
  have hfr := VB.fric hB
  have hnow := VB.now hB
  have hkk := VB.kk hB
  have hax := VB.amp hB (k := a) (by omega)
  have hlx := VB.len hB (k := a) (by omega)
  have hl1 := VB.len1 hB (k := a) (by omega)
  have hsx := VB.start hB (k := a) (by omega)
  have hwx := VB.sw hB (k := a) (by omega)
  have hnx := nIc (show a < 2 ^ 31 by omega)
  have hpp := per_pos hl1
  have hpl := per_le hlx
  have hay := VB.amp hB (k := c) (by omega)
  have hly := VB.len hB (k := c) (by omega)
  have hl2 := VB.len1 hB (k := c) (by omega)
  have hsy := VB.start hB (k := c) (by omega)
  have hwy := VB.sw hB (k := c) (by omega)
  have hny := nIc (show c < 2 ^ 31 by omega)
  have hpq := per_pos hl2
  have hpm := per_le hly
  have hgp := Nat.gcd_pos_of_pos_left (perN (V (4 + c))) (show 0 < perN (V (4 + a)) by omega)
  have hgl := Nat.gcd_le_left (perN (V (4 + c))) (show 0 < perN (V (4 + a)) by omega)
  show AW l G MX11_cycle 1 60 0 0 _ n 0 0 0 [(0, .ref o), (1, .int (nI a)), (2, .int (nI c))] [] _ n
  refine aw_aload_n dX11_cycle_0 rfl rfl ?_
  refine aw_iload_n dX11_cycle_1 rfl rfl ?_
  refine aw_vI (as := [Value.int (nI a)]) (rest := []) mV_X11_period (m_period hA (k := a) (len := V (4 + a)) (by omega) rfl (by omega)) ml_X11_92 mU_0 rfl dX11_cycle_2 rfl rfl (by decide) (Nat.le_of_ble_eq_true rfl) (by decide) ?_
  refine aw_aload_n dX11_cycle_5 rfl rfl ?_
  refine aw_iload_n dX11_cycle_6 rfl rfl ?_
  refine aw_vI (as := [Value.int (nI a)]) (rest := [Value.int (nI (perN (V (4 + a))))]) mV_X11_period (m_period hA (k := a) (len := V (4 + a)) (by omega) rfl (by omega)) ml_X11_92 mU_0 rfl dX11_cycle_7 rfl rfl (by decide) (Nat.le_of_ble_eq_true rfl) (by decide) ?_
  refine aw_aload_n dX11_cycle_10 rfl rfl ?_
  refine aw_iload_n dX11_cycle_11 rfl rfl ?_
  refine aw_vI (as := [Value.int (nI c)]) (rest := [Value.int (nI (perN (V (4 + a)))), Value.int (nI (perN (V (4 + a))))]) mV_X11_period (m_period hA (k := c) (len := V (4 + c)) (by omega) rfl (by omega)) ml_X11_92 mU_0 rfl dX11_cycle_12 rfl rfl (by decide) (Nat.le_of_ble_eq_true rfl) (by decide) ?_
  refine aw_sI (as := [Value.int (nI (perN (V (4 + a)))), Value.int (nI (perN (V (4 + c))))]) (rest := [Value.int (nI (perN (V (4 + a))))]) mS_X11_divisor (m_div (by omega) (by omega)) ml_X11_127 dX11_cycle_15 rfl rfl (by decide) (Nat.le_of_ble_eq_true rfl) (by decide) ?_
  refine aw_idiv_n (by omega) (by omega) (by omega) dX11_cycle_18 ?_
  refine aw_aload_n dX11_cycle_19 rfl rfl ?_
  refine aw_iload_n dX11_cycle_20 rfl rfl ?_
  refine aw_vI (as := [Value.int (nI c)]) (rest := [Value.int (nI ((perN (V (4 + a))) / (Nat.gcd (perN (V (4 + a))) (perN (V (4 + c))))))]) mV_X11_period (m_period hA (k := c) (len := V (4 + c)) (by omega) rfl (by omega)) ml_X11_92 mU_0 rfl dX11_cycle_21 rfl rfl (by decide) (Nat.le_of_ble_eq_true rfl) (by decide) ?_
  refine aw_imul_n dX11_cycle_24 ?_
  exact aw_iret rfl (by decide) (by decide) dX11_cycle_25 (rI_of (by rfl))
abbrev MX11_meets : MT := (RX11, cX11_meets, 5, (some .int), [], "meets")
set_option maxHeartbeats 4000000 in
theorem m_meets_loop {l : Launch} {G : GT} {n : Nat} {f : HT} {o : Nat} {I : Nat → Int32} {A : Nat → Nat → Int32} {K : Nat} {V : Nat → Nat} (hA : Mok A V) (hB : VB K V) {a c : Nat} (ha : a < V 2) (hc9 : c < V 2) : ∀ (N : Nat) (t : Nat), (V 0 + 1 + cyN (perN (V (4 + a))) (perN (V (4 + c))) - t = N) → (V 0 + 1 ≤ t) → (t ≤ V 0 + 1 + cyN (perN (V (4 + a))) (perN (V (4 + c)))) → (mtF (V (20 + a)) (perN (V (4 + a))) (V (20 + c)) (perN (V (4 + c))) (V 0 + 1 + cyN (perN (V (4 + a))) (perN (V (4 + c))) - t) t = mtV V a c) → AW l G MX11_meets 2 120 0 0 (rI (mtI (mtV V a c)) (mU f o I A) n) n 0 0 17 [(4, .int (nI t)), (3, .int (nI (cyN (perN (V (4 + a))) (perN (V (4 + c)))))), (0, .ref o), (1, .int (nI a)), (2, .int (nI c))] [] (mU f o I A) n := by
  intro N
  induction N using Nat.strongRecOn with
  | ind N ih =>
    intro t hN h1 h2 hq
    have hcnt := VB.cnt hB
    have hleg := VB.legs hB
    have hfr := VB.fric hB
    have hnow := VB.now hB
    have hkk := VB.kk hB
    have hax := VB.amp hB (k := a) (by omega)
    have hlx := VB.len hB (k := a) (by omega)
    have hl1 := VB.len1 hB (k := a) (by omega)
    have hsx := VB.start hB (k := a) (by omega)
    have hwx := VB.sw hB (k := a) (by omega)
    have hnx := nIc (show a < 2 ^ 31 by omega)
    have hpp := per_pos hl1
    have hpl := per_le hlx
    have hay := VB.amp hB (k := c) (by omega)
    have hly := VB.len hB (k := c) (by omega)
    have hl2 := VB.len1 hB (k := c) (by omega)
    have hsy := VB.start hB (k := c) (by omega)
    have hwy := VB.sw hB (k := c) (by omega)
    have hny := nIc (show c < 2 ^ 31 by omega)
    have hpq := per_pos hl2
    have hpm := per_le hly
    have hcy := cy_le hpl hpm
    refine aw_iload dX11_meets_17 rfl ?_
    refine aw_aload_n dX11_meets_19 rfl rfl ?_
    refine aw_get (v := .ref (o + 1)) fl_X11_7 mU_0 rfl dX11_meets_20 ?_
    refine aw_iconst_n 0 dX11_meets_23 (by decide) ?_
    refine aw_mld hA (k := 0) (by omega) dX11_meets_24 ?_
    have hb_1 : V 0 < 16000000 := VB.lt hB (by omega)
    refine aw_iload_n dX11_meets_25 rfl rfl ?_
    refine aw_iadd_n dX11_meets_26 ?_
    refine aw_icmp_gt_n (by omega) (by omega) (tgt := 81) dX11_meets_27 (by decide) (fun c_2 => ?_) (fun c_2 => ?_)
    · refine aw_iconst (v := -1) dX11_meets_81 (by decide) ?_
      exact aw_iret rfl (by decide) (by decide) dX11_meets_82 (rI_of (by rw [← hq, show V 0 + 1 + cyN (perN (V (4 + a))) (perN (V (4 + c))) - t = 0 by omega]; rfl))
    · refine aw_iload dX11_meets_30 rfl ?_
      refine aw_aload_n dX11_meets_32 rfl rfl ?_
      refine aw_get (v := .ref (o + 1)) fl_X11_7 mU_0 rfl dX11_meets_33 ?_
      refine aw_bipush_n 20 dX11_meets_36 (by decide) ?_
      refine aw_iload_n dX11_meets_38 rfl rfl ?_
      refine aw_iadd_n dX11_meets_39 ?_
      refine aw_mld hA (k := 20 + a) (by omega) dX11_meets_40 ?_
      have hb_3 : V (20 + a) < 16000000 := VB.lt hB (by omega)
      refine aw_isub_n (by omega) dX11_meets_41 ?_
      refine aw_aload_n dX11_meets_42 rfl rfl ?_
      refine aw_iload_n dX11_meets_43 rfl rfl ?_
      refine aw_vI (as := [Value.int (nI a)]) (rest := [Value.int (nI (t - (V (20 + a))))]) mV_X11_period (m_period hA (k := a) (len := V (4 + a)) (by omega) rfl (by omega)) ml_X11_92 mU_0 rfl dX11_meets_44 rfl rfl (by decide) (Nat.le_of_ble_eq_true rfl) (by decide) ?_
      refine aw_irem_n (by omega) (by omega) (by omega) dX11_meets_47 ?_
      have hm_4 : (t - (V (20 + a))) % (perN (V (4 + a))) < perN (V (4 + a)) := Nat.mod_lt _ (by omega)
      refine aw_if_ne_n (by omega) (tgt := 75) dX11_meets_48 (by decide) (fun c_5 => ?_) (fun c_5 => ?_)
      · refine aw_iinc_n (L' := [(4, .int (nI (t + 1))), (3, .int (nI (cyN (perN (V (4 + a))) (perN (V (4 + c)))))), (0, .ref o), (1, .int (nI a)), (2, .int (nI c))]) 1 dX11_meets_75 rfl (by decide) (by decide) rfl ?_
        refine aw_goto (tgt := 17) dX11_meets_78 (by decide) ?_
        rw [show V 0 + 1 + cyN (perN (V (4 + a))) (perN (V (4 + c))) - t = (V 0 + 1 + cyN (perN (V (4 + a))) (perN (V (4 + c))) - (t + 1)) + 1 by omega] at hq
        exact ih _ (by omega) (t + 1) rfl (by omega) (by omega) (by rw [← hq]; exact (mtF_no (by omega)).symm)
      · refine aw_iload dX11_meets_51 rfl ?_
        refine aw_aload_n dX11_meets_53 rfl rfl ?_
        refine aw_get (v := .ref (o + 1)) fl_X11_7 mU_0 rfl dX11_meets_54 ?_
        refine aw_bipush_n 20 dX11_meets_57 (by decide) ?_
        refine aw_iload_n dX11_meets_59 rfl rfl ?_
        refine aw_iadd_n dX11_meets_60 ?_
        refine aw_mld hA (k := 20 + c) (by omega) dX11_meets_61 ?_
        have hb_6 : V (20 + c) < 16000000 := VB.lt hB (by omega)
        refine aw_isub_n (by omega) dX11_meets_62 ?_
        refine aw_aload_n dX11_meets_63 rfl rfl ?_
        refine aw_iload_n dX11_meets_64 rfl rfl ?_
        refine aw_vI (as := [Value.int (nI c)]) (rest := [Value.int (nI (t - (V (20 + c))))]) mV_X11_period (m_period hA (k := c) (len := V (4 + c)) (by omega) rfl (by omega)) ml_X11_92 mU_0 rfl dX11_meets_65 rfl rfl (by decide) (Nat.le_of_ble_eq_true rfl) (by decide) ?_
        refine aw_irem_n (by omega) (by omega) (by omega) dX11_meets_68 ?_
        have hm_7 : (t - (V (20 + c))) % (perN (V (4 + c))) < perN (V (4 + c)) := Nat.mod_lt _ (by omega)
        refine aw_if_ne_n (by omega) (tgt := 75) dX11_meets_69 (by decide) (fun c_8 => ?_) (fun c_8 => ?_)
        · refine aw_iinc_n (L' := [(4, .int (nI (t + 1))), (3, .int (nI (cyN (perN (V (4 + a))) (perN (V (4 + c)))))), (0, .ref o), (1, .int (nI a)), (2, .int (nI c))]) 1 dX11_meets_75 rfl (by decide) (by decide) rfl ?_
          refine aw_goto (tgt := 17) dX11_meets_78 (by decide) ?_
          rw [show V 0 + 1 + cyN (perN (V (4 + a))) (perN (V (4 + c))) - t = (V 0 + 1 + cyN (perN (V (4 + a))) (perN (V (4 + c))) - (t + 1)) + 1 by omega] at hq
          exact ih _ (by omega) (t + 1) rfl (by omega) (by omega) (by rw [← hq]; exact (mtF_no (by omega)).symm)
        · refine aw_iload dX11_meets_72 rfl ?_
          exact aw_iret rfl (by decide) (by decide) dX11_meets_74 (rI_of (by rw [← hq, show V 0 + 1 + cyN (perN (V (4 + a))) (perN (V (4 + c))) - t = (V 0 + 1 + cyN (perN (V (4 + a))) (perN (V (4 + c))) - (t + 1)) + 1 by omega, mtF_yes (by omega) (by omega)]; rfl))
set_option maxHeartbeats 4000000 in
theorem m_meets {l : Launch} {G : GT} {n : Nat} {f : HT} {o : Nat} {I : Nat → Int32} {A : Nat → Nat → Int32} {K : Nat} {V : Nat → Nat} (hA : Mok A V) (hB : VB K V) {a c : Nat} (ha : a < V 2) (hc9 : c < V 2) : AM l G yX11_meets (.code yX11_meets cX11_meets 5 (some .int)) 2 120 0 0 [.ref o, .int (nI a), .int (nI c)] (mU f o I A) n (rI (mtI (mtV V a c)) (mU f o I A) n) := by
  refine aw_enter (M := MX11_meets) rfl rfl (by decide +kernel) rfl (Nat.le_of_ble_eq_true rfl) ?_
  have hcnt := VB.cnt hB
  have hleg := VB.legs hB
  have hfr := VB.fric hB
  have hnow := VB.now hB
  have hkk := VB.kk hB
  have hax := VB.amp hB (k := a) (by omega)
  have hlx := VB.len hB (k := a) (by omega)
  have hl1 := VB.len1 hB (k := a) (by omega)
  have hsx := VB.start hB (k := a) (by omega)
  have hwx := VB.sw hB (k := a) (by omega)
  have hnx := nIc (show a < 2 ^ 31 by omega)
  have hpp := per_pos hl1
  have hpl := per_le hlx
  have hay := VB.amp hB (k := c) (by omega)
  have hly := VB.len hB (k := c) (by omega)
  have hl2 := VB.len1 hB (k := c) (by omega)
  have hsy := VB.start hB (k := c) (by omega)
  have hwy := VB.sw hB (k := c) (by omega)
  have hny := nIc (show c < 2 ^ 31 by omega)
  have hpq := per_pos hl2
  have hpm := per_le hly
  have hcy := cy_le hpl hpm
  show AW l G MX11_meets 2 120 0 0 _ n 0 0 0 [(0, .ref o), (1, .int (nI a)), (2, .int (nI c))] [] _ n
  refine aw_aload_n dX11_meets_0 rfl rfl ?_
  refine aw_iload_n dX11_meets_1 rfl rfl ?_
  refine aw_iload_n dX11_meets_2 rfl rfl ?_
  refine aw_vI (as := [Value.int (nI a), Value.int (nI c)]) (rest := []) mV_X11_cycle (m_cycle hA hB (by omega) (by omega)) ml_X11_130 mU_0 rfl dX11_meets_3 rfl rfl (by decide) (Nat.le_of_ble_eq_true rfl) (by decide) ?_
  refine aw_istore_n (L' := [(3, .int (nI (cyN (perN (V (4 + a))) (perN (V (4 + c)))))), (0, .ref o), (1, .int (nI a)), (2, .int (nI c))]) dX11_meets_6 rfl (by decide) rfl ?_
  refine aw_aload_n dX11_meets_7 rfl rfl ?_
  refine aw_get (v := .ref (o + 1)) fl_X11_7 mU_0 rfl dX11_meets_8 ?_
  refine aw_iconst_n 0 dX11_meets_11 (by decide) ?_
  refine aw_mld hA (k := 0) (by omega) dX11_meets_12 ?_
  have hb_1 : V 0 < 16000000 := VB.lt hB (by omega)
  refine aw_iconst_n 1 dX11_meets_13 (by decide) ?_
  refine aw_iadd_n dX11_meets_14 ?_
  refine aw_istore (L' := [(4, .int (nI ((V 0) + 1))), (3, .int (nI (cyN (perN (V (4 + a))) (perN (V (4 + c)))))), (0, .ref o), (1, .int (nI a)), (2, .int (nI c))]) dX11_meets_15 (by decide) rfl ?_
  exact aw_sub [(4, .int (nI (V 0 + 1))), (3, .int (nI (cyN (perN (V (4 + a))) (perN (V (4 + c)))))), (0, .ref o), (1, .int (nI a)), (2, .int (nI c))] (by simp) (m_meets_loop hA hB ha hc9 _ _ rfl (by omega) (by omega) (by rw [show V 0 + 1 + cyN (perN (V (4 + a))) (perN (V (4 + c))) - (V 0 + 1) = cyN (perN (V (4 + a))) (perN (V (4 + c))) by omega]; rfl))
abbrev MX11_meeting : MT := (RX11, cX11_meeting, 4, (some .int), [], "meeting")
set_option maxHeartbeats 4000000 in
theorem m_meeting {l : Launch} {G : GT} {n : Nat} {f : HT} {o : Nat} {I : Nat → Int32} {A : Nat → Nat → Int32} {K : Nat} {V : Nat → Nat} (hA : Mok A V) (hB : VB K V) (v w : Int32) : AM l G yX11_meeting (.code yX11_meeting cX11_meeting 4 (some .int)) 3 180 0 0 [.ref o, .int v, .int w] (mU f o I A) n (RQ f o I A (qMeet V v w) n) := by
  refine aw_enter (M := MX11_meeting) rfl rfl (by decide +kernel) rfl (Nat.le_of_ble_eq_true rfl) ?_
  have hcnt := VB.cnt hB
  have hleg := VB.legs hB
  have hfr := VB.fric hB
  have hnow := VB.now hB
  have hkk := VB.kk hB
  show AW l G MX11_meeting 3 180 0 0 _ n 0 0 0 [(0, .ref o), (1, .int v), (2, .int w)] [] _ n
  refine aw_aload_n dX11_meeting_0 rfl rfl ?_
  refine aw_iload_n dX11_meeting_1 rfl rfl ?_
  refine aw_vI (as := [Value.int v]) (rest := []) mV_X11_isPendulum (m_isP hA (c := V 2) v rfl (by omega)) ml_X11_72 mU_0 rfl dX11_meeting_2 rfl rfl (by decide) (Nat.le_of_ble_eq_true rfl) (by decide) ?_
  refine aw_if_eq_b (tgt := 16) dX11_meeting_5 (by decide) (fun c_1 => ?_) (fun c_1 => ?_)
  · refine aw_aload_n dX11_meeting_16 rfl rfl ?_
    refine aw_iconst_n 1 dX11_meeting_17 (by decide) ?_
    refine aw_vI (as := [Value.int (nI 1)]) (rest := []) mV_X11_fails (m_fails 1) ml_X11_56 mU_0 rfl dX11_meeting_18 rfl rfl (by decide) (Nat.le_of_ble_eq_true rfl) (by decide) ?_
    exact aw_iret rfl (by decide) (by decide) dX11_meeting_21 (RQ_of (by simp_all [qMeet]))
  · obtain ⟨x, hx1, rfl⟩ := isK_of (by omega) c_1
    have hax := VB.amp hB (k := x) (by omega)
    have hlx := VB.len hB (k := x) (by omega)
    have hl1 := VB.len1 hB (k := x) (by omega)
    have hsx := VB.start hB (k := x) (by omega)
    have hwx := VB.sw hB (k := x) (by omega)
    have hnx := nIc (show x < 2 ^ 31 by omega)
    have hpp := per_pos hl1
    have hpl := per_le hlx
    refine aw_aload_n dX11_meeting_8 rfl rfl ?_
    refine aw_iload_n dX11_meeting_9 rfl rfl ?_
    refine aw_vI (as := [Value.int w]) (rest := []) mV_X11_isPendulum (m_isP hA (c := V 2) w rfl (by omega)) ml_X11_72 mU_0 rfl dX11_meeting_10 rfl rfl (by decide) (Nat.le_of_ble_eq_true rfl) (by decide) ?_
    refine aw_if_ne_b (tgt := 22) dX11_meeting_13 (by decide) (fun c_2 => ?_) (fun c_2 => ?_)
    · obtain ⟨y, hy1, rfl⟩ := isK_of (by omega) c_2
      have hay := VB.amp hB (k := y) (by omega)
      have hly := VB.len hB (k := y) (by omega)
      have hl2 := VB.len1 hB (k := y) (by omega)
      have hsy := VB.start hB (k := y) (by omega)
      have hwy := VB.sw hB (k := y) (by omega)
      have hny := nIc (show y < 2 ^ 31 by omega)
      have hpq := per_pos hl2
      have hpm := per_le hly
      refine aw_aload_n dX11_meeting_22 rfl rfl ?_
      refine aw_iload_n dX11_meeting_23 rfl rfl ?_
      refine aw_vI (as := [Value.int (nI x)]) (rest := []) mV_X11_rests (m_rests hA (k := x) (a := V (12 + x)) (by omega) rfl (by omega)) ml_X11_76 mU_0 rfl dX11_meeting_24 rfl rfl (by decide) (Nat.le_of_ble_eq_true rfl) (by decide) ?_
      refine aw_if_ne_b (tgt := 38) dX11_meeting_27 (by decide) (fun c_3 => ?_) (fun c_3 => ?_)
      · refine aw_aload_n dX11_meeting_38 rfl rfl ?_
        refine aw_iconst_n 2 dX11_meeting_39 (by decide) ?_
        refine aw_vI (as := [Value.int (nI 2)]) (rest := []) mV_X11_fails (m_fails 2) ml_X11_56 mU_0 rfl dX11_meeting_40 rfl rfl (by decide) (Nat.le_of_ble_eq_true rfl) (by decide) ?_
        exact aw_iret rfl (by decide) (by decide) dX11_meeting_43 (RQ_of (by simp_all [qMeet]))
      · refine aw_aload_n dX11_meeting_30 rfl rfl ?_
        refine aw_iload_n dX11_meeting_31 rfl rfl ?_
        refine aw_vI (as := [Value.int (nI y)]) (rest := []) mV_X11_rests (m_rests hA (k := y) (a := V (12 + y)) (by omega) rfl (by omega)) ml_X11_76 mU_0 rfl dX11_meeting_32 rfl rfl (by decide) (Nat.le_of_ble_eq_true rfl) (by decide) ?_
        refine aw_if_eq_b (tgt := 44) dX11_meeting_35 (by decide) (fun c_4 => ?_) (fun c_4 => ?_)
        · refine aw_aload_n dX11_meeting_44 rfl rfl ?_
          refine aw_iload_n dX11_meeting_45 rfl rfl ?_
          refine aw_iload_n dX11_meeting_46 rfl rfl ?_
          refine aw_vI (as := [Value.int (nI x), Value.int (nI y)]) (rest := []) mV_X11_meets (m_meets hA hB (a := x) (c := y) (by omega) (by omega)) ml_X11_133 mU_0 rfl dX11_meeting_47 rfl rfl (by decide) (Nat.le_of_ble_eq_true rfl) (by decide) ?_
          have hcy := cy_le hpl hpm
          rcases hmt : mtV V x y with _ | t
          · show AW l G MX11_meeting 3 180 0 0 _ n _ _ 50 [(0, .ref o), (1, .int (nI x)), (2, .int (nI y))] [.int (-1)] _ n
            refine aw_istore_n (L' := [(3, .int (-1)), (0, .ref o), (1, .int (nI x)), (2, .int (nI y))]) dX11_meeting_50 rfl (by decide) rfl ?_
            refine aw_iload_n dX11_meeting_51 rfl rfl ?_
            refine aw_iconst (v := -1) dX11_meeting_52 (by decide) ?_
            refine aw_icmp_ne (tgt := 64) dX11_meeting_53 (by decide) (fun c_5 => by exfalso; exact absurd rfl c_5) (fun c_5 => ?_)
            refine aw_aload_n dX11_meeting_56 rfl rfl ?_
            refine aw_iconst_n 3 dX11_meeting_57 (by decide) ?_
            refine aw_vI (as := [Value.int (nI 3)]) (rest := []) mV_X11_fails (m_fails 3) ml_X11_56 mU_0 rfl dX11_meeting_58 rfl rfl (by decide) (Nat.le_of_ble_eq_true rfl) (by decide) ?_
            refine aw_goto (tgt := 69) dX11_meeting_61 (by decide) ?_
            exact aw_iret rfl (by decide) (by decide) dX11_meeting_69 (RQ_of (by simp_all [qMeet]))
          · have htl := mtF_lt _ _ _ hmt
            show AW l G MX11_meeting 3 180 0 0 _ n _ _ 50 [(0, .ref o), (1, .int (nI x)), (2, .int (nI y))] [.int (nI t)] _ n
            refine aw_istore_n (L' := [(3, .int (nI t)), (0, .ref o), (1, .int (nI x)), (2, .int (nI y))]) dX11_meeting_50 rfl (by decide) rfl ?_
            refine aw_iload_n dX11_meeting_51 rfl rfl ?_
            refine aw_iconst (v := -1) dX11_meeting_52 (by decide) ?_
            refine aw_icmp_ne (tgt := 64) dX11_meeting_53 (by decide) (fun c_6 => ?_) (fun c_6 => by exfalso; exact nI_m1 (by omega) c_6)
            refine aw_aload_n dX11_meeting_64 rfl rfl ?_
            refine aw_iload_n dX11_meeting_65 rfl rfl ?_
            refine aw_vI (as := [Value.int (nI t)]) (rest := []) mV_X11_done (m_done (nI t)) ml_X11_60 mU_0 rfl dX11_meeting_66 rfl rfl (by decide) (Nat.le_of_ble_eq_true rfl) (by decide) ?_
            exact aw_iret rfl (by decide) (by decide) dX11_meeting_69 (RQ_of (by simp_all [qMeet]))
        · refine aw_aload_n dX11_meeting_38 rfl rfl ?_
          refine aw_iconst_n 2 dX11_meeting_39 (by decide) ?_
          refine aw_vI (as := [Value.int (nI 2)]) (rest := []) mV_X11_fails (m_fails 2) ml_X11_56 mU_0 rfl dX11_meeting_40 rfl rfl (by decide) (Nat.le_of_ble_eq_true rfl) (by decide) ?_
          exact aw_iret rfl (by decide) (by decide) dX11_meeting_43 (RQ_of (by simp_all [qMeet]))
    · refine aw_aload_n dX11_meeting_16 rfl rfl ?_
      refine aw_iconst_n 1 dX11_meeting_17 (by decide) ?_
      refine aw_vI (as := [Value.int (nI 1)]) (rest := []) mV_X11_fails (m_fails 1) ml_X11_56 mU_0 rfl dX11_meeting_18 rfl rfl (by decide) (Nat.le_of_ble_eq_true rfl) (by decide) ?_
      exact aw_iret rfl (by decide) (by decide) dX11_meeting_21 (RQ_of (by simp_all [qMeet]))
abbrev MX11_meetingByDivisors : MT := (RX11, cX11_meetingByDivisors, 3, (some .int), [], "meetingByDivisors")
set_option maxHeartbeats 4000000 in
theorem m_meetingByDivisors {l : Launch} {G : GT} {n : Nat} {f : HT} {o : Nat} {I : Nat → Int32} {A : Nat → Nat → Int32} {K : Nat} {V : Nat → Nat} (hA : Mok A V) (hB : VB K V) (v w : Int32) : AM l G yX11_meetingByDivisors (.code yX11_meetingByDivisors cX11_meetingByDivisors 3 (some .int)) 4 240 0 0 [.ref o, .int v, .int w] (mU f o I A) n (RQ f o I A (qMeet V v w) n) := by
  refine aw_enter (M := MX11_meetingByDivisors) rfl rfl (by decide +kernel) rfl (Nat.le_of_ble_eq_true rfl) ?_
  have hcnt := VB.cnt hB
  have hleg := VB.legs hB
  have hfr := VB.fric hB
  have hnow := VB.now hB
  have hkk := VB.kk hB
  show AW l G MX11_meetingByDivisors 4 240 0 0 _ n 0 0 0 [(0, .ref o), (1, .int v), (2, .int w)] [] _ n
  refine aw_aload_n dX11_meetingByDivisors_0 rfl rfl ?_
  refine aw_iload_n dX11_meetingByDivisors_1 rfl rfl ?_
  refine aw_iload_n dX11_meetingByDivisors_2 rfl rfl ?_
  refine aw_vI (as := [Value.int v, Value.int w]) (rest := []) mV_X11_meeting (m_meeting hA hB v w) ml_X11_136 mU_0 rfl dX11_meetingByDivisors_3 rfl rfl (by decide) (Nat.le_of_ble_eq_true rfl) (by decide) ?_
  exact aw_iret rfl (by decide) (by decide) dX11_meetingByDivisors_6 ⟨rfl, rfl, rfl⟩
abbrev MX11_cycleOf : MT := (RX11, cX11_cycleOf, 3, (some .int), [], "cycleOf")
set_option maxHeartbeats 4000000 in
theorem m_cycleOf {l : Launch} {G : GT} {n : Nat} {f : HT} {o : Nat} {I : Nat → Int32} {A : Nat → Nat → Int32} {K : Nat} {V : Nat → Nat} (hA : Mok A V) (hB : VB K V) (v w : Int32) : AM l G yX11_cycleOf (.code yX11_cycleOf cX11_cycleOf 3 (some .int)) 2 120 0 0 [.ref o, .int v, .int w] (mU f o I A) n (RQ f o I A (qCycle V v w) n) := by
  refine aw_enter (M := MX11_cycleOf) rfl rfl (by decide +kernel) rfl (Nat.le_of_ble_eq_true rfl) ?_
  have hcnt := VB.cnt hB
  have hleg := VB.legs hB
  have hfr := VB.fric hB
  have hnow := VB.now hB
  have hkk := VB.kk hB
  show AW l G MX11_cycleOf 2 120 0 0 _ n 0 0 0 [(0, .ref o), (1, .int v), (2, .int w)] [] _ n
  refine aw_aload_n dX11_cycleOf_0 rfl rfl ?_
  refine aw_iload_n dX11_cycleOf_1 rfl rfl ?_
  refine aw_vI (as := [Value.int v]) (rest := []) mV_X11_isPendulum (m_isP hA (c := V 2) v rfl (by omega)) ml_X11_72 mU_0 rfl dX11_cycleOf_2 rfl rfl (by decide) (Nat.le_of_ble_eq_true rfl) (by decide) ?_
  refine aw_if_eq_b (tgt := 29) dX11_cycleOf_5 (by decide) (fun c_1 => ?_) (fun c_1 => ?_)
  · refine aw_aload_n dX11_cycleOf_29 rfl rfl ?_
    refine aw_iconst_n 1 dX11_cycleOf_30 (by decide) ?_
    refine aw_vI (as := [Value.int (nI 1)]) (rest := []) mV_X11_fails (m_fails 1) ml_X11_56 mU_0 rfl dX11_cycleOf_31 rfl rfl (by decide) (Nat.le_of_ble_eq_true rfl) (by decide) ?_
    exact aw_iret rfl (by decide) (by decide) dX11_cycleOf_34 (RQ_of (by simp_all [qCycle]))
  · obtain ⟨x, hx1, rfl⟩ := isK_of (by omega) c_1
    have hax := VB.amp hB (k := x) (by omega)
    have hlx := VB.len hB (k := x) (by omega)
    have hl1 := VB.len1 hB (k := x) (by omega)
    have hsx := VB.start hB (k := x) (by omega)
    have hwx := VB.sw hB (k := x) (by omega)
    have hnx := nIc (show x < 2 ^ 31 by omega)
    have hpp := per_pos hl1
    have hpl := per_le hlx
    refine aw_aload_n dX11_cycleOf_8 rfl rfl ?_
    refine aw_iload_n dX11_cycleOf_9 rfl rfl ?_
    refine aw_vI (as := [Value.int w]) (rest := []) mV_X11_isPendulum (m_isP hA (c := V 2) w rfl (by omega)) ml_X11_72 mU_0 rfl dX11_cycleOf_10 rfl rfl (by decide) (Nat.le_of_ble_eq_true rfl) (by decide) ?_
    refine aw_if_eq_b (tgt := 29) dX11_cycleOf_13 (by decide) (fun c_2 => ?_) (fun c_2 => ?_)
    · refine aw_aload_n dX11_cycleOf_29 rfl rfl ?_
      refine aw_iconst_n 1 dX11_cycleOf_30 (by decide) ?_
      refine aw_vI (as := [Value.int (nI 1)]) (rest := []) mV_X11_fails (m_fails 1) ml_X11_56 mU_0 rfl dX11_cycleOf_31 rfl rfl (by decide) (Nat.le_of_ble_eq_true rfl) (by decide) ?_
      exact aw_iret rfl (by decide) (by decide) dX11_cycleOf_34 (RQ_of (by simp_all [qCycle]))
    · obtain ⟨y, hy1, rfl⟩ := isK_of (by omega) c_2
      have hay := VB.amp hB (k := y) (by omega)
      have hly := VB.len hB (k := y) (by omega)
      have hl2 := VB.len1 hB (k := y) (by omega)
      have hsy := VB.start hB (k := y) (by omega)
      have hwy := VB.sw hB (k := y) (by omega)
      have hny := nIc (show y < 2 ^ 31 by omega)
      have hpq := per_pos hl2
      have hpm := per_le hly
      refine aw_aload_n dX11_cycleOf_16 rfl rfl ?_
      refine aw_aload_n dX11_cycleOf_17 rfl rfl ?_
      refine aw_iload_n dX11_cycleOf_18 rfl rfl ?_
      refine aw_iload_n dX11_cycleOf_19 rfl rfl ?_
      refine aw_vI (as := [Value.int (nI x), Value.int (nI y)]) (rest := [Value.ref o]) mV_X11_cycle (m_cycle hA hB (by omega) (by omega)) ml_X11_130 mU_0 rfl dX11_cycleOf_20 rfl rfl (by decide) (Nat.le_of_ble_eq_true rfl) (by decide) ?_
      refine aw_vI (as := [Value.int (nI (cyN (perN (V (4 + x))) (perN (V (4 + y)))))]) (rest := []) mV_X11_done (m_done (nI (cyN (perN (V (4 + x))) (perN (V (4 + y)))))) ml_X11_60 mU_0 rfl dX11_cycleOf_23 rfl rfl (by decide) (Nat.le_of_ble_eq_true rfl) (by decide) ?_
      refine aw_goto (tgt := 34) dX11_cycleOf_26 (by decide) ?_
      exact aw_iret rfl (by decide) (by decide) dX11_cycleOf_34 (RQ_of (by simp_all [qCycle]))
