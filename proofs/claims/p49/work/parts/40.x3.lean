theorem div_toInt {x : Int32} {d : Nat} (hd : d < 2 ^ 31) (h1 : -2147483648 < x.toInt) : (x / nI d).toInt = x.toInt.tdiv d := by
  rw [Int32.toInt_div, nI_toInt hd]
  have h2 : x.toInt < 2 ^ 31 := Int32.toInt_lt x
  have h3 := Int.natAbs_tdiv_le_natAbs x.toInt d
  exact Int.bmod_eq_of_le (by omega) (by omega)
theorem tdm {z : Int} {d : Nat} (hd0 : 0 < d) : z.tdiv d * d + z.tmod d = z ∧ (z.tmod d).natAbs < d ∧ (z.tdiv d * d).natAbs ≤ z.natAbs := by
  have h1 := Int.tdiv_mul_add_tmod z d
  have h3 : (z.tmod d).natAbs < d := by
    rcases Int.le_total 0 z with h | h
    · have := Int.tmod_lt_of_pos z (show (0 : Int) < d by omega)
      have h4 := Int.tmod_nonneg (d : Int) h
      omega
    · have h5 : z.tmod d = -((-z).tmod d) := by rw [Int.neg_tmod]; omega
      have := Int.tmod_lt_of_pos (-z) (show (0 : Int) < d by omega)
      have h4 := Int.tmod_nonneg (d : Int) (show (0 : Int) ≤ -z by omega)
      omega
  refine ⟨h1, h3, ?_⟩
  rcases Int.le_total 0 z with h | h
  · have h4 := Int.tmod_nonneg (d : Int) h
    have h5 : 0 ≤ z.tdiv d := Int.tdiv_nonneg h (by omega)
    have h6 : 0 ≤ z.tdiv d * d := Int.mul_nonneg h5 (by omega)
    omega
  · have h5 : z.tmod d = -((-z).tmod d) := by rw [Int.neg_tmod]; omega
    have h4 := Int.tmod_nonneg (d : Int) (show (0 : Int) ≤ -z by omega)
    have h7 : z.tdiv d = -((-z).tdiv d) := by rw [Int.neg_tdiv]; omega
    have h8 : 0 ≤ (-z).tdiv d := Int.tdiv_nonneg (by omega) (by omega)
    have h9 : 0 ≤ (-z).tdiv d * d := Int.mul_nonneg h8 (by omega)
    have h10 : z.tdiv d * d = -((-z).tdiv d * d) := by rw [h7, Int.neg_mul]
    omega
theorem rm_toInt {x : Int32} {d : Nat} (hd0 : 0 < d) (hd : d < 2 ^ 31) (h1 : -2147483648 < x.toInt) : (x - x / nI d * nI d).toInt = x.toInt.tmod d := by
  rw [Int32.toInt_sub, Int32.toInt_mul, div_toInt hd h1, nI_toInt hd]
  obtain ⟨e1, e2, e3⟩ := tdm (z := x.toInt) hd0
  have h2 : x.toInt < 2 ^ 31 := Int32.toInt_lt x
  rw [Int.bmod_eq_of_le (n := x.toInt.tdiv d * d) (by omega) (by omega)]
  rw [Int.bmod_eq_of_le (by omega) (by omega)]
  omega
theorem dv_sub {d a b : Nat} (hd0 : 0 < d) (hd : d < 2 ^ 30) (ha : a < 2 ^ 30) (hb : b < 2 ^ 30) : dvI d (nI a - nI b) = decide (apart a b % d = 0) := by
  have h1 := pk_sub_toInt ha hb
  have h2 := rm_toInt (x := nI a - nI b) hd0 (by omega) (by rw [h1]; omega)
  rw [h1] at h2
  have h3 : (nI a - nI b - (nI a - nI b) / nI d * nI d = 0) ↔ ((a : Int) - b).tmod d = 0 := by
    rw [← Int32.toInt_inj, h2, Int32.toInt_zero]
  have h4 : ((a : Int) - b).tmod d = 0 ↔ apart a b % d = 0 := by
    rw [← Int.dvd_iff_tmod_eq_zero, ← Nat.dvd_iff_mod_eq_zero, ← Int.ofNat_dvd]
    unfold apart
    rcases Nat.le_total b a with h | h
    · have e : (((a - b) + (b - a) : Nat) : Int) = (a : Int) - b := by omega
      rw [e]
    · have e : (((a - b) + (b - a) : Nat) : Int) = -((a : Int) - b) := by omega
      rw [e, Int.dvd_neg]
  unfold dvI
  by_cases h : apart a b % d = 0
  · rw [decide_eq_true h]; exact decide_eq_true ⟨by omega, h3.mpr (h4.mpr h)⟩
  · rw [decide_eq_false h]; exact decide_eq_false (fun z => h (h4.mp (h3.mp z.2)))
theorem xor_ge {x : Int32} {m : Nat} (hm : m < 2 ^ 31) : 0 ≤ x ^^^ nI m ↔ 0 ≤ x.toInt := by
  have e : ∀ y : Int32, 0 ≤ y ↔ y.toBitVec.msb = false := fun y => by
    rw [Int32.le_iff_toInt_le, Int32.toInt_zero, BitVec.msb_eq_toInt]
    show 0 ≤ y.toBitVec.toInt ↔ _
    rw [decide_eq_false_iff_not]; omega
  have hm2 : (nI m).toBitVec.msb = false := by
    rw [← e, Int32.le_iff_toInt_le, Int32.toInt_zero, nI_toInt hm]; omega
  rw [e, Int32.toBitVec_xor, BitVec.msb_xor, hm2, Bool.xor_false, ← e, Int32.le_iff_toInt_le, Int32.toInt_zero]
theorem fm_nat {x : Int32} {m : Nat} (hm0 : 0 < m) (hm : m < 2 ^ 30) (hx : -2147483648 < x.toInt) : ∃ k, k < m ∧ fmI x (nI m) = nI k ∧ (k : Int) = x.toInt % m := by
  have h2 := rm_toInt (x := x) hm0 (by omega) hx
  obtain ⟨e1, e2, e3⟩ := tdm (z := x.toInt) hm0
  have hp := Int.emod_nonneg x.toInt (show (m : Int) ≠ 0 by omega)
  have hq := Int.emod_lt_of_pos x.toInt (show (0 : Int) < m by omega)
  refine ⟨(x.toInt % m).toNat, by omega, ?_, by omega⟩
  rw [← Int32.toInt_inj, nI_toInt (by omega), Int.toNat_of_nonneg hp]
  unfold fmI
  have em := Int.emod_def x.toInt m
  by_cases h : 0 ≤ x.toInt
  · rw [if_pos ((xor_ge (by omega)).mpr h), h2, Int.tmod_eq_emod_of_nonneg h]
  · rw [if_neg (fun z => h ((xor_ge (by omega)).mp z))]
    have et : x.toInt.tmod m ≤ 0 := by
      have h5 : x.toInt.tmod m = -((-x.toInt).tmod m) := by rw [Int.neg_tmod]; omega
      have h4 := Int.tmod_nonneg (m : Int) (show (0 : Int) ≤ -x.toInt by omega)
      omega
    have key : ∀ r : Int, 0 ≤ r → r < m → (∃ c : Int, x.toInt = c * m + r) → x.toInt % m = r := fun r h0 h9 ⟨c, hc⟩ => by
      rw [hc, Int.add_comm, Int.add_mul_emod_self_right]; exact Int.emod_eq_of_lt h0 h9
    by_cases hz : x - x / nI m * nI m = 0
    · rw [if_pos hz, h2]
      have : x.toInt.tmod m = 0 := by rw [← h2, hz]; rfl
      rw [this]
      exact (key 0 (by omega) (by omega) ⟨x.toInt.tdiv m, by omega⟩).symm
    · rw [if_neg hz, Int32.toInt_add, h2, nI_toInt (by omega)]
      have hne : x.toInt.tmod m ≠ 0 := fun z => hz (by rw [← Int32.toInt_inj, h2, z]; rfl)
      rw [Int.bmod_eq_of_le (by omega) (by omega)]
      refine (key _ (by omega) (by omega) ⟨x.toInt.tdiv m - 1, ?_⟩).symm
      rw [Int.sub_mul]; omega
theorem mul_toInt {x y : Int32} {z : Int} (h : x.toInt * y.toInt = z) (hz : z.natAbs < 2 ^ 31) : (x * y).toInt = z := by
  rw [Int32.toInt_mul, h]
  exact Int.bmod_eq_of_le (by omega) (by omega)
/-- both swing -/
def mts (s1 p1 s2 p2 t : Nat) : Prop := (t - s1) % p1 = 0 ∧ (t - s2) % p2 = 0
theorem mtF_yy {s1 p1 s2 p2 n t : Nat} (h : mts s1 p1 s2 p2 t) : mtF s1 p1 s2 p2 (n + 1) t = some t := mtF_yes h.1 h.2
theorem mtF_nn {s1 p1 s2 p2 n t : Nat} (h : ¬ mts s1 p1 s2 p2 t) : mtF s1 p1 s2 p2 (n + 1) t = mtF s1 p1 s2 p2 n (t + 1) := mtF_no (Decidable.not_and_iff_not_or_not.mp h)
theorem mtF_char {s1 p1 s2 p2 x : Nat} : ∀ n t0, t0 ≤ x → x < t0 + n → mts s1 p1 s2 p2 x → (∀ y, t0 ≤ y → y < x → ¬ mts s1 p1 s2 p2 y) → mtF s1 p1 s2 p2 n t0 = some x := by
  intro n
  induction n with
  | zero => intro t0 h1 h2; omega
  | succ n ih =>
    intro t0 h1 h2 hx hm
    by_cases e : t0 = x
    · subst e; exact mtF_yy hx
    · rw [mtF_nn (hm t0 (Nat.le_refl _) (by omega))]
      exact ih (t0 + 1) (by omega) (by omega) hx (fun y h3 h4 => hm y (by omega) h4)
theorem mtF_none {s1 p1 s2 p2 : Nat} : ∀ n t0, (∀ y, t0 ≤ y → y < t0 + n → ¬ mts s1 p1 s2 p2 y) → mtF s1 p1 s2 p2 n t0 = none := by
  intro n
  induction n with
  | zero => intro t0 _; rfl
  | succ n ih =>
    intro t0 h
    rw [mtF_nn (h t0 (Nat.le_refl _) (by omega))]
    exact ih (t0 + 1) (fun y h1 h2 => h y (by omega) (by omega))
theorem mtF_some {s1 p1 s2 p2 x : Nat} : ∀ n t0, mtF s1 p1 s2 p2 n t0 = some x → t0 ≤ x ∧ x < t0 + n ∧ mts s1 p1 s2 p2 x ∧ ∀ y, t0 ≤ y → y < x → ¬ mts s1 p1 s2 p2 y := by
  intro n
  induction n with
  | zero => intro t0 h; cases h
  | succ n ih =>
    intro t0 h
    unfold mtF at h
    split at h
    · next h1 => cases h; exact ⟨Nat.le_refl _, by omega, h1, fun y h2 h3 => by omega⟩
    · next h1 =>
      obtain ⟨a, b, c, d⟩ := ih _ h
      refine ⟨by omega, by omega, c, fun y h2 h3 => ?_⟩
      by_cases e : y = t0
      · subst e; exact h1
      · exact d y (by omega) h3
theorem mtF_isnone {s1 p1 s2 p2 : Nat} : ∀ n t0, mtF s1 p1 s2 p2 n t0 = none → ∀ y, t0 ≤ y → y < t0 + n → ¬ mts s1 p1 s2 p2 y := by
  intro n
  induction n with
  | zero => intro t0 _ y h1 h2; omega
  | succ n ih =>
    intro t0 h y h1 h2
    unfold mtF at h
    split at h
    · cases h
    · next h3 =>
      by_cases e : y = t0
      · subst e; exact h3
      · exact ih _ h y (by omega) (by omega)
theorem mts_sub {s1 p1 s2 p2 L y : Nat} (h1 : p1 ∣ L) (h2 : p2 ∣ L) (ha : s1 + L ≤ y) (hb : s2 + L ≤ y) (h : mts s1 p1 s2 p2 y) : mts s1 p1 s2 p2 (y - L) := by
  obtain ⟨a, rfl⟩ := h1
  refine ⟨?_, ?_⟩
  · rw [show y - p1 * a - s1 = (y - s1) - p1 * a by omega, Nat.sub_mul_mod (by omega)]; exact h.1
  · obtain ⟨c, hc⟩ := h2
    rw [show y - p1 * a - s2 = (y - s2) - p2 * c by omega, Nat.sub_mul_mod (by omega)]; exact h.2
theorem mt_never {s1 p1 s2 p2 L t0 : Nat} (h1 : p1 ∣ L) (h2 : p2 ∣ L) (hL : 0 < L) (ha : s1 ≤ t0) (hb : s2 ≤ t0) (h : mtF s1 p1 s2 p2 L t0 = none) : ∀ y, t0 ≤ y → ¬ mts s1 p1 s2 p2 y := by
  intro y
  induction y using Nat.strongRecOn with
  | ind y ih =>
    intro hy hm
    by_cases e : y < t0 + L
    · exact mtF_isnone L t0 h y hy e hm
    · exact ih (y - L) (by omega) (by omega) (mts_sub h1 h2 (by omega) (by omega) hm)
theorem mt_long {s1 p1 s2 p2 L t0 n : Nat} (h1 : p1 ∣ L) (h2 : p2 ∣ L) (hL : 0 < L) (ha : s1 ≤ t0) (hb : s2 ≤ t0) (hn : L ≤ n) : mtF s1 p1 s2 p2 n t0 = mtF s1 p1 s2 p2 L t0 := by
  cases h : mtF s1 p1 s2 p2 L t0 with
  | none => exact mtF_none n t0 (fun y h3 _ => mt_never h1 h2 hL ha hb h y h3)
  | some x =>
    obtain ⟨a, b, c, d⟩ := mtF_some L t0 h
    exact mtF_char n t0 a (by omega) c d
theorem cy_dvd1 (p q : Nat) : p ∣ cyN p q := by
  unfold cyN
  obtain ⟨a, ha⟩ := Nat.gcd_dvd_left p q
  obtain ⟨c, hc⟩ := Nat.gcd_dvd_right p q
  rcases Nat.eq_zero_or_pos (Nat.gcd p q) with h | h
  · rw [h, Nat.div_zero, Nat.zero_mul]; exact Nat.dvd_zero _
  · refine ⟨c, ?_⟩
    have e1 : p / Nat.gcd p q = a := Nat.div_eq_of_eq_mul_right h ha
    rw [e1]
    generalize Nat.gcd p q = g at ha hc
    rw [ha, hc]
    ac_rfl
theorem cy_dvd2 (p q : Nat) : q ∣ cyN p q := ⟨p / Nat.gcd p q, by unfold cyN; exact Nat.mul_comm _ _⟩
theorem cy_pos {p q : Nat} (hp : 0 < p) (hq : 0 < q) : 0 < cyN p q := by
  unfold cyN
  exact Nat.mul_pos (Nat.div_pos (Nat.le_of_dvd hp (Nat.gcd_dvd_left p q)) (Nat.gcd_pos_of_pos_left q hp)) hq
theorem cy_le_mul (p q : Nat) : cyN p q ≤ p * q := Nat.mul_le_mul_right q (Nat.div_le_self _ _)
/-- when both swing in y, the starts differ by a multiple of the periods' divisor -/
theorem mts_gcd {s1 p1 s2 p2 y : Nat} (ha : s1 ≤ y) (hb : s2 ≤ y) (h : mts s1 p1 s2 p2 y) : ((s1 - s2) + (s2 - s1)) % Nat.gcd p1 p2 = 0 := by
  obtain ⟨h1, h2⟩ := h
  have d1 : Nat.gcd p1 p2 ∣ y - s1 := Nat.dvd_trans (Nat.gcd_dvd_left p1 p2) (Nat.dvd_of_mod_eq_zero h1)
  have d2 : Nat.gcd p1 p2 ∣ y - s2 := Nat.dvd_trans (Nat.gcd_dvd_right p1 p2) (Nat.dvd_of_mod_eq_zero h2)
  refine Nat.mod_eq_zero_of_dvd ?_
  rcases Nat.le_total s1 s2 with z | z
  · rw [show s1 - s2 + (s2 - s1) = (y - s1) - (y - s2) by omega]; exact Nat.dvd_sub d1 d2
  · rw [show s1 - s2 + (s2 - s1) = (y - s2) - (y - s1) by omega]; exact Nat.dvd_sub d2 d1
/-- the meeting by divisors: first + k * p1 is the first tick in which both swing -/
theorem mt_div {s1 p1 s2 p2 T g q m k a b : Nat} {st inv : Int} (hp1 : 0 < p1) (hs1 : s1 ≤ T) (hs2 : s2 ≤ T) (e1 : p1 = q * g) (e2 : p2 = m * g) (hg : 0 < g) (hm : 0 < m)
    (ha : T - s1 = p1 * a + (T - s1) % p1) (hb : T - s2 = p2 * b + (T - s2) % p2)
    (hst : ((T + p2 - (T - s2) % p2 : Nat) : Int) - ((T + p1 - (T - s1) % p1 : Nat) : Int) = st * g) (hinv : ((q : Int) * inv) % m = 1 % m) (hk : k < m) (hkm : (k : Int) = (st * inv) % m) :
    mtF s1 p1 s2 p2 (q * p2) (T + 1) = some (T + p1 - (T - s1) % p1 + k * p1) := by
  have hp2 : 0 < p2 := by rw [e2]; exact Nat.mul_pos hm hg
  have r1 := Nat.mod_lt (T - s1) hp1
  have r2 := Nat.mod_lt (T - s2) hp2
  generalize (T - s1) % p1 = u1 at *
  generalize (T - s2) % p2 = u2 at *
  have f1 : T + p1 - u1 = s1 + p1 * (a + 1) := by rw [Nat.mul_add, Nat.mul_one]; omega
  have f2 : T + p2 - u2 = s2 + p2 * (b + 1) := by rw [Nat.mul_add, Nat.mul_one]; omega
  -- k q ≡ st
  obtain ⟨c0, hc0⟩ : ∃ c : Int, (q : Int) * inv = 1 + m * c := by
    have := Int.emod_emod_of_dvd
    refine ⟨((q : Int) * inv - 1) / m, ?_⟩
    have hd : (m : Int) ∣ (q : Int) * inv - 1 := by
      refine Int.dvd_of_emod_eq_zero ?_
      rw [Int.sub_emod, hinv, Int.sub_self]; rfl
    rw [Int.mul_ediv_cancel' hd]; omega
  obtain ⟨c1, hc1⟩ : ∃ c : Int, st * inv = k + m * c := ⟨(st * inv) / m, by rw [hkm, Int.emod_def]; omega⟩
  have hkq : (k : Int) * q - st = m * (st * c0 - c1 * q) := by
    have h9 : (k : Int) = st * inv - m * c1 := by omega
    rw [h9]
    have h8 : (st * inv - m * c1) * q - st = st * ((q : Int) * inv) - m * c1 * q - st := by grind
    rw [h8, hc0]
    grind
  have hge : s1 ≤ T + p1 - u1 + k * p1 := by omega
  have hkp : k * p1 ≤ (m - 1) * p1 := Nat.mul_le_mul_right _ (by omega)
  have hmp : m * p1 = q * p2 := by rw [e1, e2]; ac_rfl
  have hmp2 : m * p1 = (m - 1) * p1 + p1 := by rw [← Nat.succ_mul]; congr 1; omega
  have two : ∀ y, T < y → mts s1 p1 s2 p2 y → ∃ k' : Nat, y = T + p1 - u1 + k' * p1 ∧ ∃ c : Int, (k' : Int) * q - st = m * c := by
    intro y hy ⟨y1, y2⟩
    obtain ⟨c, hc⟩ := Nat.dvd_of_mod_eq_zero y1
    obtain ⟨d, hd⟩ := Nat.dvd_of_mod_eq_zero y2
    have hca : a + 1 ≤ c := by
      rcases Nat.lt_or_ge a c with z | z
      · exact z
      · have := Nat.mul_le_mul_left p1 z
        omega
    have hcm : p1 * c = p1 * (a + 1) + (c - (a + 1)) * p1 := by
      rw [Nat.mul_comm (c - (a + 1)) p1, ← Nat.mul_add]; congr 1; omega
    refine ⟨c - (a + 1), by omega, (d : Int) - (b + 1), ?_⟩
    have hy2 : (y : Int) = s2 + p2 * d := by
      have : y = s2 + p2 * d := by omega
      rw [this]; push_cast; rfl
    have hy1 : (y : Int) = (T + p1 - u1 : Nat) + ((c - (a + 1) : Nat) : Int) * p1 := by
      have : y = T + p1 - u1 + (c - (a + 1)) * p1 := by omega
      rw [this]; push_cast; omega
    have hf2 : ((T + p2 - u2 : Nat) : Int) = s2 + p2 * (b + 1) := by rw [f2]; push_cast; rfl
    generalize ((c - (a + 1) : Nat) : Int) = k' at *
    have e1' : (p1 : Int) = q * g := by rw [e1]; push_cast; rfl
    have e2' : (p2 : Int) = m * g := by rw [e2]; push_cast; rfl
    have hz : (g : Int) * (k' * q - st) = g * (m * (d - (b + 1))) := by grind
    exact Int.eq_of_mul_eq_mul_left (by omega) hz
  refine mtF_char _ _ (by omega) (by omega) ⟨?_, ?_⟩ ?_
  · rw [show T + p1 - u1 + k * p1 - s1 = p1 * (a + 1) + k * p1 by omega, Nat.add_mul_mod_self_right, Nat.mul_mod_right]
  · have hd : (p2 : Int) ∣ ((T + p1 - u1 + k * p1 : Nat) : Int) - s2 := by
      refine ⟨(b + 1) + (st * c0 - c1 * q), ?_⟩
      have hf2 : ((T + p2 - u2 : Nat) : Int) = s2 + p2 * (b + 1) := by rw [f2]; push_cast; rfl
      have e1' : (p1 : Int) = q * g := by rw [e1]; push_cast; rfl
      have e2' : (p2 : Int) = m * g := by rw [e2]; push_cast; rfl
      have hz : ((T + p1 - u1 + k * p1 : Nat) : Int) = ((T + p1 - u1 : Nat) : Int) + k * p1 := by omega
      grind
    have hs : s2 ≤ T + p1 - u1 + k * p1 := by omega
    have : ((T + p1 - u1 + k * p1 - s2 : Nat) : Int) = ((T + p1 - u1 + k * p1 : Nat) : Int) - s2 := by omega
    rw [← this] at hd
    exact Nat.mod_eq_zero_of_dvd (Int.ofNat_dvd.mp hd)
  · intro y h1 h2 hmt
    obtain ⟨k', hk', c, hc⟩ := two y (by omega) hmt
    have hlt : k' < k := by
      rcases Nat.lt_or_ge k' k with z | z
      · exact z
      · have := Nat.mul_le_mul_right p1 z
        omega
    have hd : (m : Int) ∣ ((k : Int) - k') * q := ⟨(st * c0 - c1 * q) - c, by grind⟩
    have hd2 : (m : Int) ∣ (k : Int) - k' := by
      obtain ⟨w, hw⟩ := hd
      refine ⟨w * inv - ((k : Int) - k') * c0, ?_⟩
      have h5 : ((k : Int) - k') * (q * inv) = m * w * inv := by grind
      rw [hc0] at h5
      grind
    have := Int.le_of_dvd (by omega) hd2
    omega
theorem inv_key {q m : Nat} (hq : q < 60) (hm : m < 60) (hg : Nat.gcd q m = 1) (h1 : 1 ≤ m) : ((q : Int) * (ivF 100 q m 1 0).toInt) % m = 1 % m ∧ (ivF 100 q m 1 0).toInt.natAbs ≤ 60 := by
  have key : ∀ q, q < 60 → ∀ m, m < 60 → Nat.gcd q m = 1 → 1 ≤ m → ((q : Int) * (ivF 100 q m 1 0).toInt) % m = 1 % m ∧ (ivF 100 q m 1 0).toInt.natAbs ≤ 60 := by decide +kernel
  exact key q hq m hm hg h1
theorem mt_dvd {s1 p1 s2 p2 T : Nat} (hs1 : s1 ≤ T) (hs2 : s2 ≤ T) (hp1 : 0 < p1) (hp2 : 0 < p2) (h : apart s1 s2 % Nat.gcd p1 p2 = 0) :
    ∃ st : Int, ((T + p2 - (T - s2) % p2 : Nat) : Int) - ((T + p1 - (T - s1) % p1 : Nat) : Int) = st * (Nat.gcd p1 p2 : Nat) := by
  have r1 := Nat.mod_lt (T - s1) hp1
  have r2 := Nat.mod_lt (T - s2) hp2
  have d1 := Nat.div_add_mod (T - s1) p1
  have d2 := Nat.div_add_mod (T - s2) p2
  obtain ⟨c, hc⟩ := Nat.dvd_of_mod_eq_zero h
  obtain ⟨q, hq⟩ := Nat.gcd_dvd_left p1 p2
  obtain ⟨m, hm⟩ := Nat.gcd_dvd_right p1 p2
  generalize Nat.gcd p1 p2 = g at *
  generalize (T - s1) % p1 = u1 at *
  generalize (T - s2) % p2 = u2 at *
  generalize (T - s1) / p1 = a at *
  generalize (T - s2) / p2 = b at *
  have f1 : ((T + p1 - u1 : Nat) : Int) = s1 + p1 * (a + 1) := by
    have : T + p1 - u1 = s1 + p1 * (a + 1) := by rw [Nat.mul_add, Nat.mul_one]; omega
    rw [this]; push_cast; rfl
  have f2 : ((T + p2 - u2 : Nat) : Int) = s2 + p2 * (b + 1) := by
    have : T + p2 - u2 = s2 + p2 * (b + 1) := by rw [Nat.mul_add, Nat.mul_one]; omega
    rw [this]; push_cast; rfl
  have hq' : (p1 : Int) = g * q := by rw [hq]; push_cast; rfl
  have hm' : (p2 : Int) = g * m := by rw [hm]; push_cast; rfl
  have hc' : (apart s1 s2 : Int) = g * c := by rw [hc]; push_cast; rfl
  rw [f1, f2]
  unfold apart at hc'
  rcases Nat.le_total s1 s2 with z | z
  · have : (s2 : Int) - s1 = g * c := by omega
    exact ⟨c + m * (b + 1) - q * (a + 1), by grind⟩
  · have : (s1 : Int) - s2 = g * c := by omega
    exact ⟨-c + m * (b + 1) - q * (a + 1), by grind⟩
theorem by_main {s1 p1 s2 p2 T : Nat} (hs1 : s1 ≤ T) (hs2 : s2 ≤ T) (hT : T < 20000000) (hp1 : 0 < p1) (hp2 : 0 < p2) (hl1 : p1 ≤ 59) (hl2 : p2 ≤ 59) (h : apart s1 s2 % Nat.gcd p1 p2 = 0) :
    ∃ i k, fmI (ivF 100 (p1 / Nat.gcd p1 p2) (p2 / Nat.gcd p1 p2) 1 0) (nI (p2 / Nat.gcd p1 p2)) = nI i ∧ i < 60 ∧ k < 60 ∧
      fmI ((nI (T + p2 - (T - s2) % p2) - nI (T + p1 - (T - s1) % p1)) / nI (Nat.gcd p1 p2) * nI i) (nI (p2 / Nat.gcd p1 p2)) = nI k ∧
      mtF s1 p1 s2 p2 (cyN p1 p2) (T + 1) = some (T + p1 - (T - s1) % p1 + k * p1) := by
  obtain ⟨st, hst⟩ := mt_dvd hs1 hs2 hp1 hp2 h
  have hg := Nat.gcd_pos_of_pos_left p2 hp1
  have hcop := Nat.gcd_div_gcd_div_gcd_of_pos_left (n := p1) (m := p2) hp1
  have e1 : p1 / Nat.gcd p1 p2 * Nat.gcd p1 p2 = p1 := Nat.div_mul_cancel (Nat.gcd_dvd_left p1 p2)
  have e2 : p2 / Nat.gcd p1 p2 * Nat.gcd p1 p2 = p2 := Nat.div_mul_cancel (Nat.gcd_dvd_right p1 p2)
  have hgl := Nat.gcd_le_left p2 hp1
  have hq59 : p1 / Nat.gcd p1 p2 ≤ p1 := Nat.div_le_self _ _
  have hm59 : p2 / Nat.gcd p1 p2 ≤ p2 := Nat.div_le_self _ _
  have hm0 : 0 < p2 / Nat.gcd p1 p2 := Nat.pos_of_ne_zero (fun z => by rw [z] at e2; omega)
  have hcy : cyN p1 p2 = p1 / Nat.gcd p1 p2 * p2 := rfl
  rw [hcy]
  generalize Nat.gcd p1 p2 = g at *
  generalize p1 / g = q at *
  generalize p2 / g = m at *
  obtain ⟨k1, k2⟩ := inv_key (q := q) (m := m) (by omega) (by omega) hcop (by omega)
  obtain ⟨i, hi, hfi, hie⟩ := fm_nat (x := ivF 100 q m 1 0) (m := m) hm0 (by omega) (by omega)
  have r1 := Nat.mod_lt (T - s1) hp1
  have r2 := Nat.mod_lt (T - s2) hp2
  have hsz : (nI (T + p2 - (T - s2) % p2) - nI (T + p1 - (T - s1) % p1)).toInt = st * g := by
    rw [pk_sub_toInt (by omega) (by omega)]; exact hst
  have hzb : (st * (g : Int)).natAbs ≤ 59 := by omega
  have hsb : st.natAbs ≤ 59 := by
    have : st.natAbs * g = (st * (g : Int)).natAbs := by rw [Int.natAbs_mul]; rfl
    have h5 : st.natAbs * 1 ≤ st.natAbs * g := Nat.mul_le_mul_left _ hg
    omega
  have hq : ((nI (T + p2 - (T - s2) % p2) - nI (T + p1 - (T - s1) % p1)) / nI g).toInt = st := by
    rw [div_toInt (by omega) (by rw [hsz]; omega), hsz, Int.mul_tdiv_cancel _ (by omega)]
  have hmb : (st * (i : Int)).natAbs < 2 ^ 31 := by
    rw [Int.natAbs_mul]
    have : st.natAbs * (i : Int).natAbs ≤ 59 * 60 := Nat.mul_le_mul hsb (by omega)
    omega
  have hx : ((nI (T + p2 - (T - s2) % p2) - nI (T + p1 - (T - s1) % p1)) / nI g * nI i).toInt = st * i := mul_toInt (by rw [hq, nI_toInt (by omega)]) hmb
  obtain ⟨k, hk, hfk, hke⟩ := fm_nat (x := (nI (T + p2 - (T - s2) % p2) - nI (T + p1 - (T - s1) % p1)) / nI g * nI i) (m := m) hm0 (by omega) (by rw [hx]; omega)
  rw [hx] at hke
  refine ⟨i, k, hfi, by omega, by omega, hfk, ?_⟩
  have hinv : ((q : Int) * i) % m = 1 % m := by
    rw [hie, Int.mul_emod, Int.emod_emod_of_dvd _ (Int.dvd_refl _), ← Int.mul_emod]; exact k1
  exact mt_div (a := (T - s1) / p1) (b := (T - s2) / p2) hp1 hs1 hs2 e1.symm e2.symm hg hm0 (Nat.div_add_mod _ _).symm (Nat.div_add_mod _ _).symm hst hinv hk hke
theorem apart_comm (a b : Nat) : apart a b = apart b a := Nat.add_comm _ _
abbrev MX3_swingsIn : MT := (RX3, cX3_swingsIn, 3, (some .boolean), [], "swingsIn")
set_option maxHeartbeats 4000000 in
theorem s_in {l : Launch} {G : GT} {n : Nat} {f : HT} {o : Nat} {J : Nat → Int32} {B : Nat → Nat → Int32} {K : Nat} {V : Nat → Nat} (hS : SV J B V) (hB : VB K V) {k t : Nat} (hk : k < V 2) (ht : V (20 + k) ≤ t) (htb : t < 2 ^ 30) : AM l G yX3_swingsIn (.code yX3_swingsIn cX3_swingsIn 3 (some .boolean)) 2 120 0 0 [.ref o, .int (nI k), .int (nI t)] (sU f o J B) n (rI (bI (decide ((t - V (20 + k)) % perN (V (4 + k)) = 0))) (sU f o J B) n) := by
  refine aw_enter (M := MX3_swingsIn) rfl rfl (by decide +kernel) rfl (Nat.le_of_ble_eq_true rfl) ?_
  have hcnt := VB.cnt hB
  have hleg := VB.legs hB
  have hfr := VB.fric hB
  have hnow := VB.now hB
  have hkk := VB.kk hB
  have haxk := VB.amp hB (k := k) (by omega)
  have hsxk := VB.start hB (k := k) (by omega)
  have hlxk := VB.len hB (k := k) (by omega)
  have hl1k := VB.len1 hB (k := k) (by omega)
  have hwxk := VB.sw hB (k := k) (by omega)
  have hppk := per_pos hl1k
  have hplk := per_le hlxk
  show AW l G MX3_swingsIn 2 120 0 0 _ n 0 0 0 [(0, .ref o), (1, .int (nI k)), (2, .int (nI t))] [] _ n
  refine aw_aload_n dX3_swingsIn_0 rfl rfl ?_
  refine aw_iload_n dX3_swingsIn_1 rfl rfl ?_
  refine aw_vI (as := [Value.int (nI k)]) (rest := []) mV_X8_periodAt (s_per hS hB (k := k) (by omega)) ml_X3_9 sU_0 rfl dX3_swingsIn_2 rfl rfl (by decide) (Nat.le_of_ble_eq_true rfl) (by decide) ?_
  refine aw_iload_n dX3_swingsIn_5 rfl rfl ?_
  refine aw_aload_n dX3_swingsIn_6 rfl rfl ?_
  refine aw_iload_n dX3_swingsIn_7 rfl rfl ?_
  refine aw_vI (as := [Value.int (nI k)]) (rest := [Value.int (nI t), Value.int (nI (perN (V (4 + k))))]) mV_X8_startAt (s_start hS hB (k := k) (by omega)) ml_X3_25 sU_0 rfl dX3_swingsIn_8 rfl rfl (by decide) (Nat.le_of_ble_eq_true rfl) (by decide) ?_
  refine aw_isub_n (by omega) dX3_swingsIn_11 ?_
  refine aw_sI (as := [Value.int (nI (perN (V (4 + k)))), Value.int (nI (t - (V (20 + k))))]) (rest := []) mS_X4_divides (n_div (by omega)) ml_X3_28 dX3_swingsIn_12 rfl rfl (by decide) (Nat.le_of_ble_eq_true rfl) (by decide) ?_
  rw [dv_n (by omega) (by omega) (by omega)]
  exact aw_zret rfl (bI_nar _) (by decide) (by decide) dX3_swingsIn_15 (rI_of (by rfl))
abbrev MX3_tickByTick : MT := (RX3, cX3_tickByTick, 6, (some .int), [], "tickByTick")
set_option maxHeartbeats 4000000 in
theorem s_tbt_loop {l : Launch} {G : GT} {n : Nat} {f : HT} {o : Nat} {J : Nat → Int32} {B : Nat → Nat → Int32} {K : Nat} {V : Nat → Nat} (hS : SV J B V) (hB : VB K V) {a c : Nat} (ha : a < V 2) (hc : c < V 2) : ∀ (N : Nat) (u : Nat), (perN (V (4 + a)) * perN (V (4 + c)) + 1 - u = N) → (1 ≤ u) → (u ≤ perN (V (4 + a)) * perN (V (4 + c)) + 1) → (mtF (V (20 + a)) (perN (V (4 + a))) (V (20 + c)) (perN (V (4 + c))) (perN (V (4 + a)) * perN (V (4 + c)) + 1 - u) (V 0 + u) = mtF (V (20 + a)) (perN (V (4 + a))) (V (20 + c)) (perN (V (4 + c))) (perN (V (4 + a)) * perN (V (4 + c))) (V 0 + 1)) → AW l G MX3_tickByTick 3 180 0 0 (rI (mtI (mtF (V (20 + a)) (perN (V (4 + a))) (V (20 + c)) (perN (V (4 + c))) (perN (V (4 + a)) * perN (V (4 + c))) (V 0 + 1))) (sU f o J B) n) n 0 0 15 [(4, .int (nI u)), (3, .int (nI (perN (V (4 + a)) * perN (V (4 + c))))), (0, .ref o), (1, .int (nI a)), (2, .int (nI c))] [] (sU f o J B) n := by
  intro N
  induction N using Nat.strongRecOn with
  | ind N ih =>
    intro u hN hu1 hu he
    have hcnt := VB.cnt hB
    have hleg := VB.legs hB
    have hfr := VB.fric hB
    have hnow := VB.now hB
    have hkk := VB.kk hB
    have haxa := VB.amp hB (k := a) (by omega)
    have hsxa := VB.start hB (k := a) (by omega)
    have hlxa := VB.len hB (k := a) (by omega)
    have hl1a := VB.len1 hB (k := a) (by omega)
    have hwxa := VB.sw hB (k := a) (by omega)
    have hppa := per_pos hl1a
    have hpla := per_le hlxa
    have haxc := VB.amp hB (k := c) (by omega)
    have hsxc := VB.start hB (k := c) (by omega)
    have hlxc := VB.len hB (k := c) (by omega)
    have hl1c := VB.len1 hB (k := c) (by omega)
    have hwxc := VB.sw hB (k := c) (by omega)
    have hppc := per_pos hl1c
    have hplc := per_le hlxc
    have hmm : perN (V (4 + a)) * perN (V (4 + c)) ≤ 59 * 59 := Nat.mul_le_mul hpla hplc
    refine aw_iload dX3_tickByTick_15 rfl ?_
    refine aw_iload_n dX3_tickByTick_17 rfl rfl ?_
    refine aw_icmp_gt_n (by omega) (by omega) (tgt := 59) dX3_tickByTick_18 (by decide) (fun c_1 => ?_) (fun c_1 => ?_)
    · refine aw_iconst (v := -1) dX3_tickByTick_59 (by decide) ?_
      exact aw_iret rfl (by decide) (by decide) dX3_tickByTick_60 (rI_of (by rw [← he, show perN (V (4 + a)) * perN (V (4 + c)) + 1 - u = 0 by omega]; rfl))
    · refine aw_aload_n dX3_tickByTick_21 rfl rfl ?_
      refine aw_get (v := .int (nI (V 0))) fl_X3_15 sU_0 (congrArg (fun z => some (Value.int z)) hS.now) dX3_tickByTick_22 ?_
      refine aw_iload dX3_tickByTick_25 rfl ?_
      refine aw_iadd_n dX3_tickByTick_27 ?_
      refine aw_istore (L' := [(5, .int (nI ((V 0) + u))), (4, .int (nI u)), (3, .int (nI (perN (V (4 + a)) * perN (V (4 + c))))), (0, .ref o), (1, .int (nI a)), (2, .int (nI c))]) dX3_tickByTick_28 (by decide) rfl ?_
      refine aw_aload_n dX3_tickByTick_30 rfl rfl ?_
      refine aw_iload_n dX3_tickByTick_31 rfl rfl ?_
      refine aw_iload dX3_tickByTick_32 rfl ?_
      refine aw_sI (as := [Value.ref o, Value.int (nI a), Value.int (nI ((V 0) + u))]) (rest := []) mS_X3_swingsIn (s_in hS hB (k := a) (t := (V 0) + u) (by omega) (by omega) (by omega)) ml_X3_19 dX3_tickByTick_34 rfl rfl (by decide) (Nat.le_of_ble_eq_true rfl) (by decide) ?_
      refine aw_if_eq_b (tgt := 53) dX3_tickByTick_37 (by decide) (fun c_2 => ?_) (fun c_2 => ?_)
      · have d_1 := of_decide_eq_false c_2
        refine aw_iinc_n (L' := [(4, .int (nI (u + 1))), (5, .int (nI ((V 0) + u))), (3, .int (nI (perN (V (4 + a)) * perN (V (4 + c))))), (0, .ref o), (1, .int (nI a)), (2, .int (nI c))]) 1 dX3_tickByTick_53 rfl (by decide) (by decide) rfl ?_
        refine aw_goto (tgt := 15) dX3_tickByTick_56 (by decide) ?_
        refine aw_sub [(4, .int (nI (u + 1))), (3, .int (nI (perN (V (4 + a)) * perN (V (4 + c))))), (0, .ref o), (1, .int (nI a)), (2, .int (nI c))] (by simp) ?_
        exact ih _ (by omega) (u + 1) rfl (by omega) (by omega) (by rw [← he, show perN (V (4 + a)) * perN (V (4 + c)) + 1 - u = (perN (V (4 + a)) * perN (V (4 + c)) + 1 - (u + 1)) + 1 by omega]; exact (mtF_no (Or.inl d_1)).symm)
      · have d_1 := of_decide_eq_true c_2
        refine aw_aload_n dX3_tickByTick_40 rfl rfl ?_
        refine aw_iload_n dX3_tickByTick_41 rfl rfl ?_
        refine aw_iload dX3_tickByTick_42 rfl ?_
        refine aw_sI (as := [Value.ref o, Value.int (nI c), Value.int (nI ((V 0) + u))]) (rest := []) mS_X3_swingsIn (s_in hS hB (k := c) (t := (V 0) + u) (by omega) (by omega) (by omega)) ml_X3_19 dX3_tickByTick_44 rfl rfl (by decide) (Nat.le_of_ble_eq_true rfl) (by decide) ?_
        refine aw_if_eq_b (tgt := 53) dX3_tickByTick_47 (by decide) (fun c_3 => ?_) (fun c_3 => ?_)
        · have d_2 := of_decide_eq_false c_3
          refine aw_iinc_n (L' := [(4, .int (nI (u + 1))), (5, .int (nI ((V 0) + u))), (3, .int (nI (perN (V (4 + a)) * perN (V (4 + c))))), (0, .ref o), (1, .int (nI a)), (2, .int (nI c))]) 1 dX3_tickByTick_53 rfl (by decide) (by decide) rfl ?_
          refine aw_goto (tgt := 15) dX3_tickByTick_56 (by decide) ?_
          refine aw_sub [(4, .int (nI (u + 1))), (3, .int (nI (perN (V (4 + a)) * perN (V (4 + c))))), (0, .ref o), (1, .int (nI a)), (2, .int (nI c))] (by simp) ?_
          exact ih _ (by omega) (u + 1) rfl (by omega) (by omega) (by rw [← he, show perN (V (4 + a)) * perN (V (4 + c)) + 1 - u = (perN (V (4 + a)) * perN (V (4 + c)) + 1 - (u + 1)) + 1 by omega]; exact (mtF_no (Or.inr d_2)).symm)
        · have d_2 := of_decide_eq_true c_3
          refine aw_iload dX3_tickByTick_50 rfl ?_
          exact aw_iret rfl (by decide) (by decide) dX3_tickByTick_52 (rI_of (by rw [← he, show perN (V (4 + a)) * perN (V (4 + c)) + 1 - u = (perN (V (4 + a)) * perN (V (4 + c)) + 1 - (u + 1)) + 1 by omega, mtF_yes d_1 d_2]; rfl))
set_option maxHeartbeats 4000000 in
theorem s_tbt {l : Launch} {G : GT} {n : Nat} {f : HT} {o : Nat} {J : Nat → Int32} {B : Nat → Nat → Int32} {K : Nat} {V : Nat → Nat} (hS : SV J B V) (hB : VB K V) {a c : Nat} (ha : a < V 2) (hc : c < V 2) : AM l G yX3_tickByTick (.code yX3_tickByTick cX3_tickByTick 6 (some .int)) 3 180 0 0 [.ref o, .int (nI a), .int (nI c)] (sU f o J B) n (rI (mtI (mtV V a c)) (sU f o J B) n) := by
  refine aw_enter (M := MX3_tickByTick) rfl rfl (by decide +kernel) rfl (Nat.le_of_ble_eq_true rfl) ?_
  have hcnt := VB.cnt hB
  have hleg := VB.legs hB
  have hfr := VB.fric hB
  have hnow := VB.now hB
  have hkk := VB.kk hB
  have haxa := VB.amp hB (k := a) (by omega)
  have hsxa := VB.start hB (k := a) (by omega)
  have hlxa := VB.len hB (k := a) (by omega)
  have hl1a := VB.len1 hB (k := a) (by omega)
  have hwxa := VB.sw hB (k := a) (by omega)
  have hppa := per_pos hl1a
  have hpla := per_le hlxa
  have haxc := VB.amp hB (k := c) (by omega)
  have hsxc := VB.start hB (k := c) (by omega)
  have hlxc := VB.len hB (k := c) (by omega)
  have hl1c := VB.len1 hB (k := c) (by omega)
  have hwxc := VB.sw hB (k := c) (by omega)
  have hppc := per_pos hl1c
  have hplc := per_le hlxc
  show AW l G MX3_tickByTick 3 180 0 0 _ n 0 0 0 [(0, .ref o), (1, .int (nI a)), (2, .int (nI c))] [] _ n
  refine aw_aload_n dX3_tickByTick_0 rfl rfl ?_
  refine aw_iload_n dX3_tickByTick_1 rfl rfl ?_
  refine aw_vI (as := [Value.int (nI a)]) (rest := []) mV_X8_periodAt (s_per hS hB (k := a) (by omega)) ml_X3_9 sU_0 rfl dX3_tickByTick_2 rfl rfl (by decide) (Nat.le_of_ble_eq_true rfl) (by decide) ?_
  refine aw_aload_n dX3_tickByTick_5 rfl rfl ?_
  refine aw_iload_n dX3_tickByTick_6 rfl rfl ?_
  refine aw_vI (as := [Value.int (nI c)]) (rest := [Value.int (nI (perN (V (4 + a))))]) mV_X8_periodAt (s_per hS hB (k := c) (by omega)) ml_X3_9 sU_0 rfl dX3_tickByTick_7 rfl rfl (by decide) (Nat.le_of_ble_eq_true rfl) (by decide) ?_
  refine aw_imul_n dX3_tickByTick_10 ?_
  refine aw_istore_n (L' := [(3, .int (nI ((perN (V (4 + a))) * (perN (V (4 + c)))))), (0, .ref o), (1, .int (nI a)), (2, .int (nI c))]) dX3_tickByTick_11 rfl (by decide) rfl ?_
  refine aw_iconst_n 1 dX3_tickByTick_12 (by decide) ?_
  refine aw_istore (L' := [(4, .int (nI 1)), (3, .int (nI ((perN (V (4 + a))) * (perN (V (4 + c)))))), (0, .ref o), (1, .int (nI a)), (2, .int (nI c))]) dX3_tickByTick_13 (by decide) rfl ?_
  have h := s_tbt_loop (l := l) (G := G) (n := n) (f := f) (o := o) hS hB ha hc _ 1 rfl (by decide) (by omega) (by rw [Nat.add_sub_cancel])
  have e9 : mtV V a c = mtF (V (20 + a)) (perN (V (4 + a))) (V (20 + c)) (perN (V (4 + c))) (perN (V (4 + a)) * perN (V (4 + c))) (V 0 + 1) := (mt_long (cy_dvd1 _ _) (cy_dvd2 _ _) (cy_pos (by omega) (by omega)) (by omega) (by omega) (cy_le_mul _ _)).symm
  rw [e9]
  exact aw_sub [(4, .int (nI 1)), (3, .int (nI (perN (V (4 + a)) * perN (V (4 + c))))), (0, .ref o), (1, .int (nI a)), (2, .int (nI c))] (by simp) h
abbrev MX3_everMeet : MT := (RX3, cX3_everMeet, 4, (some .boolean), [], "everMeet")
set_option maxHeartbeats 4000000 in
theorem s_ever {l : Launch} {G : GT} {n : Nat} {f : HT} {o : Nat} {J : Nat → Int32} {B : Nat → Nat → Int32} {K : Nat} {V : Nat → Nat} (hS : SV J B V) (hB : VB K V) {a c : Nat} (ha : a < V 2) (hc : c < V 2) : AM l G yX3_everMeet (.code yX3_everMeet cX3_everMeet 4 (some .boolean)) 2 120 0 0 [.ref o, .int (nI a), .int (nI c)] (sU f o J B) n (rI (bI (decide (apart (V (20 + a)) (V (20 + c)) % Nat.gcd (perN (V (4 + a))) (perN (V (4 + c))) = 0))) (sU f o J B) n) := by
  refine aw_enter (M := MX3_everMeet) rfl rfl (by decide +kernel) rfl (Nat.le_of_ble_eq_true rfl) ?_
  have hcnt := VB.cnt hB
  have hleg := VB.legs hB
  have hfr := VB.fric hB
  have hnow := VB.now hB
  have hkk := VB.kk hB
  have haxa := VB.amp hB (k := a) (by omega)
  have hsxa := VB.start hB (k := a) (by omega)
  have hlxa := VB.len hB (k := a) (by omega)
  have hl1a := VB.len1 hB (k := a) (by omega)
  have hwxa := VB.sw hB (k := a) (by omega)
  have hppa := per_pos hl1a
  have hpla := per_le hlxa
  have haxc := VB.amp hB (k := c) (by omega)
  have hsxc := VB.start hB (k := c) (by omega)
  have hlxc := VB.len hB (k := c) (by omega)
  have hl1c := VB.len1 hB (k := c) (by omega)
  have hwxc := VB.sw hB (k := c) (by omega)
  have hppc := per_pos hl1c
  have hplc := per_le hlxc
  have hgp := Nat.gcd_pos_of_pos_left (perN (V (4 + c))) (show 0 < perN (V (4 + a)) by omega)
  have hgl := Nat.gcd_le_left (perN (V (4 + c))) (show 0 < perN (V (4 + a)) by omega)
  show AW l G MX3_everMeet 2 120 0 0 _ n 0 0 0 [(0, .ref o), (1, .int (nI a)), (2, .int (nI c))] [] _ n
  refine aw_aload_n dX3_everMeet_0 rfl rfl ?_
  refine aw_iload_n dX3_everMeet_1 rfl rfl ?_
  refine aw_vI (as := [Value.int (nI a)]) (rest := []) mV_X8_periodAt (s_per hS hB (k := a) (by omega)) ml_X3_9 sU_0 rfl dX3_everMeet_2 rfl rfl (by decide) (Nat.le_of_ble_eq_true rfl) (by decide) ?_
  refine aw_aload_n dX3_everMeet_5 rfl rfl ?_
  refine aw_iload_n dX3_everMeet_6 rfl rfl ?_
  refine aw_vI (as := [Value.int (nI c)]) (rest := [Value.int (nI (perN (V (4 + a))))]) mV_X8_periodAt (s_per hS hB (k := c) (by omega)) ml_X3_9 sU_0 rfl dX3_everMeet_7 rfl rfl (by decide) (Nat.le_of_ble_eq_true rfl) (by decide) ?_
  refine aw_sI (as := [Value.int (nI (perN (V (4 + a)))), Value.int (nI (perN (V (4 + c))))]) (rest := []) mS_X4_greatestDivisor (n_gcd (by omega) (by omega)) ml_X3_37 dX3_everMeet_10 rfl rfl (by decide) (Nat.le_of_ble_eq_true rfl) (by decide) ?_
  refine aw_istore_n (L' := [(3, .int (nI (Nat.gcd (perN (V (4 + a))) (perN (V (4 + c)))))), (0, .ref o), (1, .int (nI a)), (2, .int (nI c))]) dX3_everMeet_13 rfl (by decide) rfl ?_
  refine aw_iload_n dX3_everMeet_14 rfl rfl ?_
  refine aw_aload_n dX3_everMeet_15 rfl rfl ?_
  refine aw_iload_n dX3_everMeet_16 rfl rfl ?_
  refine aw_vI (as := [Value.int (nI a)]) (rest := [Value.int (nI (Nat.gcd (perN (V (4 + a))) (perN (V (4 + c)))))]) mV_X8_startAt (s_start hS hB (k := a) (by omega)) ml_X3_25 sU_0 rfl dX3_everMeet_17 rfl rfl (by decide) (Nat.le_of_ble_eq_true rfl) (by decide) ?_
  refine aw_aload_n dX3_everMeet_20 rfl rfl ?_
  refine aw_iload_n dX3_everMeet_21 rfl rfl ?_
  refine aw_vI (as := [Value.int (nI c)]) (rest := [Value.int (nI (V (20 + a))), Value.int (nI (Nat.gcd (perN (V (4 + a))) (perN (V (4 + c)))))]) mV_X8_startAt (s_start hS hB (k := c) (by omega)) ml_X3_25 sU_0 rfl dX3_everMeet_22 rfl rfl (by decide) (Nat.le_of_ble_eq_true rfl) (by decide) ?_
  refine aw_isub dX3_everMeet_25 ?_
  refine aw_sI (as := [Value.int (nI (Nat.gcd (perN (V (4 + a))) (perN (V (4 + c))))), Value.int ((nI (V (20 + a))) - (nI (V (20 + c))))]) (rest := []) mS_X4_divides (n_div (by omega)) ml_X3_28 dX3_everMeet_26 rfl rfl (by decide) (Nat.le_of_ble_eq_true rfl) (by decide) ?_
  rw [dv_sub (by omega) (by omega) (by omega) (by omega)]
  exact aw_zret rfl (bI_nar _) (by decide) (by decide) dX3_everMeet_29 (rI_of (by rfl))
abbrev MX3_byDivisors : MT := (RX3, cX3_byDivisors, 9, (some .int), [], "byDivisors")
set_option maxHeartbeats 4000000 in
theorem s_byd {l : Launch} {G : GT} {n : Nat} {f : HT} {o : Nat} {J : Nat → Int32} {B : Nat → Nat → Int32} {K : Nat} {V : Nat → Nat} (hS : SV J B V) (hB : VB K V) {a c : Nat} (ha : a < V 2) (hc : c < V 2) : AM l G yX3_byDivisors (.code yX3_byDivisors cX3_byDivisors 9 (some .int)) 3 180 0 0 [.ref o, .int (nI a), .int (nI c)] (sU f o J B) n (rI (mtI (mtV V a c)) (sU f o J B) n) := by
  refine aw_enter (M := MX3_byDivisors) rfl rfl (by decide +kernel) rfl (Nat.le_of_ble_eq_true rfl) ?_
  have hcnt := VB.cnt hB
  have hleg := VB.legs hB
  have hfr := VB.fric hB
  have hnow := VB.now hB
  have hkk := VB.kk hB
  have haxa := VB.amp hB (k := a) (by omega)
  have hsxa := VB.start hB (k := a) (by omega)
  have hlxa := VB.len hB (k := a) (by omega)
  have hl1a := VB.len1 hB (k := a) (by omega)
  have hwxa := VB.sw hB (k := a) (by omega)
  have hppa := per_pos hl1a
  have hpla := per_le hlxa
  have haxc := VB.amp hB (k := c) (by omega)
  have hsxc := VB.start hB (k := c) (by omega)
  have hlxc := VB.len hB (k := c) (by omega)
  have hl1c := VB.len1 hB (k := c) (by omega)
  have hwxc := VB.sw hB (k := c) (by omega)
  have hppc := per_pos hl1c
  have hplc := per_le hlxc
  have hgp := Nat.gcd_pos_of_pos_left (perN (V (4 + c))) (show 0 < perN (V (4 + a)) by omega)
  have hgl := Nat.gcd_le_left (perN (V (4 + c))) (show 0 < perN (V (4 + a)) by omega)
  have hgr := Nat.gcd_le_right (perN (V (4 + a))) (show 0 < perN (V (4 + c)) by omega)
  have hqa : perN (V (4 + a)) / Nat.gcd (perN (V (4 + a))) (perN (V (4 + c))) ≤ perN (V (4 + a)) := Nat.div_le_self _ _
  have hqc : perN (V (4 + c)) / Nat.gcd (perN (V (4 + a))) (perN (V (4 + c))) ≤ perN (V (4 + c)) := Nat.div_le_self _ _
  have hqp : 0 < perN (V (4 + c)) / Nat.gcd (perN (V (4 + a))) (perN (V (4 + c))) := Nat.div_pos hgr hgp
  have hma := Nat.mod_lt (V 0 - V (20 + a)) (show 0 < perN (V (4 + a)) by omega)
  have hmc := Nat.mod_lt (V 0 - V (20 + c)) (show 0 < perN (V (4 + c)) by omega)
  have hna : nxN V a = V 0 + perN (V (4 + a)) - (V 0 - V (20 + a)) % perN (V (4 + a)) := rfl
  have hnc : nxN V c = V 0 + perN (V (4 + c)) - (V 0 - V (20 + c)) % perN (V (4 + c)) := rfl
  show AW l G MX3_byDivisors 3 180 0 0 _ n 0 0 0 [(0, .ref o), (1, .int (nI a)), (2, .int (nI c))] [] _ n
  refine aw_aload_n dX3_byDivisors_0 rfl rfl ?_
  refine aw_iload_n dX3_byDivisors_1 rfl rfl ?_
  refine aw_iload_n dX3_byDivisors_2 rfl rfl ?_
  refine aw_sI (as := [Value.ref o, Value.int (nI a), Value.int (nI c)]) (rest := []) mS_X3_everMeet (s_ever hS hB (a := a) (c := c) (by omega) (by omega)) ml_X3_34 dX3_byDivisors_3 rfl rfl (by decide) (Nat.le_of_ble_eq_true rfl) (by decide) ?_
  refine aw_if_ne_b (tgt := 11) dX3_byDivisors_6 (by decide) (fun c_1 => ?_) (fun c_1 => ?_)
  · have d_1 := of_decide_eq_true c_1
    obtain ⟨i9, k9, hbi, hi60, hk60, hbk, hbm⟩ := by_main (T := V 0) hsxa hsxc (by omega) (by omega) (by omega) hpla hplc d_1
    rw [← hna, ← hnc] at hbk
    have hkp : k9 * perN (V (4 + a)) ≤ 60 * 59 := Nat.mul_le_mul (by omega) hpla
    refine aw_aload_n dX3_byDivisors_11 rfl rfl ?_
    refine aw_iload_n dX3_byDivisors_12 rfl rfl ?_
    refine aw_vI (as := [Value.int (nI a)]) (rest := []) mV_X8_periodAt (s_per hS hB (k := a) (by omega)) ml_X3_9 sU_0 rfl dX3_byDivisors_13 rfl rfl (by decide) (Nat.le_of_ble_eq_true rfl) (by decide) ?_
    refine aw_istore_n (L' := [(3, .int (nI (perN (V (4 + a))))), (0, .ref o), (1, .int (nI a)), (2, .int (nI c))]) dX3_byDivisors_16 rfl (by decide) rfl ?_
    refine aw_iload_n dX3_byDivisors_17 rfl rfl ?_
    refine aw_aload_n dX3_byDivisors_18 rfl rfl ?_
    refine aw_iload_n dX3_byDivisors_19 rfl rfl ?_
    refine aw_vI (as := [Value.int (nI c)]) (rest := [Value.int (nI (perN (V (4 + a))))]) mV_X8_periodAt (s_per hS hB (k := c) (by omega)) ml_X3_9 sU_0 rfl dX3_byDivisors_20 rfl rfl (by decide) (Nat.le_of_ble_eq_true rfl) (by decide) ?_
    refine aw_sI (as := [Value.int (nI (perN (V (4 + a)))), Value.int (nI (perN (V (4 + c))))]) (rest := []) mS_X4_greatestDivisor (n_gcd (by omega) (by omega)) ml_X3_37 dX3_byDivisors_23 rfl rfl (by decide) (Nat.le_of_ble_eq_true rfl) (by decide) ?_
    refine aw_istore (L' := [(4, .int (nI (Nat.gcd (perN (V (4 + a))) (perN (V (4 + c)))))), (3, .int (nI (perN (V (4 + a))))), (0, .ref o), (1, .int (nI a)), (2, .int (nI c))]) dX3_byDivisors_26 (by decide) rfl ?_
    refine aw_aload_n dX3_byDivisors_28 rfl rfl ?_
    refine aw_iload_n dX3_byDivisors_29 rfl rfl ?_
    refine aw_vI (as := [Value.int (nI c)]) (rest := []) mV_X8_periodAt (s_per hS hB (k := c) (by omega)) ml_X3_9 sU_0 rfl dX3_byDivisors_30 rfl rfl (by decide) (Nat.le_of_ble_eq_true rfl) (by decide) ?_
    refine aw_iload dX3_byDivisors_33 rfl ?_
    refine aw_sI (as := [Value.int (nI (perN (V (4 + c)))), Value.int (nI (Nat.gcd (perN (V (4 + a))) (perN (V (4 + c)))))]) (rest := []) mS_X4_quotient (n_quot (by omega) (by omega)) ml_X3_41 dX3_byDivisors_35 rfl rfl (by decide) (Nat.le_of_ble_eq_true rfl) (by decide) ?_
    refine aw_istore (L' := [(5, .int (nI ((perN (V (4 + c))) / (Nat.gcd (perN (V (4 + a))) (perN (V (4 + c))))))), (4, .int (nI (Nat.gcd (perN (V (4 + a))) (perN (V (4 + c)))))), (3, .int (nI (perN (V (4 + a))))), (0, .ref o), (1, .int (nI a)), (2, .int (nI c))]) dX3_byDivisors_38 (by decide) rfl ?_
    refine aw_iload dX3_byDivisors_40 rfl ?_
    refine aw_if_gt_n (by omega) (tgt := 47) dX3_byDivisors_42 (by decide) (fun c_2 => ?_) (fun c_2 => by exfalso; omega)
    refine aw_aload_n dX3_byDivisors_47 rfl rfl ?_
    refine aw_iload_n dX3_byDivisors_48 rfl rfl ?_
    refine aw_vI (as := [Value.int (nI a)]) (rest := []) mV_X8_nextSwing (s_next hS hB (k := a) (by omega)) ml_X3_44 sU_0 rfl dX3_byDivisors_49 rfl rfl (by decide) (Nat.le_of_ble_eq_true rfl) (by decide) ?_
    refine aw_istore (L' := [(6, .int (nI (nxN V a))), (5, .int (nI ((perN (V (4 + c))) / (Nat.gcd (perN (V (4 + a))) (perN (V (4 + c))))))), (4, .int (nI (Nat.gcd (perN (V (4 + a))) (perN (V (4 + c)))))), (3, .int (nI (perN (V (4 + a))))), (0, .ref o), (1, .int (nI a)), (2, .int (nI c))]) dX3_byDivisors_52 (by decide) rfl ?_
    refine aw_aload_n dX3_byDivisors_54 rfl rfl ?_
    refine aw_iload_n dX3_byDivisors_55 rfl rfl ?_
    refine aw_vI (as := [Value.int (nI c)]) (rest := []) mV_X8_nextSwing (s_next hS hB (k := c) (by omega)) ml_X3_44 sU_0 rfl dX3_byDivisors_56 rfl rfl (by decide) (Nat.le_of_ble_eq_true rfl) (by decide) ?_
    refine aw_iload dX3_byDivisors_59 rfl ?_
    refine aw_isub dX3_byDivisors_61 ?_
    refine aw_iload dX3_byDivisors_62 rfl ?_
    refine aw_sI (as := [Value.int ((nI (nxN V c)) - (nI (nxN V a))), Value.int (nI (Nat.gcd (perN (V (4 + a))) (perN (V (4 + c)))))]) (rest := []) mS_X4_quotient (n_quotI (by omega) (by omega)) ml_X3_41 dX3_byDivisors_64 rfl rfl (by decide) (Nat.le_of_ble_eq_true rfl) (by decide) ?_
    refine aw_istore (L' := [(7, .int ((nI (nxN V c) - nI (nxN V a)) / nI (Nat.gcd (perN (V (4 + a))) (perN (V (4 + c)))))), (6, .int (nI (nxN V a))), (5, .int (nI ((perN (V (4 + c))) / (Nat.gcd (perN (V (4 + a))) (perN (V (4 + c))))))), (4, .int (nI (Nat.gcd (perN (V (4 + a))) (perN (V (4 + c)))))), (3, .int (nI (perN (V (4 + a))))), (0, .ref o), (1, .int (nI a)), (2, .int (nI c))]) dX3_byDivisors_67 (by decide) rfl ?_
    refine aw_iload_n dX3_byDivisors_69 rfl rfl ?_
    refine aw_iload dX3_byDivisors_70 rfl ?_
    refine aw_sI (as := [Value.int (nI (perN (V (4 + a)))), Value.int (nI (Nat.gcd (perN (V (4 + a))) (perN (V (4 + c)))))]) (rest := []) mS_X4_quotient (n_quot (by omega) (by omega)) ml_X3_41 dX3_byDivisors_72 rfl rfl (by decide) (Nat.le_of_ble_eq_true rfl) (by decide) ?_
    refine aw_iload dX3_byDivisors_75 rfl ?_
    refine aw_sI (as := [Value.int (nI ((perN (V (4 + a))) / (Nat.gcd (perN (V (4 + a))) (perN (V (4 + c)))))), Value.int (nI ((perN (V (4 + c))) / (Nat.gcd (perN (V (4 + a))) (perN (V (4 + c))))))]) (rest := []) mS_X4_inverse (n_inv (by omega) (by omega) (by omega)) ml_X3_47 dX3_byDivisors_77 rfl rfl (by decide) (Nat.le_of_ble_eq_true rfl) (by decide) ?_
    rw [hbi]
    refine aw_istore (L' := [(8, .int (nI i9)), (7, .int ((nI (nxN V c) - nI (nxN V a)) / nI (Nat.gcd (perN (V (4 + a))) (perN (V (4 + c)))))), (6, .int (nI (nxN V a))), (5, .int (nI ((perN (V (4 + c))) / (Nat.gcd (perN (V (4 + a))) (perN (V (4 + c))))))), (4, .int (nI (Nat.gcd (perN (V (4 + a))) (perN (V (4 + c)))))), (3, .int (nI (perN (V (4 + a))))), (0, .ref o), (1, .int (nI a)), (2, .int (nI c))]) dX3_byDivisors_80 (by decide) rfl ?_
    refine aw_iload dX3_byDivisors_82 rfl ?_
    refine aw_iload dX3_byDivisors_84 rfl ?_
    refine aw_iload dX3_byDivisors_86 rfl ?_
    refine aw_imul dX3_byDivisors_88 ?_
    refine aw_iload dX3_byDivisors_89 rfl ?_
    refine aw_sI (as := [Value.int (((nI (nxN V c) - nI (nxN V a)) / nI (Nat.gcd (perN (V (4 + a))) (perN (V (4 + c))))) * (nI i9)), Value.int (nI ((perN (V (4 + c))) / (Nat.gcd (perN (V (4 + a))) (perN (V (4 + c))))))]) (rest := [Value.int (nI (nxN V a))]) mS_J9_floorMod_7cf53 (n_fmod (fun z => by have := (nI_eq0 (show (perN (V (4 + c))) / (Nat.gcd (perN (V (4 + a))) (perN (V (4 + c)))) < 2 ^ 31 by omega)).mp z; omega)) ml_X3_50 dX3_byDivisors_91 rfl rfl (by decide) (Nat.le_of_ble_eq_true rfl) (by decide) ?_
    rw [hbk]
    refine aw_iload_n dX3_byDivisors_94 rfl rfl ?_
    refine aw_imul_n dX3_byDivisors_95 ?_
    refine aw_iadd_n dX3_byDivisors_96 ?_
    have e9 : mtV V a c = some (nxN V a + k9 * perN (V (4 + a))) := hbm
    rw [e9]
    exact aw_iret rfl (by decide) (by decide) dX3_byDivisors_97 (rI_of rfl)
  · refine aw_iconst (v := -1) dX3_byDivisors_9 (by decide) ?_
    have d_1 := of_decide_eq_false c_1
    have e9 : mtV V a c = none := mtF_none _ _ (fun y h1 h2 hm => d_1 (mts_gcd (by omega) (by omega) hm))
    rw [e9]
    exact aw_iret rfl (by decide) (by decide) dX3_byDivisors_10 (rI_of rfl)
abbrev MX3_pairs : MT := (RX3, cX3_pairs, 4, (some .int), [], "pairs")
set_option maxHeartbeats 4000000 in
theorem s_prI_loop {l : Launch} {G : GT} {n : Nat} {f : HT} {o : Nat} {J : Nat → Int32} {B : Nat → Nat → Int32} {K : Nat} {V : Nat → Nat} (hS : SV J B V) (hB : VB K V) {c tot : Nat} (hc9 : c < V 2) (ht9 : tot ≤ 64) (hN : AW l G MX3_pairs 3 180 0 0 (rI (nI (prO V (V 2))) (sU f o J B) n) n 0 0 53 [(1, .int (nI (tot + prI V c c))), (2, .int (nI c)), (0, .ref o)] [] (sU f o J B) n) : ∀ (N : Nat) (a : Nat), (c - a = N) → (a ≤ c) → AW l G MX3_pairs 3 180 0 0 (rI (nI (prO V (V 2))) (sU f o J B) n) n 0 0 14 [(3, .int (nI a)), (1, .int (nI (tot + prI V c a))), (2, .int (nI c)), (0, .ref o)] [] (sU f o J B) n := by
  intro N
  induction N using Nat.strongRecOn with
  | ind N ih =>
    intro a hM ha
    have hcnt := VB.cnt hB
    have hleg := VB.legs hB
    have hfr := VB.fric hB
    have hnow := VB.now hB
    have hkk := VB.kk hB
    have hpl9 := prI_le V c a
    refine aw_iload_n dX3_pairs_14 rfl rfl ?_
    refine aw_iload_n dX3_pairs_15 rfl rfl ?_
    refine aw_icmp_ge_n (by omega) (by omega) (tgt := 53) dX3_pairs_16 (by decide) (fun c_1 => ?_) (fun c_1 => ?_)
    · have e : a = c := by omega
      subst e
      exact aw_sub _ (by simp) hN
    · refine aw_aload_n dX3_pairs_19 rfl rfl ?_
      refine aw_iload_n dX3_pairs_20 rfl rfl ?_
      refine aw_vI (as := [Value.int (nI c)]) (rest := []) mV_X8_isSwinging (s_swinging hS hB (k := c) (by omega)) ml_X3_58 sU_0 rfl dX3_pairs_21 rfl rfl (by decide) (Nat.le_of_ble_eq_true rfl) (by decide) ?_
      refine aw_if_eq_b (tgt := 47) dX3_pairs_24 (by decide) (fun c_2 => ?_) (fun c_2 => ?_)
      · have d_1 := of_decide_eq_false c_2
        refine aw_iinc_n (L' := [(3, .int (nI (a + 1))), (1, .int (nI (tot + prI V c a))), (2, .int (nI c)), (0, .ref o)]) 1 dX3_pairs_47 rfl (by decide) (by decide) rfl ?_
        refine aw_goto (tgt := 14) dX3_pairs_50 (by decide) ?_
        have hpb : pairB V a c = false := decide_eq_false (fun z => d_1 z.2.1)
        have e : prI V c (a + 1) = prI V c a := by show prI V c a + _ = _; rw [hpb]; rfl
        refine aw_sub [(3, .int (nI (a + 1))), (1, .int (nI (tot + prI V c (a + 1)))), (2, .int (nI c)), (0, .ref o)] (by rw [e]; simp [Nat.add_assoc]) ?_
        exact ih _ (by omega) (a + 1) rfl (by omega)
      · have d_1 := of_decide_eq_true c_2
        refine aw_aload_n dX3_pairs_27 rfl rfl ?_
        refine aw_iload_n dX3_pairs_28 rfl rfl ?_
        refine aw_vI (as := [Value.int (nI a)]) (rest := []) mV_X8_isSwinging (s_swinging hS hB (k := a) (by omega)) ml_X3_58 sU_0 rfl dX3_pairs_29 rfl rfl (by decide) (Nat.le_of_ble_eq_true rfl) (by decide) ?_
        refine aw_if_eq_b (tgt := 47) dX3_pairs_32 (by decide) (fun c_3 => ?_) (fun c_3 => ?_)
        · have d_2 := of_decide_eq_false c_3
          refine aw_iinc_n (L' := [(3, .int (nI (a + 1))), (1, .int (nI (tot + prI V c a))), (2, .int (nI c)), (0, .ref o)]) 1 dX3_pairs_47 rfl (by decide) (by decide) rfl ?_
          refine aw_goto (tgt := 14) dX3_pairs_50 (by decide) ?_
          have hpb : pairB V a c = false := decide_eq_false (fun z => d_2 z.1)
          have e : prI V c (a + 1) = prI V c a := by show prI V c a + _ = _; rw [hpb]; rfl
          refine aw_sub [(3, .int (nI (a + 1))), (1, .int (nI (tot + prI V c (a + 1)))), (2, .int (nI c)), (0, .ref o)] (by rw [e]; simp [Nat.add_assoc]) ?_
          exact ih _ (by omega) (a + 1) rfl (by omega)
        · have d_2 := of_decide_eq_true c_3
          refine aw_aload_n dX3_pairs_35 rfl rfl ?_
          refine aw_iload_n dX3_pairs_36 rfl rfl ?_
          refine aw_iload_n dX3_pairs_37 rfl rfl ?_
          refine aw_sI (as := [Value.ref o, Value.int (nI c), Value.int (nI a)]) (rest := []) mS_X3_everMeet (s_ever hS hB (a := c) (c := a) (by omega) (by omega)) ml_X3_34 dX3_pairs_38 rfl rfl (by decide) (Nat.le_of_ble_eq_true rfl) (by decide) ?_
          refine aw_if_eq_b (tgt := 47) dX3_pairs_41 (by decide) (fun c_4 => ?_) (fun c_4 => ?_)
          · have d_3 := of_decide_eq_false c_4
            refine aw_iinc_n (L' := [(3, .int (nI (a + 1))), (1, .int (nI (tot + prI V c a))), (2, .int (nI c)), (0, .ref o)]) 1 dX3_pairs_47 rfl (by decide) (by decide) rfl ?_
            refine aw_goto (tgt := 14) dX3_pairs_50 (by decide) ?_
            have hpb : pairB V a c = false := decide_eq_false (fun z => d_3 (by rw [apart_comm, Nat.gcd_comm]; exact z.2.2))
            have e : prI V c (a + 1) = prI V c a := by show prI V c a + _ = _; rw [hpb]; rfl
            refine aw_sub [(3, .int (nI (a + 1))), (1, .int (nI (tot + prI V c (a + 1)))), (2, .int (nI c)), (0, .ref o)] (by rw [e]; simp [Nat.add_assoc]) ?_
            exact ih _ (by omega) (a + 1) rfl (by omega)
          · have d_3 := of_decide_eq_true c_4
            refine aw_iinc_n (L' := [(1, .int (nI ((tot + prI V c a) + 1))), (3, .int (nI a)), (2, .int (nI c)), (0, .ref o)]) 1 dX3_pairs_44 rfl (by decide) (by decide) rfl ?_
            refine aw_iinc_n (L' := [(3, .int (nI (a + 1))), (1, .int (nI ((tot + prI V c a) + 1))), (2, .int (nI c)), (0, .ref o)]) 1 dX3_pairs_47 rfl (by decide) (by decide) rfl ?_
            refine aw_goto (tgt := 14) dX3_pairs_50 (by decide) ?_
            have hpb : pairB V a c = true := decide_eq_true ⟨d_2, d_1, by rw [apart_comm, Nat.gcd_comm]; exact d_3⟩
            have e : prI V c (a + 1) = (prI V c a) + 1 := by show prI V c a + _ = _; rw [hpb]; rfl
            refine aw_sub [(3, .int (nI (a + 1))), (1, .int (nI (tot + prI V c (a + 1)))), (2, .int (nI c)), (0, .ref o)] (by rw [e]; simp [Nat.add_assoc]) ?_
            exact ih _ (by omega) (a + 1) rfl (by omega)
set_option maxHeartbeats 4000000 in
theorem s_prO_loop {l : Launch} {G : GT} {n : Nat} {f : HT} {o : Nat} {J : Nat → Int32} {B : Nat → Nat → Int32} {K : Nat} {V : Nat → Nat} (hS : SV J B V) (hB : VB K V) : ∀ (N : Nat) (c : Nat), (V 2 - c = N) → (c ≤ V 2) → AW l G MX3_pairs 3 180 0 0 (rI (nI (prO V (V 2))) (sU f o J B) n) n 0 0 4 [(2, .int (nI c)), (1, .int (nI (prO V c))), (0, .ref o)] [] (sU f o J B) n := by
  intro N
  induction N using Nat.strongRecOn with
  | ind N ih =>
    intro c hN hc9
    have hcnt := VB.cnt hB
    have hleg := VB.legs hB
    have hfr := VB.fric hB
    have hnow := VB.now hB
    have hkk := VB.kk hB
    have hpo := prO_le V c hcnt hc9
    refine aw_iload_n dX3_pairs_4 rfl rfl ?_
    refine aw_aload_n dX3_pairs_5 rfl rfl ?_
    refine aw_get (v := .int (nI (V 2))) fl_X3_55 sU_0 (congrArg (fun z => some (Value.int z)) hS.cnt) dX3_pairs_6 ?_
    refine aw_icmp_ge_n (by omega) (by omega) (tgt := 59) dX3_pairs_9 (by decide) (fun c_1 => ?_) (fun c_1 => ?_)
    · refine aw_iload_n dX3_pairs_59 rfl rfl ?_
      exact aw_iret rfl (by decide) (by decide) dX3_pairs_60 (rI_of (by rw [show c = V 2 by omega]))
    · refine aw_iconst_n 0 dX3_pairs_12 (by decide) ?_
      refine aw_istore_n (L' := [(3, .int (nI 0)), (2, .int (nI c)), (1, .int (nI (prO V c))), (0, .ref o)]) dX3_pairs_13 rfl (by decide) rfl ?_
      refine aw_sub [(3, .int (nI 0)), (1, .int (nI (prO V c + prI V c 0))), (2, .int (nI c)), (0, .ref o)] (by simp [prI]) ?_
      refine s_prI_loop hS hB (by omega) (by omega) ?_ _ 0 rfl (Nat.zero_le _)
      refine aw_iinc_n (L' := [(2, .int (nI (c + 1))), (1, .int (nI (prO V c + prI V c c))), (0, .ref o)]) 1 dX3_pairs_53 rfl (by decide) (by decide) rfl ?_
      refine aw_goto (tgt := 4) dX3_pairs_56 (by decide) ?_
      refine aw_sub [(2, .int (nI (c + 1))), (1, .int (nI (prO V (c + 1)))), (0, .ref o)] (by simp [prO]) ?_
      exact ih _ (by omega) (c + 1) rfl (by omega)
set_option maxHeartbeats 4000000 in
theorem s_pairs {l : Launch} {G : GT} {n : Nat} {f : HT} {o : Nat} {J : Nat → Int32} {B : Nat → Nat → Int32} {K : Nat} {V : Nat → Nat} (hS : SV J B V) (hB : VB K V) : AM l G yX3_pairs (.code yX3_pairs cX3_pairs 4 (some .int)) 3 180 0 0 [.ref o] (sU f o J B) n (rI (nI (prO V (V 2))) (sU f o J B) n) := by
  refine aw_enter (M := MX3_pairs) rfl rfl (by decide +kernel) rfl (Nat.le_of_ble_eq_true rfl) ?_
  show AW l G MX3_pairs 3 180 0 0 _ n 0 0 0 [(0, .ref o)] [] _ n
  refine aw_iconst_n 0 dX3_pairs_0 (by decide) ?_
  refine aw_istore_n (L' := [(1, .int (nI 0)), (0, .ref o)]) dX3_pairs_1 rfl (by decide) rfl ?_
  refine aw_iconst_n 0 dX3_pairs_2 (by decide) ?_
  refine aw_istore_n (L' := [(2, .int (nI 0)), (1, .int (nI 0)), (0, .ref o)]) dX3_pairs_3 rfl (by decide) rfl ?_
  exact aw_sub [(2, .int (nI 0)), (1, .int (nI 0)), (0, .ref o)] (by simp [prO]) (s_prO_loop hS hB _ 0 rfl (Nat.zero_le _))
